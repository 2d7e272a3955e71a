section ZW
variable {p : Program} {l : Launch} {e : Env} {s : State} {m : MethodId} {args : Array Value} {below : List Frame} {meth : Method} {c : Code} {g : zs_G} {A : Nat → Prop}
set_option maxHeartbeats 4000000 in
set_option maxRecDepth 100000 in
theorem zc_AD_has (l : Launch) (g : zs_G) (A : Nat → Prop) {d0 n0 : Nat} {l1 : Int32} {l2 : Int32} (hd0 : d0 < zs_N ∧ zs_ly d0 = (3, n0, [])) {st : zs_T} {K : Int32 → zs_T → Prop} (h : zf_AD_has d0 n0 l1 l2 st K) : Met l yAD_has (.code yAD_has cAD_has 3 (some .boolean) :: zs_tb) (zs_rm 0 0) (zs_Pc zs_nl g zs_ly zs_N A [.ref (g.2.1 d0), .int l1, .int l2] st) (zs_Qi g zs_ly zs_N A K) 0 0 A := by
  refine zs_met (cc := cAD_has) (maxL := 3) (ret := (some .boolean)) (by decide) (Nat.le_of_ble_eq_true rfl) (fun p e s m below meth c hM => ?_)
  have hM : zs_M p c cAD_has 3 s m meth [.ref (g.2.1 d0), .int l1, .int l2].toArray "ThriftyStores$Addresses" (some .boolean) g := hM
  obtain ⟨hx, hb, hml, hr, hlk, hts, hown, hK⟩ := id hM
  intro ls H locs hl hP hS
  have hl : lv_has ls 3 [(0, .ref (g.2.1 d0)), (1, .int l1), (2, .int l2)] := hl
  unfold zf_AD_has at h
  refine lv_aload_n hx hb dAD_has_0 rfl (lv_at hl 0 rfl) ?_
  refine lv_iload_n hx hb dAD_has_1 rfl (lv_at hl 1 rfl) ?_
  refine lv_iconst (v := 4) hx hb dAD_has_2 (by decide) ?_
  refine lv_imul hx hb dAD_has_3 ?_
  refine lv_iload_n hx hb dAD_has_4 rfl (lv_at hl 2 rfl) ?_
  refine lv_bipush (v := 6) hx hb dAD_has_5 (by decide) ?_
  refine lv_ishr hx hb dAD_has_7 ?_
  refine lv_iadd hx hb dAD_has_8 ?_
  obtain ⟨hi1, h⟩ := h
  refine zr_lald hx hb hK.1 hP hd0.1 hd0.2 hi1 dAD_has_9 ?_
  refine lv_iload_n hx hb dAD_has_10 rfl (lv_at hl 2 rfl) ?_
  refine lv_bipush (v := 63) hx hb dAD_has_11 (by decide) ?_
  refine lv_iand hx hb dAD_has_13 ?_
  refine lv_lushr hx hb dAD_has_14 rfl ?_
  refine lv_lconst (v := 1) hx hb dAD_has_15 (by decide) ?_
  refine lv_land hx hb dAD_has_16 ?_
  refine lv_lconst (v := 0) hx hb dAD_has_17 (by decide) ?_
  refine W.lcmp hx hb dAD_has_18 ?_
  refine lv_if_eq (tgt := 26) hx hb dAD_has_19 rfl (fun hc => ?_) (fun hc => ?_)
  · have h := h.1 hc
    clear hc
    refine lv_iconst (v := 0) hx hb dAD_has_26 (by decide) ?_
    exact zr_zret hx hb hr hlk hP hS rfl h dAD_has_27
  · have h := h.2 hc
    clear hc
    refine lv_iconst (v := 1) hx hb dAD_has_22 (by decide) ?_
    refine lv_goto (tgt := 27) hx hb dAD_has_23 rfl ?_
    exact zr_zret hx hb hr hlk hP hS rfl h dAD_has_27
set_option maxHeartbeats 4000000 in
set_option maxRecDepth 100000 in
theorem zw_AD_join_56 (hM : zs_M p c cAD_join 10 s m meth args "ThriftyStores$Addresses" (some .boolean) g) {d0 n0 : Nat} {d2 n2 : Nat} (hd0 : d0 < zs_N ∧ zs_ly d0 = (3, n0, [])) (hd2 : d2 < zs_N ∧ zs_ly d2 = (3, n2, [])) {K : Int32 → zs_T → Prop} {B6 : Int32 → Int32 → Int32 → Int32 → zs_T → Prop} (hB6 : ∀ (l1 : Int32) (l3 : Int32) (l4 : Int32) (l5 : Int32) (st : zs_T), B6 l1 l3 l4 l5 st → zs_Go p l e (zs_rm 0 0) s m args below meth c g A (MQ below (zs_Qi g zs_ly zs_N A K) args s 0 0 A) 10 6 [(0, .ref (g.2.1 d0)), (1, .int l1), (2, .ref (g.2.1 d2)), (3, .int l3), (4, .int l4), (5, .int l5)] [] st) (l1 : Int32) (l3 : Int32) (l4 : Int32) (l5 : Int32) (st : zs_T) (h : zf_AD_join_56 d0 n0 d2 n2 K B6 l1 l3 l4 l5 st) : zs_Go p l e (zs_rm 0 0) s m args below meth c g A (MQ below (zs_Qi g zs_ly zs_N A K) args s 0 0 A) 10 56 [(0, .ref (g.2.1 d0)), (1, .int l1), (2, .ref (g.2.1 d2)), (3, .int l3), (4, .int l4), (5, .int l5)] [] st := by
  obtain ⟨hx, hb, hml, hr, hlk, hts, hown, hK⟩ := id hM
  intro ls H locs hl hP hS
  unfold zf_AD_join_56 at h
  refine lv_iinc (k := 5) (v := l5 + 1) hx hb dAD_join_56 hl rfl (by rw [show Int32.ofInt (1) = 1 from by decide]) (by decide) rfl (fun ls hl => ?_)
  have hl : lv_has ls 10 [(5, .int (l5 + 1)), (0, .ref (g.2.1 d0)), (1, .int l1), (2, .ref (g.2.1 d2)), (3, .int l3), (4, .int l4)] := hl
  refine lv_goto (tgt := 6) hx hb dAD_join_59 rfl ?_
  exact hB6 l1 l3 l4 (l5 + 1) st h ls H locs (lv_sub hl [1, 2, 3, 4, 5, 0] rfl) hP hS
set_option maxHeartbeats 4000000 in
set_option maxRecDepth 100000 in
theorem zw_AD_join_6_s (hM : zs_M p c cAD_join 10 s m meth args "ThriftyStores$Addresses" (some .boolean) g) {d0 n0 : Nat} {d2 n2 : Nat} (hd0 : d0 < zs_N ∧ zs_ly d0 = (3, n0, [])) (hd2 : d2 < zs_N ∧ zs_ly d2 = (3, n2, [])) {K : Int32 → zs_T → Prop}  {B6 : Int32 → Int32 → Int32 → Int32 → zs_T → Prop}  (hB6 : ∀ (l1 : Int32) (l3 : Int32) (l4 : Int32) (l5 : Int32) (st : zs_T), B6 l1 l3 l4 l5 st → zs_Go p l e (zs_rm 0 0) s m args below meth c g A (MQ below (zs_Qi g zs_ly zs_N A K) args s 0 0 A) 10 6 [(0, .ref (g.2.1 d0)), (1, .int l1), (2, .ref (g.2.1 d2)), (3, .int l3), (4, .int l4), (5, .int l5)] [] st) (l1 : Int32) (l3 : Int32) (l4 : Int32) (l5 : Int32) (st : zs_T) (h : zf_AD_join_6_s d0 n0 d2 n2 K B6 l1 l3 l4 l5 st) : zs_Go p l e (zs_rm 0 0) s m args below meth c g A (MQ below (zs_Qi g zs_ly zs_N A K) args s 0 0 A) 10 6 [(0, .ref (g.2.1 d0)), (1, .int l1), (2, .ref (g.2.1 d2)), (3, .int l3), (4, .int l4), (5, .int l5)] [] st := by
  obtain ⟨hx, hb, hml, hr, hlk, hts, hown, hK⟩ := id hM
  intro ls H locs hl hP hS
  unfold zf_AD_join_6_s at h
  refine lv_iload hx hb dAD_join_6 (lv_at hl 5 rfl) ?_
  refine lv_iconst (v := 4) hx hb dAD_join_8 (by decide) ?_
  refine lv_icmp_ge (tgt := 62) hx hb dAD_join_9 rfl (fun hc => ?_) (fun hc => ?_)
  · have h := h.1 hc
    clear hc
    refine lv_iload hx hb dAD_join_62 (lv_at hl 4 rfl) ?_
    exact zr_zret hx hb hr hlk hP hS (zs_bn h.1) h.2 dAD_join_64
  · have h := h.2 hc
    clear hc
    refine lv_aload_n hx hb dAD_join_12 rfl (lv_at hl 0 rfl) ?_
    refine lv_iload_n hx hb dAD_join_13 rfl (lv_at hl 1 rfl) ?_
    refine lv_iconst (v := 4) hx hb dAD_join_14 (by decide) ?_
    refine lv_imul hx hb dAD_join_15 ?_
    refine lv_iload hx hb dAD_join_16 (lv_at hl 5 rfl) ?_
    refine lv_iadd hx hb dAD_join_18 ?_
    obtain ⟨hi102, h⟩ := h
    refine zr_lald hx hb hK.1 hP hd0.1 hd0.2 hi102 dAD_join_19 ?_
    refine lv_lstore hx hb dAD_join_20 hl (by decide) rfl (fun ls hl => ?_)
    have hl : lv_has ls 10 [(6, .long (st.2 d0 ((l1 * 4) + l5).toNatClampNeg)), (0, .ref (g.2.1 d0)), (1, .int l1), (2, .ref (g.2.1 d2)), (3, .int l3), (4, .int l4), (5, .int l5)] := hl
    refine lv_lload hx hb dAD_join_22 (lv_at hl 0 rfl) ?_
    refine lv_aload_n hx hb dAD_join_24 rfl (lv_at hl 3 rfl) ?_
    refine lv_iload_n hx hb dAD_join_25 rfl (lv_at hl 4 rfl) ?_
    refine lv_iconst (v := 4) hx hb dAD_join_26 (by decide) ?_
    refine lv_imul hx hb dAD_join_27 ?_
    refine lv_iload hx hb dAD_join_28 (lv_at hl 6 rfl) ?_
    refine lv_iadd hx hb dAD_join_30 ?_
    obtain ⟨hi103, h⟩ := h
    refine zr_lald hx hb hK.1 hP hd2.1 hd2.2 hi103 dAD_join_31 ?_
    refine lv_lor hx hb dAD_join_32 ?_
    refine lv_lstore hx hb dAD_join_33 hl (by decide) rfl (fun ls hl => ?_)
    have hl : lv_has ls 10 [(8, .long ((st.2 d0 ((l1 * 4) + l5).toNatClampNeg) ||| (st.2 d2 ((l3 * 4) + l5).toNatClampNeg))), (6, .long (st.2 d0 ((l1 * 4) + l5).toNatClampNeg)), (0, .ref (g.2.1 d0)), (1, .int l1), (2, .ref (g.2.1 d2)), (3, .int l3), (4, .int l4), (5, .int l5)] := hl
    refine lv_lload hx hb dAD_join_35 (lv_at hl 0 rfl) ?_
    refine lv_lload hx hb dAD_join_37 (lv_at hl 1 rfl) ?_
    refine W.lcmp hx hb dAD_join_39 ?_
    refine lv_if_eq (tgt := 56) hx hb dAD_join_40 rfl (fun hc => ?_) (fun hc => ?_)
    · have h := h.1 hc
      clear hc
      exact zw_AD_join_56 hM hd0 hd2 hB6 l1 l3 l4 l5 st h ls H locs (lv_sub hl [2, 3, 4, 5, 6, 7] rfl) hP hS
    · have h := h.2 hc
      clear hc
      refine lv_aload_n hx hb dAD_join_43 rfl (lv_at hl 2 rfl) ?_
      refine lv_iload_n hx hb dAD_join_44 rfl (lv_at hl 3 rfl) ?_
      refine lv_iconst (v := 4) hx hb dAD_join_45 (by decide) ?_
      refine lv_imul hx hb dAD_join_46 ?_
      refine lv_iload hx hb dAD_join_47 (lv_at hl 7 rfl) ?_
      refine lv_iadd hx hb dAD_join_49 ?_
      refine lv_lload hx hb dAD_join_50 (lv_at hl 0 rfl) ?_
      obtain ⟨hi104, h⟩ := h
      refine zr_last hx hb hK.1 hP hS hd0.1 hd0.2 hi104 dAD_join_52 (fun H locs hP hS => ?_)
      obtain ⟨t105, e9⟩ : ∃ t9 : zs_T, t9 = zs_l st d0 ((l1 * 4) + l5).toNatClampNeg ((st.2 d0 ((l1 * 4) + l5).toNatClampNeg) ||| (st.2 d2 ((l3 * 4) + l5).toNatClampNeg)) := ⟨_, rfl⟩
      have h := h t105 e9
      have hP : zs_P g zs_ly zs_N A t105 H := by rw [e9]; exact hP
      clear e9
      refine lv_iconst (v := 1) hx hb dAD_join_53 (by decide) ?_
      refine lv_istore hx hb dAD_join_54 hl (by decide) rfl (fun ls hl => ?_)
      have hl : lv_has ls 10 [(4, .int 1), (8, .long ((st.2 d0 ((l1 * 4) + l5).toNatClampNeg) ||| (st.2 d2 ((l3 * 4) + l5).toNatClampNeg))), (6, .long (st.2 d0 ((l1 * 4) + l5).toNatClampNeg)), (0, .ref (g.2.1 d0)), (1, .int l1), (2, .ref (g.2.1 d2)), (3, .int l3), (5, .int l5)] := hl
      exact zw_AD_join_56 hM hd0 hd2 hB6 l1 l3 1 l5 t105 h ls H locs (lv_sub hl [3, 4, 5, 6, 0, 7] rfl) hP hS
theorem zw_AD_join_6 (hM : zs_M p c cAD_join 10 s m meth args "ThriftyStores$Addresses" (some .boolean) g) {d0 n0 : Nat} {d2 n2 : Nat} (hd0 : d0 < zs_N ∧ zs_ly d0 = (3, n0, [])) (hd2 : d2 < zs_N ∧ zs_ly d2 = (3, n2, [])) {K : Int32 → zs_T → Prop}   : ∀ (n : Nat) (l1 : Int32) (l3 : Int32) (l4 : Int32) (l5 : Int32) (st : zs_T), zf_AD_join_6 d0 n0 d2 n2 K n l1 l3 l4 l5 st → zs_Go p l e (zs_rm 0 0) s m args below meth c g A (MQ below (zs_Qi g zs_ly zs_N A K) args s 0 0 A) 10 6 [(0, .ref (g.2.1 d0)), (1, .int l1), (2, .ref (g.2.1 d2)), (3, .int l3), (4, .int l4), (5, .int l5)] [] st := by
  intro n
  induction n with
  | zero => intro l1 l3 l4 l5 st h; exact False.elim h
  | succ n ih => intro l1 l3 l4 l5 st h; exact zw_AD_join_6_s hM hd0 hd2 ih l1 l3 l4 l5 st h
set_option maxHeartbeats 4000000 in
set_option maxRecDepth 100000 in
theorem zc_AD_join (l : Launch) (g : zs_G) (A : Nat → Prop) {d0 n0 : Nat} {l1 : Int32} {d2 n2 : Nat} {l3 : Int32} (hd0 : d0 < zs_N ∧ zs_ly d0 = (3, n0, [])) (hd2 : d2 < zs_N ∧ zs_ly d2 = (3, n2, [])) {st : zs_T} {K : Int32 → zs_T → Prop} (h : zf_AD_join d0 n0 l1 d2 n2 l3 st K) : Met l yAD_join (.code yAD_join cAD_join 10 (some .boolean) :: zs_tb) (zs_rm 0 0) (zs_Pc zs_nl g zs_ly zs_N A [.ref (g.2.1 d0), .int l1, .ref (g.2.1 d2), .int l3] st) (zs_Qi g zs_ly zs_N A K) 0 0 A := by
  refine zs_met (cc := cAD_join) (maxL := 10) (ret := (some .boolean)) (by decide) (Nat.le_of_ble_eq_true rfl) (fun p e s m below meth c hM => ?_)
  have hM : zs_M p c cAD_join 10 s m meth [.ref (g.2.1 d0), .int l1, .ref (g.2.1 d2), .int l3].toArray "ThriftyStores$Addresses" (some .boolean) g := hM
  obtain ⟨hx, hb, hml, hr, hlk, hts, hown, hK⟩ := id hM
  intro ls H locs hl hP hS
  have hl : lv_has ls 10 [(0, .ref (g.2.1 d0)), (1, .int l1), (2, .ref (g.2.1 d2)), (3, .int l3)] := hl
  unfold zf_AD_join at h
  refine lv_iconst (v := 0) hx hb dAD_join_0 (by decide) ?_
  refine lv_istore hx hb dAD_join_1 hl (by decide) rfl (fun ls hl => ?_)
  have hl : lv_has ls 10 [(4, .int 0), (0, .ref (g.2.1 d0)), (1, .int l1), (2, .ref (g.2.1 d2)), (3, .int l3)] := hl
  refine lv_iconst (v := 0) hx hb dAD_join_3 (by decide) ?_
  refine lv_istore hx hb dAD_join_4 hl (by decide) rfl (fun ls hl => ?_)
  have hl : lv_has ls 10 [(5, .int 0), (4, .int 0), (0, .ref (g.2.1 d0)), (1, .int l1), (2, .ref (g.2.1 d2)), (3, .int l3)] := hl
  obtain ⟨n, h⟩ := h
  exact zw_AD_join_6 hM hd0 hd2 n l1 l3 0 0 st h ls H locs (lv_sub hl [2, 3, 4, 5, 1, 0] rfl) hP hS
set_option maxHeartbeats 4000000 in
set_option maxRecDepth 100000 in
theorem zc_AD_enter (l : Launch) (g : zs_G) (A : Nat → Prop) {l1 : Int32} {l2 : Int32}  {st : zs_T} {K : Int32 → zs_T → Prop} (h : zf_AD_enter l1 l2 st K) : Met l yAD_enter (.code yAD_enter cAD_enter 3 (some .boolean) :: zs_tb) (zs_rm 1 22) (zs_Pc zs_nl g zs_ly zs_N A [.ref (g.2.1 12), .int l1, .int l2] st) (zs_Qi g zs_ly zs_N A K) 0 0 A := by
  refine zs_met (cc := cAD_enter) (maxL := 3) (ret := (some .boolean)) (by decide) (Nat.le_of_ble_eq_true rfl) (fun p e s m below meth c hM => ?_)
  have hM : zs_M p c cAD_enter 3 s m meth [.ref (g.2.1 12), .int l1, .int l2].toArray "ThriftyStores$Addresses" (some .boolean) g := hM
  obtain ⟨hx, hb, hml, hr, hlk, hts, hown, hK⟩ := id hM
  intro ls H locs hl hP hS
  have hl : lv_has ls 3 [(0, .ref (g.2.1 12)), (1, .int l1), (2, .int l2)] := hl
  unfold zf_AD_enter at h
  refine lv_aload_n hx hb dAD_enter_0 rfl (lv_at hl 0 rfl) ?_
  refine zr_getr (b := 13) hx hb hts zi_AD hown hK.1 hP zl_12.1 zl_12.2 rfl 0 (by decide) rfl (hts _ zq_78) dAD_enter_1 ?_
  refine lv_iload_n hx hb dAD_enter_4 rfl (lv_at hl 1 rfl) ?_
  refine lv_iload_n hx hb dAD_enter_5 rfl (lv_at hl 2 rfl) ?_
  refine zr_calli (va_runS (As := [.ref (g.2.1 13), .int l1, .int l2]) (rest := []) ⟨hx, hb, hml, hown, hts⟩ (zc_AD_has l g A zl_13 h) (va_cwS 3 hts (zs_gS zq_405 zq_406 zq_3 zq_407) rfl rfl rfl ⟨by decide, by decide, by decide +kernel⟩ ⟨Nat.le_of_ble_eq_true rfl, Nat.le_of_ble_eq_true rfl⟩) (zs_preS zs_nwk hK hP) rfl rfl hl.1 rfl (lv_room (Nat.le_of_ble_eq_true rfl)) dAD_enter_6 ⟨Nat.le_refl _, Nat.le_refl _⟩) hS (fun r2 u1 H locs h hP hS => ?_)
  refine lv_if_eq (tgt := 14) hx hb dAD_enter_9 rfl (fun hc => ?_) (fun hc => ?_)
  · have h := h.1 hc
    clear hc
    refine lv_aload_n hx hb dAD_enter_14 rfl (lv_at hl 0 rfl) ?_
    refine zr_getr (b := 13) hx hb hts zi_AD hown hK.1 hP zl_12.1 zl_12.2 rfl 0 (by decide) rfl (hts _ zq_78) dAD_enter_15 ?_
    refine lv_iload_n hx hb dAD_enter_18 rfl (lv_at hl 1 rfl) ?_
    refine lv_iconst (v := 4) hx hb dAD_enter_19 (by decide) ?_
    refine lv_imul hx hb dAD_enter_20 ?_
    refine lv_iload_n hx hb dAD_enter_21 rfl (lv_at hl 2 rfl) ?_
    refine lv_bipush (v := 6) hx hb dAD_enter_22 (by decide) ?_
    refine lv_ishr hx hb dAD_enter_24 ?_
    refine lv_iadd hx hb dAD_enter_25 ?_
    refine lv_dup2_11 hx hb dAD_enter_26 rfl rfl ?_
    obtain ⟨hi3, h⟩ := h
    refine zr_lald hx hb hK.1 hP zl_13.1 zl_13.2 hi3 dAD_enter_27 ?_
    refine lv_lconst (v := 1) hx hb dAD_enter_28 (by decide) ?_
    refine lv_iload_n hx hb dAD_enter_29 rfl (lv_at hl 2 rfl) ?_
    refine lv_bipush (v := 63) hx hb dAD_enter_30 (by decide) ?_
    refine lv_iand hx hb dAD_enter_32 ?_
    refine lv_lshl hx hb dAD_enter_33 rfl ?_
    refine lv_lor hx hb dAD_enter_34 ?_
    obtain ⟨hi4, h⟩ := h
    refine zr_last hx hb hK.1 hP hS zl_13.1 zl_13.2 hi4 dAD_enter_35 (fun H locs hP hS => ?_)
    obtain ⟨t5, e9⟩ : ∃ t9 : zs_T, t9 = zs_l u1 13 ((l1 * 4) + (l2 >>> ((6 : Int32) &&& 31))).toNatClampNeg ((u1.2 13 ((l1 * 4) + (l2 >>> ((6 : Int32) &&& 31))).toNatClampNeg) ||| ((1 : Int64) <<< ((l2 &&& 63).toInt64 &&& 63))) := ⟨_, rfl⟩
    have h := h t5 e9
    have hP : zs_P g zs_ly zs_N A t5 H := by rw [e9]; exact hP
    clear e9
    refine lv_iconst (v := 1) hx hb dAD_enter_36 (by decide) ?_
    exact zr_zret hx hb hr hlk hP hS rfl h dAD_enter_37
  · have h := h.2 hc
    clear hc
    refine lv_iconst (v := 0) hx hb dAD_enter_12 (by decide) ?_
    exact zr_zret hx hb hr hlk hP hS rfl h dAD_enter_13
set_option maxHeartbeats 4000000 in
set_option maxRecDepth 100000 in
theorem zw_AD_followLoad_56 (hM : zs_M p c cAD_followLoad 5 s m meth args "ThriftyStores$Addresses" (some .boolean) g)   {K : Int32 → zs_T → Prop} {B5 : Int32 → Int32 → Int32 → Int32 → zs_T → Prop} (hB5 : ∀ (l1 : Int32) (l2 : Int32) (l3 : Int32) (l4 : Int32) (st : zs_T), B5 l1 l2 l3 l4 st → zs_Go p l e (zs_rm 1 29) s m args below meth c g A (MQ below (zs_Qi g zs_ly zs_N A K) args s 0 0 A) 5 5 [(0, .ref (g.2.1 12)), (1, .int l1), (2, .int l2), (3, .int l3), (4, .int l4)] [] st) (l1 : Int32) (l2 : Int32) (l3 : Int32) (l4 : Int32) (st : zs_T) (h : zf_AD_followLoad_56 K B5 l1 l2 l3 l4 st) : zs_Go p l e (zs_rm 1 29) s m args below meth c g A (MQ below (zs_Qi g zs_ly zs_N A K) args s 0 0 A) 5 56 [(0, .ref (g.2.1 12)), (1, .int l1), (2, .int l2), (3, .int l3), (4, .int l4)] [] st := by
  obtain ⟨hx, hb, hml, hr, hlk, hts, hown, hK⟩ := id hM
  intro ls H locs hl hP hS
  unfold zf_AD_followLoad_56 at h
  refine lv_iinc (k := 4) (v := l4 + 1) hx hb dAD_followLoad_56 hl rfl (by rw [show Int32.ofInt (1) = 1 from by decide]) (by decide) rfl (fun ls hl => ?_)
  have hl : lv_has ls 5 [(4, .int (l4 + 1)), (0, .ref (g.2.1 12)), (1, .int l1), (2, .int l2), (3, .int l3)] := hl
  refine lv_goto (tgt := 5) hx hb dAD_followLoad_59 rfl ?_
  exact hB5 l1 l2 l3 (l4 + 1) st h ls H locs (lv_sub hl [1, 2, 3, 4, 0] rfl) hP hS
set_option maxHeartbeats 4000000 in
set_option maxRecDepth 100000 in
theorem zw_AD_followLoad_5_s (hM : zs_M p c cAD_followLoad 5 s m meth args "ThriftyStores$Addresses" (some .boolean) g)   {K : Int32 → zs_T → Prop}  {B5 : Int32 → Int32 → Int32 → Int32 → zs_T → Prop}  (hB5 : ∀ (l1 : Int32) (l2 : Int32) (l3 : Int32) (l4 : Int32) (st : zs_T), B5 l1 l2 l3 l4 st → zs_Go p l e (zs_rm 1 29) s m args below meth c g A (MQ below (zs_Qi g zs_ly zs_N A K) args s 0 0 A) 5 5 [(0, .ref (g.2.1 12)), (1, .int l1), (2, .int l2), (3, .int l3), (4, .int l4)] [] st) (l1 : Int32) (l2 : Int32) (l3 : Int32) (l4 : Int32) (st : zs_T) (h : zf_AD_followLoad_5_s K B5 l1 l2 l3 l4 st) : zs_Go p l e (zs_rm 1 29) s m args below meth c g A (MQ below (zs_Qi g zs_ly zs_N A K) args s 0 0 A) 5 5 [(0, .ref (g.2.1 12)), (1, .int l1), (2, .int l2), (3, .int l3), (4, .int l4)] [] st := by
  obtain ⟨hx, hb, hml, hr, hlk, hts, hown, hK⟩ := id hM
  intro ls H locs hl hP hS
  unfold zf_AD_followLoad_5_s at h
  refine lv_iload hx hb dAD_followLoad_5 (lv_at hl 4 rfl) ?_
  refine lv_aload_n hx hb dAD_followLoad_7 rfl (lv_at hl 0 rfl) ?_
  refine zr_geti hx hb hts zi_AD hown hK.1 hP zl_12.1 zl_12.2 rfl 3 (by decide) rfl (hts _ zq_81) dAD_followLoad_8 ?_
  refine lv_icmp_ge (tgt := 62) hx hb dAD_followLoad_11 rfl (fun hc => ?_) (fun hc => ?_)
  · have h := h.1 hc
    clear hc
    refine lv_iload_n hx hb dAD_followLoad_62 rfl (lv_at hl 3 rfl) ?_
    exact zr_zret hx hb hr hlk hP hS (zs_bn h.1) h.2 dAD_followLoad_63
  · have h := h.2 hc
    clear hc
    refine lv_aload_n hx hb dAD_followLoad_14 rfl (lv_at hl 0 rfl) ?_
    refine zr_getr (b := 13) hx hb hts zi_AD hown hK.1 hP zl_12.1 zl_12.2 rfl 0 (by decide) rfl (hts _ zq_78) dAD_followLoad_15 ?_
    refine lv_iload_n hx hb dAD_followLoad_18 rfl (lv_at hl 2 rfl) ?_
    refine lv_aload_n hx hb dAD_followLoad_19 rfl (lv_at hl 0 rfl) ?_
    refine zr_getr (b := 15) hx hb hts zi_AD hown hK.1 hP zl_12.1 zl_12.2 rfl 2 (by decide) rfl (hts _ zq_80) dAD_followLoad_20 ?_
    refine lv_iload hx hb dAD_followLoad_23 (lv_at hl 4 rfl) ?_
    obtain ⟨hi102, h⟩ := h
    refine zr_iald hx hb hK.1 hP zl_15.1 zl_15.2 hi102 dAD_followLoad_25 ?_
    refine zr_calli (va_runS (As := [.ref (g.2.1 13), .int l2, .int (st.1 15 l4.toNatClampNeg)]) (rest := []) ⟨hx, hb, hml, hown, hts⟩ (zc_AD_has l g A zl_13 h) (va_cwS 3 hts (zs_gS zq_405 zq_406 zq_3 zq_407) rfl rfl rfl ⟨by decide, by decide, by decide +kernel⟩ ⟨Nat.le_of_ble_eq_true rfl, Nat.le_of_ble_eq_true rfl⟩) (zs_preS zs_nwk hK hP) rfl rfl hl.1 rfl (lv_room (Nat.le_of_ble_eq_true rfl)) dAD_followLoad_26 ⟨Nat.le_refl _, Nat.le_refl _⟩) hS (fun r104 u103 H locs h hP hS => ?_)
    refine lv_if_eq (tgt := 56) hx hb dAD_followLoad_29 rfl (fun hc => ?_) (fun hc => ?_)
    · have h := h.1 hc
      clear hc
      exact zw_AD_followLoad_56 hM hB5 l1 l2 l3 l4 u103 h ls H locs (lv_sub hl [0, 1, 2, 3, 4] rfl) hP hS
    · have h := h.2 hc
      clear hc
      refine lv_aload_n hx hb dAD_followLoad_32 rfl (lv_at hl 0 rfl) ?_
      refine zr_getr (b := 13) hx hb hts zi_AD hown hK.1 hP zl_12.1 zl_12.2 rfl 0 (by decide) rfl (hts _ zq_78) dAD_followLoad_33 ?_
      refine lv_iload_n hx hb dAD_followLoad_36 rfl (lv_at hl 1 rfl) ?_
      refine lv_aload_n hx hb dAD_followLoad_37 rfl (lv_at hl 0 rfl) ?_
      refine zr_getr (b := 14) hx hb hts zi_AD hown hK.1 hP zl_12.1 zl_12.2 rfl 1 (by decide) rfl (hts _ zq_79) dAD_followLoad_38 ?_
      refine lv_aload_n hx hb dAD_followLoad_41 rfl (lv_at hl 0 rfl) ?_
      refine zr_getr (b := 15) hx hb hts zi_AD hown hK.1 hP zl_12.1 zl_12.2 rfl 2 (by decide) rfl (hts _ zq_80) dAD_followLoad_42 ?_
      refine lv_iload hx hb dAD_followLoad_45 (lv_at hl 4 rfl) ?_
      obtain ⟨hi105, h⟩ := h
      refine zr_iald hx hb hK.1 hP zl_15.1 zl_15.2 hi105 dAD_followLoad_47 ?_
      refine zr_calli (va_runS (As := [.ref (g.2.1 13), .int l1, .ref (g.2.1 14), .int (u103.1 15 l4.toNatClampNeg)]) (rest := []) ⟨hx, hb, hml, hown, hts⟩ (zc_AD_join l g A zl_13 zl_14 h) (va_cwS 4 hts (zs_gS zq_408 zq_409 zq_3 zq_410) rfl rfl rfl ⟨by decide, by decide, by decide +kernel⟩ ⟨Nat.le_of_ble_eq_true rfl, Nat.le_of_ble_eq_true rfl⟩) (zs_preS zs_nwk hK hP) rfl rfl hl.1 rfl (lv_room (Nat.le_of_ble_eq_true rfl)) dAD_followLoad_48 ⟨Nat.le_refl _, Nat.le_refl _⟩) hS (fun r107 u106 H locs h hP hS => ?_)
      refine lv_if_eq (tgt := 56) hx hb dAD_followLoad_51 rfl (fun hc => ?_) (fun hc => ?_)
      · have h := h.1 hc
        clear hc
        exact zw_AD_followLoad_56 hM hB5 l1 l2 l3 l4 u106 h ls H locs (lv_sub hl [0, 1, 2, 3, 4] rfl) hP hS
      · have h := h.2 hc
        clear hc
        refine lv_iconst (v := 1) hx hb dAD_followLoad_54 (by decide) ?_
        refine lv_istore_n hx hb dAD_followLoad_55 rfl hl (by decide) rfl (fun ls hl => ?_)
        have hl : lv_has ls 5 [(3, .int 1), (0, .ref (g.2.1 12)), (1, .int l1), (2, .int l2), (4, .int l4)] := hl
        exact zw_AD_followLoad_56 hM hB5 l1 l2 1 l4 u106 h ls H locs (lv_sub hl [1, 2, 3, 0, 4] rfl) hP hS
theorem zw_AD_followLoad_5 (hM : zs_M p c cAD_followLoad 5 s m meth args "ThriftyStores$Addresses" (some .boolean) g)   {K : Int32 → zs_T → Prop}   : ∀ (n : Nat) (l1 : Int32) (l2 : Int32) (l3 : Int32) (l4 : Int32) (st : zs_T), zf_AD_followLoad_5 K n l1 l2 l3 l4 st → zs_Go p l e (zs_rm 1 29) s m args below meth c g A (MQ below (zs_Qi g zs_ly zs_N A K) args s 0 0 A) 5 5 [(0, .ref (g.2.1 12)), (1, .int l1), (2, .int l2), (3, .int l3), (4, .int l4)] [] st := by
  intro n
  induction n with
  | zero => intro l1 l2 l3 l4 st h; exact False.elim h
  | succ n ih => intro l1 l2 l3 l4 st h; exact zw_AD_followLoad_5_s hM  ih l1 l2 l3 l4 st h
set_option maxHeartbeats 4000000 in
set_option maxRecDepth 100000 in
theorem zc_AD_followLoad (l : Launch) (g : zs_G) (A : Nat → Prop) {l1 : Int32} {l2 : Int32}  {st : zs_T} {K : Int32 → zs_T → Prop} (h : zf_AD_followLoad l1 l2 st K) : Met l yAD_followLoad (.code yAD_followLoad cAD_followLoad 5 (some .boolean) :: zs_tb) (zs_rm 1 29) (zs_Pc zs_nl g zs_ly zs_N A [.ref (g.2.1 12), .int l1, .int l2] st) (zs_Qi g zs_ly zs_N A K) 0 0 A := by
  refine zs_met (cc := cAD_followLoad) (maxL := 5) (ret := (some .boolean)) (by decide) (Nat.le_of_ble_eq_true rfl) (fun p e s m below meth c hM => ?_)
  have hM : zs_M p c cAD_followLoad 5 s m meth [.ref (g.2.1 12), .int l1, .int l2].toArray "ThriftyStores$Addresses" (some .boolean) g := hM
  obtain ⟨hx, hb, hml, hr, hlk, hts, hown, hK⟩ := id hM
  intro ls H locs hl hP hS
  have hl : lv_has ls 5 [(0, .ref (g.2.1 12)), (1, .int l1), (2, .int l2)] := hl
  unfold zf_AD_followLoad at h
  refine lv_iconst (v := 0) hx hb dAD_followLoad_0 (by decide) ?_
  refine lv_istore_n hx hb dAD_followLoad_1 rfl hl (by decide) rfl (fun ls hl => ?_)
  have hl : lv_has ls 5 [(3, .int 0), (0, .ref (g.2.1 12)), (1, .int l1), (2, .int l2)] := hl
  refine lv_iconst (v := 0) hx hb dAD_followLoad_2 (by decide) ?_
  refine lv_istore hx hb dAD_followLoad_3 hl (by decide) rfl (fun ls hl => ?_)
  have hl : lv_has ls 5 [(4, .int 0), (3, .int 0), (0, .ref (g.2.1 12)), (1, .int l1), (2, .int l2)] := hl
  obtain ⟨n, h⟩ := h
  exact zw_AD_followLoad_5 hM  n l1 l2 0 0 st h ls H locs (lv_sub hl [2, 3, 4, 1, 0] rfl) hP hS
set_option maxHeartbeats 4000000 in
set_option maxRecDepth 100000 in
theorem zw_AD_followStore_56 (hM : zs_M p c cAD_followStore 5 s m meth args "ThriftyStores$Addresses" (some .boolean) g)   {K : Int32 → zs_T → Prop} {B5 : Int32 → Int32 → Int32 → Int32 → zs_T → Prop} (hB5 : ∀ (l1 : Int32) (l2 : Int32) (l3 : Int32) (l4 : Int32) (st : zs_T), B5 l1 l2 l3 l4 st → zs_Go p l e (zs_rm 1 29) s m args below meth c g A (MQ below (zs_Qi g zs_ly zs_N A K) args s 0 0 A) 5 5 [(0, .ref (g.2.1 12)), (1, .int l1), (2, .int l2), (3, .int l3), (4, .int l4)] [] st) (l1 : Int32) (l2 : Int32) (l3 : Int32) (l4 : Int32) (st : zs_T) (h : zf_AD_followStore_56 K B5 l1 l2 l3 l4 st) : zs_Go p l e (zs_rm 1 29) s m args below meth c g A (MQ below (zs_Qi g zs_ly zs_N A K) args s 0 0 A) 5 56 [(0, .ref (g.2.1 12)), (1, .int l1), (2, .int l2), (3, .int l3), (4, .int l4)] [] st := by
  obtain ⟨hx, hb, hml, hr, hlk, hts, hown, hK⟩ := id hM
  intro ls H locs hl hP hS
  unfold zf_AD_followStore_56 at h
  refine lv_iinc (k := 4) (v := l4 + 1) hx hb dAD_followStore_56 hl rfl (by rw [show Int32.ofInt (1) = 1 from by decide]) (by decide) rfl (fun ls hl => ?_)
  have hl : lv_has ls 5 [(4, .int (l4 + 1)), (0, .ref (g.2.1 12)), (1, .int l1), (2, .int l2), (3, .int l3)] := hl
  refine lv_goto (tgt := 5) hx hb dAD_followStore_59 rfl ?_
  exact hB5 l1 l2 l3 (l4 + 1) st h ls H locs (lv_sub hl [1, 2, 3, 4, 0] rfl) hP hS
set_option maxHeartbeats 4000000 in
set_option maxRecDepth 100000 in
theorem zw_AD_followStore_5_s (hM : zs_M p c cAD_followStore 5 s m meth args "ThriftyStores$Addresses" (some .boolean) g)   {K : Int32 → zs_T → Prop}  {B5 : Int32 → Int32 → Int32 → Int32 → zs_T → Prop}  (hB5 : ∀ (l1 : Int32) (l2 : Int32) (l3 : Int32) (l4 : Int32) (st : zs_T), B5 l1 l2 l3 l4 st → zs_Go p l e (zs_rm 1 29) s m args below meth c g A (MQ below (zs_Qi g zs_ly zs_N A K) args s 0 0 A) 5 5 [(0, .ref (g.2.1 12)), (1, .int l1), (2, .int l2), (3, .int l3), (4, .int l4)] [] st) (l1 : Int32) (l2 : Int32) (l3 : Int32) (l4 : Int32) (st : zs_T) (h : zf_AD_followStore_5_s K B5 l1 l2 l3 l4 st) : zs_Go p l e (zs_rm 1 29) s m args below meth c g A (MQ below (zs_Qi g zs_ly zs_N A K) args s 0 0 A) 5 5 [(0, .ref (g.2.1 12)), (1, .int l1), (2, .int l2), (3, .int l3), (4, .int l4)] [] st := by
  obtain ⟨hx, hb, hml, hr, hlk, hts, hown, hK⟩ := id hM
  intro ls H locs hl hP hS
  unfold zf_AD_followStore_5_s at h
  refine lv_iload hx hb dAD_followStore_5 (lv_at hl 4 rfl) ?_
  refine lv_aload_n hx hb dAD_followStore_7 rfl (lv_at hl 0 rfl) ?_
  refine zr_geti hx hb hts zi_AD hown hK.1 hP zl_12.1 zl_12.2 rfl 3 (by decide) rfl (hts _ zq_81) dAD_followStore_8 ?_
  refine lv_icmp_ge (tgt := 62) hx hb dAD_followStore_11 rfl (fun hc => ?_) (fun hc => ?_)
  · have h := h.1 hc
    clear hc
    refine lv_iload_n hx hb dAD_followStore_62 rfl (lv_at hl 3 rfl) ?_
    exact zr_zret hx hb hr hlk hP hS (zs_bn h.1) h.2 dAD_followStore_63
  · have h := h.2 hc
    clear hc
    refine lv_aload_n hx hb dAD_followStore_14 rfl (lv_at hl 0 rfl) ?_
    refine zr_getr (b := 13) hx hb hts zi_AD hown hK.1 hP zl_12.1 zl_12.2 rfl 0 (by decide) rfl (hts _ zq_78) dAD_followStore_15 ?_
    refine lv_iload_n hx hb dAD_followStore_18 rfl (lv_at hl 1 rfl) ?_
    refine lv_aload_n hx hb dAD_followStore_19 rfl (lv_at hl 0 rfl) ?_
    refine zr_getr (b := 15) hx hb hts zi_AD hown hK.1 hP zl_12.1 zl_12.2 rfl 2 (by decide) rfl (hts _ zq_80) dAD_followStore_20 ?_
    refine lv_iload hx hb dAD_followStore_23 (lv_at hl 4 rfl) ?_
    obtain ⟨hi102, h⟩ := h
    refine zr_iald hx hb hK.1 hP zl_15.1 zl_15.2 hi102 dAD_followStore_25 ?_
    refine zr_calli (va_runS (As := [.ref (g.2.1 13), .int l1, .int (st.1 15 l4.toNatClampNeg)]) (rest := []) ⟨hx, hb, hml, hown, hts⟩ (zc_AD_has l g A zl_13 h) (va_cwS 3 hts (zs_gS zq_405 zq_406 zq_3 zq_407) rfl rfl rfl ⟨by decide, by decide, by decide +kernel⟩ ⟨Nat.le_of_ble_eq_true rfl, Nat.le_of_ble_eq_true rfl⟩) (zs_preS zs_nwk hK hP) rfl rfl hl.1 rfl (lv_room (Nat.le_of_ble_eq_true rfl)) dAD_followStore_26 ⟨Nat.le_refl _, Nat.le_refl _⟩) hS (fun r104 u103 H locs h hP hS => ?_)
    refine lv_if_eq (tgt := 56) hx hb dAD_followStore_29 rfl (fun hc => ?_) (fun hc => ?_)
    · have h := h.1 hc
      clear hc
      exact zw_AD_followStore_56 hM hB5 l1 l2 l3 l4 u103 h ls H locs (lv_sub hl [0, 1, 2, 3, 4] rfl) hP hS
    · have h := h.2 hc
      clear hc
      refine lv_aload_n hx hb dAD_followStore_32 rfl (lv_at hl 0 rfl) ?_
      refine zr_getr (b := 14) hx hb hts zi_AD hown hK.1 hP zl_12.1 zl_12.2 rfl 1 (by decide) rfl (hts _ zq_79) dAD_followStore_33 ?_
      refine lv_aload_n hx hb dAD_followStore_36 rfl (lv_at hl 0 rfl) ?_
      refine zr_getr (b := 15) hx hb hts zi_AD hown hK.1 hP zl_12.1 zl_12.2 rfl 2 (by decide) rfl (hts _ zq_80) dAD_followStore_37 ?_
      refine lv_iload hx hb dAD_followStore_40 (lv_at hl 4 rfl) ?_
      obtain ⟨hi105, h⟩ := h
      refine zr_iald hx hb hK.1 hP zl_15.1 zl_15.2 hi105 dAD_followStore_42 ?_
      refine lv_aload_n hx hb dAD_followStore_43 rfl (lv_at hl 0 rfl) ?_
      refine zr_getr (b := 13) hx hb hts zi_AD hown hK.1 hP zl_12.1 zl_12.2 rfl 0 (by decide) rfl (hts _ zq_78) dAD_followStore_44 ?_
      refine lv_iload_n hx hb dAD_followStore_47 rfl (lv_at hl 2 rfl) ?_
      refine zr_calli (va_runS (As := [.ref (g.2.1 14), .int (u103.1 15 l4.toNatClampNeg), .ref (g.2.1 13), .int l2]) (rest := []) ⟨hx, hb, hml, hown, hts⟩ (zc_AD_join l g A zl_14 zl_13 h) (va_cwS 4 hts (zs_gS zq_408 zq_409 zq_3 zq_410) rfl rfl rfl ⟨by decide, by decide, by decide +kernel⟩ ⟨Nat.le_of_ble_eq_true rfl, Nat.le_of_ble_eq_true rfl⟩) (zs_preS zs_nwk hK hP) rfl rfl hl.1 rfl (lv_room (Nat.le_of_ble_eq_true rfl)) dAD_followStore_48 ⟨Nat.le_refl _, Nat.le_refl _⟩) hS (fun r107 u106 H locs h hP hS => ?_)
      refine lv_if_eq (tgt := 56) hx hb dAD_followStore_51 rfl (fun hc => ?_) (fun hc => ?_)
      · have h := h.1 hc
        clear hc
        exact zw_AD_followStore_56 hM hB5 l1 l2 l3 l4 u106 h ls H locs (lv_sub hl [0, 1, 2, 3, 4] rfl) hP hS
      · have h := h.2 hc
        clear hc
        refine lv_iconst (v := 1) hx hb dAD_followStore_54 (by decide) ?_
        refine lv_istore_n hx hb dAD_followStore_55 rfl hl (by decide) rfl (fun ls hl => ?_)
        have hl : lv_has ls 5 [(3, .int 1), (0, .ref (g.2.1 12)), (1, .int l1), (2, .int l2), (4, .int l4)] := hl
        exact zw_AD_followStore_56 hM hB5 l1 l2 1 l4 u106 h ls H locs (lv_sub hl [1, 2, 3, 0, 4] rfl) hP hS
theorem zw_AD_followStore_5 (hM : zs_M p c cAD_followStore 5 s m meth args "ThriftyStores$Addresses" (some .boolean) g)   {K : Int32 → zs_T → Prop}   : ∀ (n : Nat) (l1 : Int32) (l2 : Int32) (l3 : Int32) (l4 : Int32) (st : zs_T), zf_AD_followStore_5 K n l1 l2 l3 l4 st → zs_Go p l e (zs_rm 1 29) s m args below meth c g A (MQ below (zs_Qi g zs_ly zs_N A K) args s 0 0 A) 5 5 [(0, .ref (g.2.1 12)), (1, .int l1), (2, .int l2), (3, .int l3), (4, .int l4)] [] st := by
  intro n
  induction n with
  | zero => intro l1 l2 l3 l4 st h; exact False.elim h
  | succ n ih => intro l1 l2 l3 l4 st h; exact zw_AD_followStore_5_s hM  ih l1 l2 l3 l4 st h
set_option maxHeartbeats 4000000 in
set_option maxRecDepth 100000 in
theorem zc_AD_followStore (l : Launch) (g : zs_G) (A : Nat → Prop) {l1 : Int32} {l2 : Int32}  {st : zs_T} {K : Int32 → zs_T → Prop} (h : zf_AD_followStore l1 l2 st K) : Met l yAD_followStore (.code yAD_followStore cAD_followStore 5 (some .boolean) :: zs_tb) (zs_rm 1 29) (zs_Pc zs_nl g zs_ly zs_N A [.ref (g.2.1 12), .int l1, .int l2] st) (zs_Qi g zs_ly zs_N A K) 0 0 A := by
  refine zs_met (cc := cAD_followStore) (maxL := 5) (ret := (some .boolean)) (by decide) (Nat.le_of_ble_eq_true rfl) (fun p e s m below meth c hM => ?_)
  have hM : zs_M p c cAD_followStore 5 s m meth [.ref (g.2.1 12), .int l1, .int l2].toArray "ThriftyStores$Addresses" (some .boolean) g := hM
  obtain ⟨hx, hb, hml, hr, hlk, hts, hown, hK⟩ := id hM
  intro ls H locs hl hP hS
  have hl : lv_has ls 5 [(0, .ref (g.2.1 12)), (1, .int l1), (2, .int l2)] := hl
  unfold zf_AD_followStore at h
  refine lv_iconst (v := 0) hx hb dAD_followStore_0 (by decide) ?_
  refine lv_istore_n hx hb dAD_followStore_1 rfl hl (by decide) rfl (fun ls hl => ?_)
  have hl : lv_has ls 5 [(3, .int 0), (0, .ref (g.2.1 12)), (1, .int l1), (2, .int l2)] := hl
  refine lv_iconst (v := 0) hx hb dAD_followStore_2 (by decide) ?_
  refine lv_istore hx hb dAD_followStore_3 hl (by decide) rfl (fun ls hl => ?_)
  have hl : lv_has ls 5 [(4, .int 0), (3, .int 0), (0, .ref (g.2.1 12)), (1, .int l1), (2, .int l2)] := hl
  obtain ⟨n, h⟩ := h
  exact zw_AD_followStore_5 hM  n l1 l2 0 0 st h ls H locs (lv_sub hl [2, 3, 4, 1, 0] rfl) hP hS
set_option maxHeartbeats 4000000 in
set_option maxRecDepth 100000 in
theorem zw_AD_follow_83 (hM : zs_M p c cAD_follow 5 s m meth args "ThriftyStores$Addresses" (some .boolean) g) {d1 : Nat} (hd1 : zs_Pr d1) {K : Int32 → zs_T → Prop}   (l3 : Int32) (l4 : Int32) (st : zs_T) (h : zf_AD_follow_83 d1 K l3 l4 st) : zs_Go p l e (zs_rm 2 53) s m args below meth c g A (MQ below (zs_Qi g zs_ly zs_N A K) args s 0 0 A) 5 83 [(0, .ref (g.2.1 12)), (3, .int l3), (4, .int l4)] [] st := by
  obtain ⟨hx, hb, hml, hr, hlk, hts, hown, hK⟩ := id hM
  intro ls H locs hl hP hS
  unfold zf_AD_follow_83 at h
  refine lv_aload_n hx hb dAD_follow_83 rfl (lv_at hl 0 rfl) ?_
  refine zr_getr (b := 13) hx hb hts zi_AD hown hK.1 hP zl_12.1 zl_12.2 rfl 0 (by decide) rfl (hts _ zq_78) dAD_follow_84 ?_
  refine lv_iload_n hx hb dAD_follow_87 rfl (lv_at hl 1 rfl) ?_
  refine lv_aload_n hx hb dAD_follow_88 rfl (lv_at hl 0 rfl) ?_
  refine zr_getr (b := 13) hx hb hts zi_AD hown hK.1 hP zl_12.1 zl_12.2 rfl 0 (by decide) rfl (hts _ zq_78) dAD_follow_89 ?_
  refine lv_iload hx hb dAD_follow_92 (lv_at hl 2 rfl) ?_
  refine zr_calli (va_runS (As := [.ref (g.2.1 13), .int l3, .ref (g.2.1 13), .int l4]) (rest := []) ⟨hx, hb, hml, hown, hts⟩ (zc_AD_join l g A zl_13 zl_13 h) (va_cwS 4 hts (zs_gS zq_408 zq_409 zq_3 zq_410) rfl rfl rfl ⟨by decide, by decide, by decide +kernel⟩ ⟨Nat.le_of_ble_eq_true rfl, Nat.le_of_ble_eq_true rfl⟩) (zs_preS zs_nwk hK hP) rfl rfl hl.1 rfl (lv_room (Nat.le_of_ble_eq_true rfl)) dAD_follow_94 ⟨Nat.le_refl _, Nat.le_refl _⟩) hS (fun r102 u101 H locs h hP hS => ?_)
  exact zr_zret hx hb hr hlk hP hS (zs_bn h.1) h.2 dAD_follow_97
set_option maxHeartbeats 4000000 in
set_option maxRecDepth 100000 in
theorem zc_AD_follow (l : Launch) (g : zs_G) (A : Nat → Prop) {d1 : Nat} {l2 : Int32} (hd1 : zs_Pr d1) {st : zs_T} {K : Int32 → zs_T → Prop} (h : zf_AD_follow d1 l2 st K) : Met l yAD_follow (.code yAD_follow cAD_follow 5 (some .boolean) :: zs_tb) (zs_rm 2 53) (zs_Pc zs_nl g zs_ly zs_N A [.ref (g.2.1 12), .ref (g.2.1 d1), .int l2] st) (zs_Qi g zs_ly zs_N A K) 0 0 A := by
  refine zs_met (cc := cAD_follow) (maxL := 5) (ret := (some .boolean)) (by decide) (Nat.le_of_ble_eq_true rfl) (fun p e s m below meth c hM => ?_)
  have hM : zs_M p c cAD_follow 5 s m meth [.ref (g.2.1 12), .ref (g.2.1 d1), .int l2].toArray "ThriftyStores$Addresses" (some .boolean) g := hM
  obtain ⟨hx, hb, hml, hr, hlk, hts, hown, hK⟩ := id hM
  intro ls H locs hl hP hS
  have hl : lv_has ls 5 [(0, .ref (g.2.1 12)), (1, .ref (g.2.1 d1)), (2, .int l2)] := hl
  unfold zf_AD_follow at h
  refine lv_aload_n hx hb dAD_follow_0 rfl (lv_at hl 1 rfl) ?_
  refine zr_getr (b := d1 + 2) hx hb hts zi_PR hown hK.1 hP hd1.1.1 hd1.1.2 rfl 1 (by decide) rfl (hts _ zq_42) dAD_follow_1 ?_
  refine lv_iload_n hx hb dAD_follow_4 rfl (lv_at hl 2 rfl) ?_
  obtain ⟨hi1, h⟩ := h
  refine zr_iald hx hb hK.1 hP hd1.2.2.1.1 hd1.2.2.1.2 hi1 dAD_follow_5 ?_
  refine lv_istore_n hx hb dAD_follow_6 rfl hl (by decide) rfl (fun ls hl => ?_)
  have hl : lv_has ls 5 [(3, .int (st.1 (d1 + 2) l2.toNatClampNeg)), (0, .ref (g.2.1 12)), (1, .ref (g.2.1 d1)), (2, .int l2)] := hl
  refine lv_aload_n hx hb dAD_follow_7 rfl (lv_at hl 2 rfl) ?_
  refine zr_getr (b := d1 + 3) hx hb hts zi_PR hown hK.1 hP hd1.1.1 hd1.1.2 rfl 2 (by decide) rfl (hts _ zq_48) dAD_follow_8 ?_
  refine lv_iload_n hx hb dAD_follow_11 rfl (lv_at hl 3 rfl) ?_
  obtain ⟨hi2, h⟩ := h
  refine zr_iald hx hb hK.1 hP hd1.2.2.2.1.1 hd1.2.2.2.1.2 hi2 dAD_follow_12 ?_
  refine lv_istore hx hb dAD_follow_13 hl (by decide) rfl (fun ls hl => ?_)
  have hl : lv_has ls 5 [(4, .int (st.1 (d1 + 3) l2.toNatClampNeg)), (3, .int (st.1 (d1 + 2) l2.toNatClampNeg)), (0, .ref (g.2.1 12)), (1, .ref (g.2.1 d1)), (2, .int l2)] := hl
  refine lv_aload_n hx hb dAD_follow_15 rfl (lv_at hl 3 rfl) ?_
  refine zr_getr (b := d1 + 1) hx hb hts zi_PR hown hK.1 hP hd1.1.1 hd1.1.2 rfl 0 (by decide) rfl (hts _ zq_35) dAD_follow_16 ?_
  refine lv_iload_n hx hb dAD_follow_19 rfl (lv_at hl 4 rfl) ?_
  obtain ⟨hi3, h⟩ := h
  refine zr_iald hx hb hK.1 hP hd1.2.1.1 hd1.2.1.2 hi3 dAD_follow_20 ?_
  by_cases hc : (st.1 (d1 + 1) l2.toNatClampNeg) = 1
  · refine lv_tableIn (tgt := 83) (off := 62) hx hb dAD_follow_21 (by rw [hc]; decide) (by rw [hc]; decide) (by rw [hc]; decide) rfl ?_
    have h := h.1 hc
    clear hc
    exact zw_AD_follow_83 hM hd1 (st.1 (d1 + 2) l2.toNatClampNeg) (st.1 (d1 + 3) l2.toNatClampNeg) st h ls H locs (lv_sub hl [2, 1, 0] rfl) hP hS
  · have h := h.2 hc
    have hn0 := hc
    clear hc
    by_cases hc : (st.1 (d1 + 1) l2.toNatClampNeg) = 2
    · refine lv_tableIn (tgt := 114) (off := 93) hx hb dAD_follow_21 (by rw [hc]; decide) (by rw [hc]; decide) (by rw [hc]; decide) rfl ?_
      have h := h.1 hc
      clear hc
      refine lv_iconst (v := 0) hx hb dAD_follow_114 (by decide) ?_
      exact zr_zret hx hb hr hlk hP hS rfl h dAD_follow_115
    · have h := h.2 hc
      have hn1 := hc
      clear hc
      by_cases hc : (st.1 (d1 + 1) l2.toNatClampNeg) = 3
      · refine lv_tableIn (tgt := 114) (off := 93) hx hb dAD_follow_21 (by rw [hc]; decide) (by rw [hc]; decide) (by rw [hc]; decide) rfl ?_
        have h := h.1 hc
        clear hc
        refine lv_iconst (v := 0) hx hb dAD_follow_114 (by decide) ?_
        exact zr_zret hx hb hr hlk hP hS rfl h dAD_follow_115
      · have h := h.2 hc
        have hn2 := hc
        clear hc
        by_cases hc : (st.1 (d1 + 1) l2.toNatClampNeg) = 4
        · refine lv_tableIn (tgt := 114) (off := 93) hx hb dAD_follow_21 (by rw [hc]; decide) (by rw [hc]; decide) (by rw [hc]; decide) rfl ?_
          have h := h.1 hc
          clear hc
          refine lv_iconst (v := 0) hx hb dAD_follow_114 (by decide) ?_
          exact zr_zret hx hb hr hlk hP hS rfl h dAD_follow_115
        · have h := h.2 hc
          have hn3 := hc
          clear hc
          by_cases hc : (st.1 (d1 + 1) l2.toNatClampNeg) = 5
          · refine lv_tableIn (tgt := 114) (off := 93) hx hb dAD_follow_21 (by rw [hc]; decide) (by rw [hc]; decide) (by rw [hc]; decide) rfl ?_
            have h := h.1 hc
            clear hc
            refine lv_iconst (v := 0) hx hb dAD_follow_114 (by decide) ?_
            exact zr_zret hx hb hr hlk hP hS rfl h dAD_follow_115
          · have h := h.2 hc
            have hn4 := hc
            clear hc
            by_cases hc : (st.1 (d1 + 1) l2.toNatClampNeg) = 6
            · refine lv_tableIn (tgt := 114) (off := 93) hx hb dAD_follow_21 (by rw [hc]; decide) (by rw [hc]; decide) (by rw [hc]; decide) rfl ?_
              have h := h.1 hc
              clear hc
              refine lv_iconst (v := 0) hx hb dAD_follow_114 (by decide) ?_
              exact zr_zret hx hb hr hlk hP hS rfl h dAD_follow_115
            · have h := h.2 hc
              have hn5 := hc
              clear hc
              by_cases hc : (st.1 (d1 + 1) l2.toNatClampNeg) = 7
              · refine lv_tableIn (tgt := 83) (off := 62) hx hb dAD_follow_21 (by rw [hc]; decide) (by rw [hc]; decide) (by rw [hc]; decide) rfl ?_
                have h := h.1 hc
                clear hc
                exact zw_AD_follow_83 hM hd1 (st.1 (d1 + 2) l2.toNatClampNeg) (st.1 (d1 + 3) l2.toNatClampNeg) st h ls H locs (lv_sub hl [2, 1, 0] rfl) hP hS
              · have h := h.2 hc
                have hn6 := hc
                clear hc
                by_cases hc : (st.1 (d1 + 1) l2.toNatClampNeg) = 8
                · refine lv_tableIn (tgt := 76) (off := 55) hx hb dAD_follow_21 (by rw [hc]; decide) (by rw [hc]; decide) (by rw [hc]; decide) rfl ?_
                  have h := h.1 hc
                  clear hc
                  refine lv_aload_n hx hb dAD_follow_76 rfl (lv_at hl 2 rfl) ?_
                  refine lv_iload_n hx hb dAD_follow_77 rfl (lv_at hl 1 rfl) ?_
                  refine lv_iload_n hx hb dAD_follow_78 rfl (lv_at hl 4 rfl) ?_
                  refine zr_calli (va_runV (As := [.int (st.1 (d1 + 2) l2.toNatClampNeg), .int l2]) (rest := []) ⟨hx, hb, hml, hown, hts⟩ (zc_AD_enter l g A  h) (cwV 2 hts (zs_gV zq_401 zq_403 zp_5 zq_3 zq_404) rfl rfl rfl ⟨rfl, by decide, by decide, by decide +kernel⟩ ⟨Nat.le_of_ble_eq_true rfl, Nat.le_of_ble_eq_true rfl⟩) (zs_preV zs_nwk hK hP zl_12.1 zl_12.2 rfl) rfl rfl hl.1 rfl (lv_room (Nat.le_of_ble_eq_true rfl)) dAD_follow_79 ⟨Nat.le_refl _, Nat.le_refl _⟩) hS (fun r5 u4 H locs h hP hS => ?_)
                  exact zr_zret hx hb hr hlk hP hS (zs_bn h.1) h.2 dAD_follow_82
                · have h := h.2 hc
                  have hn7 := hc
                  clear hc
                  by_cases hc : (st.1 (d1 + 1) l2.toNatClampNeg) = 9
                  · refine lv_tableIn (tgt := 98) (off := 77) hx hb dAD_follow_21 (by rw [hc]; decide) (by rw [hc]; decide) (by rw [hc]; decide) rfl ?_
                    have h := h.1 hc
                    clear hc
                    refine lv_aload_n hx hb dAD_follow_98 rfl (lv_at hl 2 rfl) ?_
                    refine lv_iload_n hx hb dAD_follow_99 rfl (lv_at hl 1 rfl) ?_
                    refine lv_iload hx hb dAD_follow_100 (lv_at hl 0 rfl) ?_
                    refine zr_calli (va_runV (As := [.int (st.1 (d1 + 2) l2.toNatClampNeg), .int (st.1 (d1 + 3) l2.toNatClampNeg)]) (rest := []) ⟨hx, hb, hml, hown, hts⟩ (zc_AD_followLoad l g A  h) (cwV 2 hts (zs_gV zq_411 zq_413 zp_6 zq_3 zq_414) rfl rfl rfl ⟨rfl, by decide, by decide, by decide +kernel⟩ ⟨Nat.le_of_ble_eq_true rfl, Nat.le_of_ble_eq_true rfl⟩) (zs_preV zs_nwk hK hP zl_12.1 zl_12.2 rfl) rfl rfl hl.1 rfl (lv_room (Nat.le_of_ble_eq_true rfl)) dAD_follow_102 ⟨Nat.le_refl _, Nat.le_refl _⟩) hS (fun r8 u7 H locs h hP hS => ?_)
                    exact zr_zret hx hb hr hlk hP hS (zs_bn h.1) h.2 dAD_follow_105
                  · have h := h.2 hc
                    have hn8 := hc
                    clear hc
                    by_cases hc : (st.1 (d1 + 1) l2.toNatClampNeg) = 10
                    · refine lv_tableIn (tgt := 106) (off := 85) hx hb dAD_follow_21 (by rw [hc]; decide) (by rw [hc]; decide) (by rw [hc]; decide) rfl ?_
                      have h := h.1 hc
                      clear hc
                      refine lv_aload_n hx hb dAD_follow_106 rfl (lv_at hl 2 rfl) ?_
                      refine lv_iload_n hx hb dAD_follow_107 rfl (lv_at hl 1 rfl) ?_
                      refine lv_iload hx hb dAD_follow_108 (lv_at hl 0 rfl) ?_
                      refine zr_calli (va_runV (As := [.int (st.1 (d1 + 2) l2.toNatClampNeg), .int (st.1 (d1 + 3) l2.toNatClampNeg)]) (rest := []) ⟨hx, hb, hml, hown, hts⟩ (zc_AD_followStore l g A  h) (cwV 2 hts (zs_gV zq_415 zq_417 zp_7 zq_3 zq_418) rfl rfl rfl ⟨rfl, by decide, by decide, by decide +kernel⟩ ⟨Nat.le_of_ble_eq_true rfl, Nat.le_of_ble_eq_true rfl⟩) (zs_preV zs_nwk hK hP zl_12.1 zl_12.2 rfl) rfl rfl hl.1 rfl (lv_room (Nat.le_of_ble_eq_true rfl)) dAD_follow_110 ⟨Nat.le_refl _, Nat.le_refl _⟩) hS (fun r11 u10 H locs h hP hS => ?_)
                      exact zr_zret hx hb hr hlk hP hS (zs_bn h.1) h.2 dAD_follow_113
                    · have h := h.2 hc
                      have hn9 := hc
                      clear hc
                      refine lv_tableOut (tgt := 114) hx hb dAD_follow_21 (by have q0 := lv_neT hn0 (a := 1) (by decide); have q1 := lv_neT hn1 (a := 2) (by decide); have q2 := lv_neT hn2 (a := 3) (by decide); have q3 := lv_neT hn3 (a := 4) (by decide); have q4 := lv_neT hn4 (a := 5) (by decide); have q5 := lv_neT hn5 (a := 6) (by decide); have q6 := lv_neT hn6 (a := 7) (by decide); have q7 := lv_neT hn7 (a := 8) (by decide); have q8 := lv_neT hn8 (a := 9) (by decide); have q9 := lv_neT hn9 (a := 10) (by decide); omega) rfl ?_
                      refine lv_iconst (v := 0) hx hb dAD_follow_114 (by decide) ?_
                      exact zr_zret hx hb hr hlk hP hS rfl h dAD_follow_115
set_option maxHeartbeats 4000000 in
set_option maxRecDepth 100000 in
theorem zw_AD_listSites_46 (hM : zs_M p c cAD_listSites 3 s m meth args "ThriftyStores$Addresses" none g) {d1 : Nat} (hd1 : zs_Pr d1) {K : zs_T → Prop} {B7 : Int32 → zs_T → Prop} (hB7 : ∀ (l2 : Int32) (st : zs_T), B7 l2 st → zs_Go p l e (zs_rm 0 0) s m args below meth c g A (MQ below (zs_Qv g zs_ly zs_N A K) args s 0 0 A) 3 7 [(0, .ref (g.2.1 12)), (1, .ref (g.2.1 d1)), (2, .int l2)] [] st) (l2 : Int32) (st : zs_T) (h : zf_AD_listSites_46 d1 K B7 l2 st) : zs_Go p l e (zs_rm 0 0) s m args below meth c g A (MQ below (zs_Qv g zs_ly zs_N A K) args s 0 0 A) 3 46 [(0, .ref (g.2.1 12)), (1, .ref (g.2.1 d1)), (2, .int l2)] [] st := by
  obtain ⟨hx, hb, hml, hr, hlk, hts, hown, hK⟩ := id hM
  intro ls H locs hl hP hS
  unfold zf_AD_listSites_46 at h
  refine lv_iinc (k := 2) (v := l2 + 1) hx hb dAD_listSites_46 hl rfl (by rw [show Int32.ofInt (1) = 1 from by decide]) (by decide) rfl (fun ls hl => ?_)
  have hl : lv_has ls 3 [(2, .int (l2 + 1)), (0, .ref (g.2.1 12)), (1, .ref (g.2.1 d1))] := hl
  refine lv_goto (tgt := 7) hx hb dAD_listSites_49 rfl ?_
  exact hB7 (l2 + 1) st h ls H locs (lv_sub hl [1, 2, 0] rfl) hP hS
set_option maxHeartbeats 4000000 in
set_option maxRecDepth 100000 in
theorem zw_AD_listSites_7_s (hM : zs_M p c cAD_listSites 3 s m meth args "ThriftyStores$Addresses" none g) {d1 : Nat} (hd1 : zs_Pr d1) {K : zs_T → Prop}  {B7 : Int32 → zs_T → Prop}  (hB7 : ∀ (l2 : Int32) (st : zs_T), B7 l2 st → zs_Go p l e (zs_rm 0 0) s m args below meth c g A (MQ below (zs_Qv g zs_ly zs_N A K) args s 0 0 A) 3 7 [(0, .ref (g.2.1 12)), (1, .ref (g.2.1 d1)), (2, .int l2)] [] st) (l2 : Int32) (st : zs_T) (h : zf_AD_listSites_7_s d1 K B7 l2 st) : zs_Go p l e (zs_rm 0 0) s m args below meth c g A (MQ below (zs_Qv g zs_ly zs_N A K) args s 0 0 A) 3 7 [(0, .ref (g.2.1 12)), (1, .ref (g.2.1 d1)), (2, .int l2)] [] st := by
  obtain ⟨hx, hb, hml, hr, hlk, hts, hown, hK⟩ := id hM
  intro ls H locs hl hP hS
  unfold zf_AD_listSites_7_s at h
  refine lv_iload_n hx hb dAD_listSites_7 rfl (lv_at hl 2 rfl) ?_
  refine lv_aload_n hx hb dAD_listSites_8 rfl (lv_at hl 1 rfl) ?_
  refine zr_geti hx hb hts zi_PR hown hK.1 hP hd1.1.1 hd1.1.2 rfl 4 (by decide) rfl (hts _ zq_58) dAD_listSites_9 ?_
  refine lv_icmp_ge (tgt := 52) hx hb dAD_listSites_12 rfl (fun hc => ?_) (fun hc => ?_)
  · have h := h.1 hc
    clear hc
    exact zr_vret hx hb hr hlk hP hS h dAD_listSites_52
  · have h := h.2 hc
    clear hc
    refine lv_aload_n hx hb dAD_listSites_15 rfl (lv_at hl 1 rfl) ?_
    refine zr_getr (b := d1 + 1) hx hb hts zi_PR hown hK.1 hP hd1.1.1 hd1.1.2 rfl 0 (by decide) rfl (hts _ zq_35) dAD_listSites_16 ?_
    refine lv_iload_n hx hb dAD_listSites_19 rfl (lv_at hl 2 rfl) ?_
    obtain ⟨hi101, h⟩ := h
    refine zr_iald hx hb hK.1 hP hd1.2.1.1 hd1.2.1.2 hi101 dAD_listSites_20 ?_
    refine lv_bipush (v := 8) hx hb dAD_listSites_21 (by decide) ?_
    refine lv_icmp_ne (tgt := 46) hx hb dAD_listSites_23 rfl (fun hc => ?_) (fun hc => ?_)
    · have h := h.1 hc
      clear hc
      exact zw_AD_listSites_46 hM hd1 hB7 l2 st h ls H locs (lv_sub hl [0, 1, 2] rfl) hP hS
    · have h := h.2 hc
      clear hc
      refine lv_aload_n hx hb dAD_listSites_26 rfl (lv_at hl 0 rfl) ?_
      refine zr_getr (b := 15) hx hb hts zi_AD hown hK.1 hP zl_12.1 zl_12.2 rfl 2 (by decide) rfl (hts _ zq_80) dAD_listSites_27 ?_
      refine lv_aload_n hx hb dAD_listSites_30 rfl (lv_at hl 0 rfl) ?_
      refine zr_geti hx hb hts zi_AD hown hK.1 hP zl_12.1 zl_12.2 rfl 3 (by decide) rfl (hts _ zq_81) dAD_listSites_31 ?_
      refine lv_iload_n hx hb dAD_listSites_34 rfl (lv_at hl 2 rfl) ?_
      obtain ⟨hi102, h⟩ := h
      refine zr_iast hx hb hK.1 hP hS zl_15.1 zl_15.2 hi102 dAD_listSites_35 (fun H locs hP hS => ?_)
      obtain ⟨t103, e9⟩ : ∃ t9 : zs_T, t9 = zs_i st 15 (st.1 12 3).toNatClampNeg l2 := ⟨_, rfl⟩
      have h := h t103 e9
      have hP : zs_P g zs_ly zs_N A t103 H := by rw [e9]; exact hP
      clear e9
      refine lv_aload_n hx hb dAD_listSites_36 rfl (lv_at hl 0 rfl) ?_
      refine lv_dup hx hb dAD_listSites_37 rfl ?_
      refine zr_geti hx hb hts zi_AD hown hK.1 hP zl_12.1 zl_12.2 rfl 3 (by decide) rfl (hts _ zq_81) dAD_listSites_38 ?_
      refine lv_iconst (v := 1) hx hb dAD_listSites_41 (by decide) ?_
      refine lv_iadd hx hb dAD_listSites_42 ?_
      refine zr_put hx hb hts zi_AD tyAD tyAD_ok nmAD hown hK.1 hP hS zl_12.1 zl_12.2 rfl 3 (by decide) rfl (hts _ zq_81) rfl rfl rfl dAD_listSites_43 (fun H locs hP hS => ?_)
      obtain ⟨t104, e9⟩ : ∃ t9 : zs_T, t9 = zs_i t103 12 3 ((t103.1 12 3) + 1) := ⟨_, rfl⟩
      have h := h t104 e9
      have hP : zs_P g zs_ly zs_N A t104 H := by rw [e9]; exact hP
      clear e9
      exact zw_AD_listSites_46 hM hd1 hB7 l2 t104 h ls H locs (lv_sub hl [0, 1, 2] rfl) hP hS
theorem zw_AD_listSites_7 (hM : zs_M p c cAD_listSites 3 s m meth args "ThriftyStores$Addresses" none g) {d1 : Nat} (hd1 : zs_Pr d1) {K : zs_T → Prop}   : ∀ (n : Nat) (l2 : Int32) (st : zs_T), zf_AD_listSites_7 d1 K n l2 st → zs_Go p l e (zs_rm 0 0) s m args below meth c g A (MQ below (zs_Qv g zs_ly zs_N A K) args s 0 0 A) 3 7 [(0, .ref (g.2.1 12)), (1, .ref (g.2.1 d1)), (2, .int l2)] [] st := by
  intro n
  induction n with
  | zero => intro l2 st h; exact False.elim h
  | succ n ih => intro l2 st h; exact zw_AD_listSites_7_s hM hd1 ih l2 st h
set_option maxHeartbeats 4000000 in
set_option maxRecDepth 100000 in
theorem zc_AD_listSites (l : Launch) (g : zs_G) (A : Nat → Prop) {d1 : Nat} (hd1 : zs_Pr d1) {st : zs_T} {K : zs_T → Prop} (h : zf_AD_listSites d1 st K) : Met l yAD_listSites (.code yAD_listSites cAD_listSites 3 none :: zs_tb) (zs_rm 0 0) (zs_Pc zs_nl g zs_ly zs_N A [.ref (g.2.1 12), .ref (g.2.1 d1)] st) (zs_Qv g zs_ly zs_N A K) 0 0 A := by
  refine zs_met (cc := cAD_listSites) (maxL := 3) (ret := none) (by decide) (Nat.le_of_ble_eq_true rfl) (fun p e s m below meth c hM => ?_)
  have hM : zs_M p c cAD_listSites 3 s m meth [.ref (g.2.1 12), .ref (g.2.1 d1)].toArray "ThriftyStores$Addresses" none g := hM
  obtain ⟨hx, hb, hml, hr, hlk, hts, hown, hK⟩ := id hM
  intro ls H locs hl hP hS
  have hl : lv_has ls 3 [(0, .ref (g.2.1 12)), (1, .ref (g.2.1 d1))] := hl
  unfold zf_AD_listSites at h
  refine lv_aload_n hx hb dAD_listSites_0 rfl (lv_at hl 0 rfl) ?_
  refine lv_iconst (v := 0) hx hb dAD_listSites_1 (by decide) ?_
  refine zr_put hx hb hts zi_AD tyAD tyAD_ok nmAD hown hK.1 hP hS zl_12.1 zl_12.2 rfl 3 (by decide) rfl (hts _ zq_81) rfl rfl rfl dAD_listSites_2 (fun H locs hP hS => ?_)
  obtain ⟨t1, e9⟩ : ∃ t9 : zs_T, t9 = zs_i st 12 3 0 := ⟨_, rfl⟩
  have h := h t1 e9
  have hP : zs_P g zs_ly zs_N A t1 H := by rw [e9]; exact hP
  clear e9
  refine lv_iconst (v := 0) hx hb dAD_listSites_5 (by decide) ?_
  refine lv_istore_n hx hb dAD_listSites_6 rfl hl (by decide) rfl (fun ls hl => ?_)
  have hl : lv_has ls 3 [(2, .int 0), (0, .ref (g.2.1 12)), (1, .ref (g.2.1 d1))] := hl
  obtain ⟨n, h⟩ := h
  exact zw_AD_listSites_7 hM hd1 n 0 t1 h ls H locs (lv_sub hl [1, 2, 0] rfl) hP hS
set_option maxHeartbeats 4000000 in
set_option maxRecDepth 100000 in
theorem zw_AD_haveCommonSite_41 (hM : zs_M p c cAD_haveCommonSite 5 s m meth args "ThriftyStores$Addresses" (some .boolean) g)   {K : Int32 → zs_T → Prop} {B5 : Int32 → Int32 → Int32 → Int32 → zs_T → Prop} (hB5 : ∀ (l1 : Int32) (l2 : Int32) (l3 : Int32) (l4 : Int32) (st : zs_T), B5 l1 l2 l3 l4 st → zs_Go p l e (zs_rm 0 0) s m args below meth c g A (MQ below (zs_Qi g zs_ly zs_N A K) args s 0 0 A) 5 5 [(0, .ref (g.2.1 12)), (1, .int l1), (2, .int l2), (3, .int l3), (4, .int l4)] [] st) (l1 : Int32) (l2 : Int32) (l3 : Int32) (l4 : Int32) (st : zs_T) (h : zf_AD_haveCommonSite_41 K B5 l1 l2 l3 l4 st) : zs_Go p l e (zs_rm 0 0) s m args below meth c g A (MQ below (zs_Qi g zs_ly zs_N A K) args s 0 0 A) 5 41 [(0, .ref (g.2.1 12)), (1, .int l1), (2, .int l2), (3, .int l3), (4, .int l4)] [] st := by
  obtain ⟨hx, hb, hml, hr, hlk, hts, hown, hK⟩ := id hM
  intro ls H locs hl hP hS
  unfold zf_AD_haveCommonSite_41 at h
  refine lv_iinc (k := 4) (v := l4 + 1) hx hb dAD_haveCommonSite_41 hl rfl (by rw [show Int32.ofInt (1) = 1 from by decide]) (by decide) rfl (fun ls hl => ?_)
  have hl : lv_has ls 5 [(4, .int (l4 + 1)), (0, .ref (g.2.1 12)), (1, .int l1), (2, .int l2), (3, .int l3)] := hl
  refine lv_goto (tgt := 5) hx hb dAD_haveCommonSite_44 rfl ?_
  exact hB5 l1 l2 l3 (l4 + 1) st h ls H locs (lv_sub hl [1, 2, 3, 4, 0] rfl) hP hS
set_option maxHeartbeats 4000000 in
set_option maxRecDepth 100000 in
theorem zw_AD_haveCommonSite_5_s (hM : zs_M p c cAD_haveCommonSite 5 s m meth args "ThriftyStores$Addresses" (some .boolean) g)   {K : Int32 → zs_T → Prop}  {B5 : Int32 → Int32 → Int32 → Int32 → zs_T → Prop}  (hB5 : ∀ (l1 : Int32) (l2 : Int32) (l3 : Int32) (l4 : Int32) (st : zs_T), B5 l1 l2 l3 l4 st → zs_Go p l e (zs_rm 0 0) s m args below meth c g A (MQ below (zs_Qi g zs_ly zs_N A K) args s 0 0 A) 5 5 [(0, .ref (g.2.1 12)), (1, .int l1), (2, .int l2), (3, .int l3), (4, .int l4)] [] st) (l1 : Int32) (l2 : Int32) (l3 : Int32) (l4 : Int32) (st : zs_T) (h : zf_AD_haveCommonSite_5_s K B5 l1 l2 l3 l4 st) : zs_Go p l e (zs_rm 0 0) s m args below meth c g A (MQ below (zs_Qi g zs_ly zs_N A K) args s 0 0 A) 5 5 [(0, .ref (g.2.1 12)), (1, .int l1), (2, .int l2), (3, .int l3), (4, .int l4)] [] st := by
  obtain ⟨hx, hb, hml, hr, hlk, hts, hown, hK⟩ := id hM
  intro ls H locs hl hP hS
  unfold zf_AD_haveCommonSite_5_s at h
  refine lv_iload hx hb dAD_haveCommonSite_5 (lv_at hl 4 rfl) ?_
  refine lv_iconst (v := 4) hx hb dAD_haveCommonSite_7 (by decide) ?_
  refine lv_icmp_ge (tgt := 47) hx hb dAD_haveCommonSite_8 rfl (fun hc => ?_) (fun hc => ?_)
  · have h := h.1 hc
    clear hc
    refine lv_iload_n hx hb dAD_haveCommonSite_47 rfl (lv_at hl 3 rfl) ?_
    exact zr_zret hx hb hr hlk hP hS (zs_bn h.1) h.2 dAD_haveCommonSite_48
  · have h := h.2 hc
    clear hc
    refine lv_aload_n hx hb dAD_haveCommonSite_11 rfl (lv_at hl 0 rfl) ?_
    refine zr_getr (b := 13) hx hb hts zi_AD hown hK.1 hP zl_12.1 zl_12.2 rfl 0 (by decide) rfl (hts _ zq_78) dAD_haveCommonSite_12 ?_
    refine lv_iload_n hx hb dAD_haveCommonSite_15 rfl (lv_at hl 1 rfl) ?_
    refine lv_iconst (v := 4) hx hb dAD_haveCommonSite_16 (by decide) ?_
    refine lv_imul hx hb dAD_haveCommonSite_17 ?_
    refine lv_iload hx hb dAD_haveCommonSite_18 (lv_at hl 4 rfl) ?_
    refine lv_iadd hx hb dAD_haveCommonSite_20 ?_
    obtain ⟨hi102, h⟩ := h
    refine zr_lald hx hb hK.1 hP zl_13.1 zl_13.2 hi102 dAD_haveCommonSite_21 ?_
    refine lv_aload_n hx hb dAD_haveCommonSite_22 rfl (lv_at hl 0 rfl) ?_
    refine zr_getr (b := 13) hx hb hts zi_AD hown hK.1 hP zl_12.1 zl_12.2 rfl 0 (by decide) rfl (hts _ zq_78) dAD_haveCommonSite_23 ?_
    refine lv_iload_n hx hb dAD_haveCommonSite_26 rfl (lv_at hl 2 rfl) ?_
    refine lv_iconst (v := 4) hx hb dAD_haveCommonSite_27 (by decide) ?_
    refine lv_imul hx hb dAD_haveCommonSite_28 ?_
    refine lv_iload hx hb dAD_haveCommonSite_29 (lv_at hl 4 rfl) ?_
    refine lv_iadd hx hb dAD_haveCommonSite_31 ?_
    obtain ⟨hi103, h⟩ := h
    refine zr_lald hx hb hK.1 hP zl_13.1 zl_13.2 hi103 dAD_haveCommonSite_32 ?_
    refine lv_land hx hb dAD_haveCommonSite_33 ?_
    refine lv_lconst (v := 0) hx hb dAD_haveCommonSite_34 (by decide) ?_
    refine W.lcmp hx hb dAD_haveCommonSite_35 ?_
    refine lv_if_eq (tgt := 41) hx hb dAD_haveCommonSite_36 rfl (fun hc => ?_) (fun hc => ?_)
    · have h := h.1 hc
      clear hc
      exact zw_AD_haveCommonSite_41 hM hB5 l1 l2 l3 l4 st h ls H locs (lv_sub hl [0, 1, 2, 3, 4] rfl) hP hS
    · have h := h.2 hc
      clear hc
      refine lv_iconst (v := 1) hx hb dAD_haveCommonSite_39 (by decide) ?_
      refine lv_istore_n hx hb dAD_haveCommonSite_40 rfl hl (by decide) rfl (fun ls hl => ?_)
      have hl : lv_has ls 5 [(3, .int 1), (0, .ref (g.2.1 12)), (1, .int l1), (2, .int l2), (4, .int l4)] := hl
      exact zw_AD_haveCommonSite_41 hM hB5 l1 l2 1 l4 st h ls H locs (lv_sub hl [1, 2, 3, 0, 4] rfl) hP hS
theorem zw_AD_haveCommonSite_5 (hM : zs_M p c cAD_haveCommonSite 5 s m meth args "ThriftyStores$Addresses" (some .boolean) g)   {K : Int32 → zs_T → Prop}   : ∀ (n : Nat) (l1 : Int32) (l2 : Int32) (l3 : Int32) (l4 : Int32) (st : zs_T), zf_AD_haveCommonSite_5 K n l1 l2 l3 l4 st → zs_Go p l e (zs_rm 0 0) s m args below meth c g A (MQ below (zs_Qi g zs_ly zs_N A K) args s 0 0 A) 5 5 [(0, .ref (g.2.1 12)), (1, .int l1), (2, .int l2), (3, .int l3), (4, .int l4)] [] st := by
  intro n
  induction n with
  | zero => intro l1 l2 l3 l4 st h; exact False.elim h
  | succ n ih => intro l1 l2 l3 l4 st h; exact zw_AD_haveCommonSite_5_s hM  ih l1 l2 l3 l4 st h
set_option maxHeartbeats 4000000 in
set_option maxRecDepth 100000 in
theorem zc_AD_haveCommonSite (l : Launch) (g : zs_G) (A : Nat → Prop) {l1 : Int32} {l2 : Int32}  {st : zs_T} {K : Int32 → zs_T → Prop} (h : zf_AD_haveCommonSite l1 l2 st K) : Met l yAD_haveCommonSite (.code yAD_haveCommonSite cAD_haveCommonSite 5 (some .boolean) :: zs_tb) (zs_rm 0 0) (zs_Pc zs_nl g zs_ly zs_N A [.ref (g.2.1 12), .int l1, .int l2] st) (zs_Qi g zs_ly zs_N A K) 0 0 A := by
  refine zs_met (cc := cAD_haveCommonSite) (maxL := 5) (ret := (some .boolean)) (by decide) (Nat.le_of_ble_eq_true rfl) (fun p e s m below meth c hM => ?_)
  have hM : zs_M p c cAD_haveCommonSite 5 s m meth [.ref (g.2.1 12), .int l1, .int l2].toArray "ThriftyStores$Addresses" (some .boolean) g := hM
  obtain ⟨hx, hb, hml, hr, hlk, hts, hown, hK⟩ := id hM
  intro ls H locs hl hP hS
  have hl : lv_has ls 5 [(0, .ref (g.2.1 12)), (1, .int l1), (2, .int l2)] := hl
  unfold zf_AD_haveCommonSite at h
  refine lv_iconst (v := 0) hx hb dAD_haveCommonSite_0 (by decide) ?_
  refine lv_istore_n hx hb dAD_haveCommonSite_1 rfl hl (by decide) rfl (fun ls hl => ?_)
  have hl : lv_has ls 5 [(3, .int 0), (0, .ref (g.2.1 12)), (1, .int l1), (2, .int l2)] := hl
  refine lv_iconst (v := 0) hx hb dAD_haveCommonSite_2 (by decide) ?_
  refine lv_istore hx hb dAD_haveCommonSite_3 hl (by decide) rfl (fun ls hl => ?_)
  have hl : lv_has ls 5 [(4, .int 0), (3, .int 0), (0, .ref (g.2.1 12)), (1, .int l1), (2, .int l2)] := hl
  obtain ⟨n, h⟩ := h
  exact zw_AD_haveCommonSite_5 hM  n l1 l2 0 0 st h ls H locs (lv_sub hl [2, 3, 4, 1, 0] rfl) hP hS
set_option maxHeartbeats 4000000 in
set_option maxRecDepth 100000 in
theorem zw_AD_findMeeting_44 (hM : zs_M p c cAD_findMeeting 3 s m meth args "ThriftyStores$Addresses" none g)   {K : zs_T → Prop} {B2 : Int32 → zs_T → Prop} {B17 : Int32 → Int32 → zs_T → Prop} (hB2 : ∀ (l1 : Int32) (st : zs_T), B2 l1 st → zs_Go p l e (zs_rm 1 24) s m args below meth c g A (MQ below (zs_Qv g zs_ly zs_N A K) args s 0 0 A) 3 2 [(0, .ref (g.2.1 12)), (1, .int l1)] [] st) (hB17 : ∀ (l1 : Int32) (l2 : Int32) (st : zs_T), B17 l1 l2 st → zs_Go p l e (zs_rm 1 24) s m args below meth c g A (MQ below (zs_Qv g zs_ly zs_N A K) args s 0 0 A) 3 17 [(0, .ref (g.2.1 12)), (1, .int l1), (2, .int l2)] [] st) (l1 : Int32) (l2 : Int32) (st : zs_T) (h : zf_AD_findMeeting_44 K B2 B17 l1 l2 st) : zs_Go p l e (zs_rm 1 24) s m args below meth c g A (MQ below (zs_Qv g zs_ly zs_N A K) args s 0 0 A) 3 44 [(0, .ref (g.2.1 12)), (1, .int l1), (2, .int l2)] [] st := by
  obtain ⟨hx, hb, hml, hr, hlk, hts, hown, hK⟩ := id hM
  intro ls H locs hl hP hS
  unfold zf_AD_findMeeting_44 at h
  refine lv_iinc (k := 2) (v := l2 + 1) hx hb dAD_findMeeting_44 hl rfl (by rw [show Int32.ofInt (1) = 1 from by decide]) (by decide) rfl (fun ls hl => ?_)
  have hl : lv_has ls 3 [(2, .int (l2 + 1)), (0, .ref (g.2.1 12)), (1, .int l1)] := hl
  refine lv_goto (tgt := 17) hx hb dAD_findMeeting_47 rfl ?_
  exact hB17 l1 (l2 + 1) st h ls H locs (lv_sub hl [1, 2, 0] rfl) hP hS
set_option maxHeartbeats 4000000 in
set_option maxRecDepth 100000 in
theorem zw_AD_findMeeting_17_s (hM : zs_M p c cAD_findMeeting 3 s m meth args "ThriftyStores$Addresses" none g)   {K : zs_T → Prop} {B2 : Int32 → zs_T → Prop} {B17 : Int32 → Int32 → zs_T → Prop} (hB2 : ∀ (l1 : Int32) (st : zs_T), B2 l1 st → zs_Go p l e (zs_rm 1 24) s m args below meth c g A (MQ below (zs_Qv g zs_ly zs_N A K) args s 0 0 A) 3 2 [(0, .ref (g.2.1 12)), (1, .int l1)] [] st) (hB17 : ∀ (l1 : Int32) (l2 : Int32) (st : zs_T), B17 l1 l2 st → zs_Go p l e (zs_rm 1 24) s m args below meth c g A (MQ below (zs_Qv g zs_ly zs_N A K) args s 0 0 A) 3 17 [(0, .ref (g.2.1 12)), (1, .int l1), (2, .int l2)] [] st) (l1 : Int32) (l2 : Int32) (st : zs_T) (h : zf_AD_findMeeting_17_s K B2 B17 l1 l2 st) : zs_Go p l e (zs_rm 1 24) s m args below meth c g A (MQ below (zs_Qv g zs_ly zs_N A K) args s 0 0 A) 3 17 [(0, .ref (g.2.1 12)), (1, .int l1), (2, .int l2)] [] st := by
  obtain ⟨hx, hb, hml, hr, hlk, hts, hown, hK⟩ := id hM
  intro ls H locs hl hP hS
  unfold zf_AD_findMeeting_17_s at h
  refine lv_iload_n hx hb dAD_findMeeting_17 rfl (lv_at hl 2 rfl) ?_
  refine lv_bipush (v := 16) hx hb dAD_findMeeting_18 (by decide) ?_
  refine lv_icmp_ge (tgt := 50) hx hb dAD_findMeeting_20 rfl (fun hc => ?_) (fun hc => ?_)
  · have h := h.1 hc
    clear hc
    refine lv_iinc (k := 1) (v := l1 + 1) hx hb dAD_findMeeting_50 hl rfl (by rw [show Int32.ofInt (1) = 1 from by decide]) (by decide) rfl (fun ls hl => ?_)
    have hl : lv_has ls 3 [(1, .int (l1 + 1)), (0, .ref (g.2.1 12)), (2, .int l2)] := hl
    refine lv_goto (tgt := 2) hx hb dAD_findMeeting_53 rfl ?_
    exact hB2 (l1 + 1) st h ls H locs (lv_sub hl [1, 0] rfl) hP hS
  · have h := h.2 hc
    clear hc
    refine lv_aload_n hx hb dAD_findMeeting_23 rfl (lv_at hl 0 rfl) ?_
    refine lv_iload_n hx hb dAD_findMeeting_24 rfl (lv_at hl 1 rfl) ?_
    refine lv_iload_n hx hb dAD_findMeeting_25 rfl (lv_at hl 2 rfl) ?_
    refine zr_calli (va_runV (As := [.int l1, .int l2]) (rest := []) ⟨hx, hb, hml, hown, hts⟩ (zc_AD_haveCommonSite l g A  h) (cwV 2 hts (zs_gV zq_423 zq_425 zp_9 zq_3 zq_426) rfl rfl rfl ⟨rfl, by decide, by decide, by decide +kernel⟩ ⟨Nat.le_of_ble_eq_true rfl, Nat.le_of_ble_eq_true rfl⟩) (zs_preV zs_nwk hK hP zl_12.1 zl_12.2 rfl) rfl rfl hl.1 rfl (lv_room (Nat.le_of_ble_eq_true rfl)) dAD_findMeeting_26 ⟨Nat.le_refl _, Nat.le_refl _⟩) hS (fun r202 u201 H locs h hP hS => ?_)
    refine lv_if_eq (tgt := 44) hx hb dAD_findMeeting_29 rfl (fun hc => ?_) (fun hc => ?_)
    · have h := h.1 hc
      clear hc
      exact zw_AD_findMeeting_44 hM hB2 hB17 l1 l2 u201 h ls H locs (lv_sub hl [0, 1, 2] rfl) hP hS
    · have h := h.2 hc
      clear hc
      refine lv_aload_n hx hb dAD_findMeeting_32 rfl (lv_at hl 0 rfl) ?_
      refine zr_getr (b := 16) hx hb hts zi_AD hown hK.1 hP zl_12.1 zl_12.2 rfl 4 (by decide) rfl (hts _ zq_82) dAD_findMeeting_33 ?_
      refine lv_iload_n hx hb dAD_findMeeting_36 rfl (lv_at hl 1 rfl) ?_
      refine lv_dup2_11 hx hb dAD_findMeeting_37 rfl rfl ?_
      obtain ⟨hi203, h⟩ := h
      refine zr_iald hx hb hK.1 hP zl_16.1 zl_16.2 hi203 dAD_findMeeting_38 ?_
      refine lv_iconst (v := 1) hx hb dAD_findMeeting_39 (by decide) ?_
      refine lv_iload_n hx hb dAD_findMeeting_40 rfl (lv_at hl 2 rfl) ?_
      refine lv_ishl hx hb dAD_findMeeting_41 ?_
      refine lv_ior hx hb dAD_findMeeting_42 ?_
      obtain ⟨hi204, h⟩ := h
      refine zr_iast hx hb hK.1 hP hS zl_16.1 zl_16.2 hi204 dAD_findMeeting_43 (fun H locs hP hS => ?_)
      obtain ⟨t205, e9⟩ : ∃ t9 : zs_T, t9 = zs_i u201 16 l1.toNatClampNeg ((u201.1 16 l1.toNatClampNeg) ||| ((1 : Int32) <<< (l2 &&& 31))) := ⟨_, rfl⟩
      have h := h t205 e9
      have hP : zs_P g zs_ly zs_N A t205 H := by rw [e9]; exact hP
      clear e9
      exact zw_AD_findMeeting_44 hM hB2 hB17 l1 l2 t205 h ls H locs (lv_sub hl [0, 1, 2] rfl) hP hS
theorem zw_AD_findMeeting_17 (hM : zs_M p c cAD_findMeeting 3 s m meth args "ThriftyStores$Addresses" none g)   {K : zs_T → Prop} {B2 : Int32 → zs_T → Prop} (hB2 : ∀ (l1 : Int32) (st : zs_T), B2 l1 st → zs_Go p l e (zs_rm 1 24) s m args below meth c g A (MQ below (zs_Qv g zs_ly zs_N A K) args s 0 0 A) 3 2 [(0, .ref (g.2.1 12)), (1, .int l1)] [] st) : ∀ (n : Nat) (l1 : Int32) (l2 : Int32) (st : zs_T), zf_AD_findMeeting_17 K B2 n l1 l2 st → zs_Go p l e (zs_rm 1 24) s m args below meth c g A (MQ below (zs_Qv g zs_ly zs_N A K) args s 0 0 A) 3 17 [(0, .ref (g.2.1 12)), (1, .int l1), (2, .int l2)] [] st := by
  intro n
  induction n with
  | zero => intro l1 l2 st h; exact False.elim h
  | succ n ih => intro l1 l2 st h; exact zw_AD_findMeeting_17_s hM hB2 ih l1 l2 st h
set_option maxHeartbeats 4000000 in
set_option maxRecDepth 100000 in
theorem zw_AD_findMeeting_2_s (hM : zs_M p c cAD_findMeeting 3 s m meth args "ThriftyStores$Addresses" none g)   {K : zs_T → Prop}  {B2 : Int32 → zs_T → Prop}  (hB2 : ∀ (l1 : Int32) (st : zs_T), B2 l1 st → zs_Go p l e (zs_rm 1 24) s m args below meth c g A (MQ below (zs_Qv g zs_ly zs_N A K) args s 0 0 A) 3 2 [(0, .ref (g.2.1 12)), (1, .int l1)] [] st) (l1 : Int32) (st : zs_T) (h : zf_AD_findMeeting_2_s K B2 l1 st) : zs_Go p l e (zs_rm 1 24) s m args below meth c g A (MQ below (zs_Qv g zs_ly zs_N A K) args s 0 0 A) 3 2 [(0, .ref (g.2.1 12)), (1, .int l1)] [] st := by
  obtain ⟨hx, hb, hml, hr, hlk, hts, hown, hK⟩ := id hM
  intro ls H locs hl hP hS
  unfold zf_AD_findMeeting_2_s at h
  refine lv_iload_n hx hb dAD_findMeeting_2 rfl (lv_at hl 1 rfl) ?_
  refine lv_bipush (v := 16) hx hb dAD_findMeeting_3 (by decide) ?_
  refine lv_icmp_ge (tgt := 56) hx hb dAD_findMeeting_5 rfl (fun hc => ?_) (fun hc => ?_)
  · have h := h.1 hc
    clear hc
    exact zr_vret hx hb hr hlk hP hS h dAD_findMeeting_56
  · have h := h.2 hc
    clear hc
    refine lv_aload_n hx hb dAD_findMeeting_8 rfl (lv_at hl 0 rfl) ?_
    refine zr_getr (b := 16) hx hb hts zi_AD hown hK.1 hP zl_12.1 zl_12.2 rfl 4 (by decide) rfl (hts _ zq_82) dAD_findMeeting_9 ?_
    refine lv_iload_n hx hb dAD_findMeeting_12 rfl (lv_at hl 1 rfl) ?_
    refine lv_iconst (v := 0) hx hb dAD_findMeeting_13 (by decide) ?_
    obtain ⟨hi101, h⟩ := h
    refine zr_iast hx hb hK.1 hP hS zl_16.1 zl_16.2 hi101 dAD_findMeeting_14 (fun H locs hP hS => ?_)
    obtain ⟨t102, e9⟩ : ∃ t9 : zs_T, t9 = zs_i st 16 l1.toNatClampNeg 0 := ⟨_, rfl⟩
    have h := h t102 e9
    have hP : zs_P g zs_ly zs_N A t102 H := by rw [e9]; exact hP
    clear e9
    refine lv_iconst (v := 0) hx hb dAD_findMeeting_15 (by decide) ?_
    refine lv_istore_n hx hb dAD_findMeeting_16 rfl hl (by decide) rfl (fun ls hl => ?_)
    have hl : lv_has ls 3 [(2, .int 0), (0, .ref (g.2.1 12)), (1, .int l1)] := hl
    obtain ⟨n, h⟩ := h
    exact zw_AD_findMeeting_17 hM hB2 n l1 0 t102 h ls H locs (lv_sub hl [1, 2, 0] rfl) hP hS
theorem zw_AD_findMeeting_2 (hM : zs_M p c cAD_findMeeting 3 s m meth args "ThriftyStores$Addresses" none g)   {K : zs_T → Prop}   : ∀ (n : Nat) (l1 : Int32) (st : zs_T), zf_AD_findMeeting_2 K n l1 st → zs_Go p l e (zs_rm 1 24) s m args below meth c g A (MQ below (zs_Qv g zs_ly zs_N A K) args s 0 0 A) 3 2 [(0, .ref (g.2.1 12)), (1, .int l1)] [] st := by
  intro n
  induction n with
  | zero => intro l1 st h; exact False.elim h
  | succ n ih => intro l1 st h; exact zw_AD_findMeeting_2_s hM  ih l1 st h
set_option maxHeartbeats 4000000 in
set_option maxRecDepth 100000 in
theorem zc_AD_findMeeting (l : Launch) (g : zs_G) (A : Nat → Prop)   {st : zs_T} {K : zs_T → Prop} (h : zf_AD_findMeeting  st K) : Met l yAD_findMeeting (.code yAD_findMeeting cAD_findMeeting 3 none :: zs_tb) (zs_rm 1 24) (zs_Pc zs_nl g zs_ly zs_N A [.ref (g.2.1 12)] st) (zs_Qv g zs_ly zs_N A K) 0 0 A := by
  refine zs_met (cc := cAD_findMeeting) (maxL := 3) (ret := none) (by decide) (Nat.le_of_ble_eq_true rfl) (fun p e s m below meth c hM => ?_)
  have hM : zs_M p c cAD_findMeeting 3 s m meth [.ref (g.2.1 12)].toArray "ThriftyStores$Addresses" none g := hM
  obtain ⟨hx, hb, hml, hr, hlk, hts, hown, hK⟩ := id hM
  intro ls H locs hl hP hS
  have hl : lv_has ls 3 [(0, .ref (g.2.1 12))] := hl
  unfold zf_AD_findMeeting at h
  refine lv_iconst (v := 0) hx hb dAD_findMeeting_0 (by decide) ?_
  refine lv_istore_n hx hb dAD_findMeeting_1 rfl hl (by decide) rfl (fun ls hl => ?_)
  have hl : lv_has ls 3 [(1, .int 0), (0, .ref (g.2.1 12))] := hl
  obtain ⟨n, h⟩ := h
  exact zw_AD_findMeeting_2 hM  n 0 st h ls H locs (lv_sub hl [1, 0] rfl) hP hS
set_option maxHeartbeats 4000000 in
set_option maxRecDepth 100000 in
theorem zw_AD_takeHolders_34 (hM : zs_M p c cAD_takeHolders 3 s m meth args "ThriftyStores$Addresses" none g)   {K : zs_T → Prop} {B2 : Int32 → Int32 → zs_T → Prop} (hB2 : ∀ (l1 : Int32) (l2 : Int32) (st : zs_T), B2 l1 l2 st → zs_Go p l e (zs_rm 1 22) s m args below meth c g A (MQ below (zs_Qv g zs_ly zs_N A K) args s 0 0 A) 3 2 [(0, .ref (g.2.1 12)), (1, .int l1), (2, .int l2)] [] st) (l1 : Int32) (l2 : Int32) (st : zs_T) (h : zf_AD_takeHolders_34 K B2 l1 l2 st) : zs_Go p l e (zs_rm 1 22) s m args below meth c g A (MQ below (zs_Qv g zs_ly zs_N A K) args s 0 0 A) 3 34 [(0, .ref (g.2.1 12)), (1, .int l1), (2, .int l2)] [] st := by
  obtain ⟨hx, hb, hml, hr, hlk, hts, hown, hK⟩ := id hM
  intro ls H locs hl hP hS
  unfold zf_AD_takeHolders_34 at h
  refine lv_iinc (k := 2) (v := l2 + 1) hx hb dAD_takeHolders_34 hl rfl (by rw [show Int32.ofInt (1) = 1 from by decide]) (by decide) rfl (fun ls hl => ?_)
  have hl : lv_has ls 3 [(2, .int (l2 + 1)), (0, .ref (g.2.1 12)), (1, .int l1)] := hl
  refine lv_goto (tgt := 2) hx hb dAD_takeHolders_37 rfl ?_
  exact hB2 l1 (l2 + 1) st h ls H locs (lv_sub hl [1, 2, 0] rfl) hP hS
set_option maxHeartbeats 4000000 in
set_option maxRecDepth 100000 in
theorem zw_AD_takeHolders_2_s (hM : zs_M p c cAD_takeHolders 3 s m meth args "ThriftyStores$Addresses" none g)   {K : zs_T → Prop}  {B2 : Int32 → Int32 → zs_T → Prop}  (hB2 : ∀ (l1 : Int32) (l2 : Int32) (st : zs_T), B2 l1 l2 st → zs_Go p l e (zs_rm 1 22) s m args below meth c g A (MQ below (zs_Qv g zs_ly zs_N A K) args s 0 0 A) 3 2 [(0, .ref (g.2.1 12)), (1, .int l1), (2, .int l2)] [] st) (l1 : Int32) (l2 : Int32) (st : zs_T) (h : zf_AD_takeHolders_2_s K B2 l1 l2 st) : zs_Go p l e (zs_rm 1 22) s m args below meth c g A (MQ below (zs_Qv g zs_ly zs_N A K) args s 0 0 A) 3 2 [(0, .ref (g.2.1 12)), (1, .int l1), (2, .int l2)] [] st := by
  obtain ⟨hx, hb, hml, hr, hlk, hts, hown, hK⟩ := id hM
  intro ls H locs hl hP hS
  unfold zf_AD_takeHolders_2_s at h
  refine lv_iload_n hx hb dAD_takeHolders_2 rfl (lv_at hl 2 rfl) ?_
  refine lv_bipush (v := 16) hx hb dAD_takeHolders_3 (by decide) ?_
  refine lv_icmp_ge (tgt := 40) hx hb dAD_takeHolders_5 rfl (fun hc => ?_) (fun hc => ?_)
  · have h := h.1 hc
    clear hc
    exact zr_vret hx hb hr hlk hP hS h dAD_takeHolders_40
  · have h := h.2 hc
    clear hc
    refine lv_aload_n hx hb dAD_takeHolders_8 rfl (lv_at hl 0 rfl) ?_
    refine zr_getr (b := 13) hx hb hts zi_AD hown hK.1 hP zl_12.1 zl_12.2 rfl 0 (by decide) rfl (hts _ zq_78) dAD_takeHolders_9 ?_
    refine lv_iload_n hx hb dAD_takeHolders_12 rfl (lv_at hl 2 rfl) ?_
    refine lv_iload_n hx hb dAD_takeHolders_13 rfl (lv_at hl 1 rfl) ?_
    refine zr_calli (va_runS (As := [.ref (g.2.1 13), .int l2, .int l1]) (rest := []) ⟨hx, hb, hml, hown, hts⟩ (zc_AD_has l g A zl_13 h) (va_cwS 3 hts (zs_gS zq_405 zq_406 zq_3 zq_407) rfl rfl rfl ⟨by decide, by decide, by decide +kernel⟩ ⟨Nat.le_of_ble_eq_true rfl, Nat.le_of_ble_eq_true rfl⟩) (zs_preS zs_nwk hK hP) rfl rfl hl.1 rfl (lv_room (Nat.le_of_ble_eq_true rfl)) dAD_takeHolders_14 ⟨Nat.le_refl _, Nat.le_refl _⟩) hS (fun r102 u101 H locs h hP hS => ?_)
    refine lv_if_eq (tgt := 34) hx hb dAD_takeHolders_17 rfl (fun hc => ?_) (fun hc => ?_)
    · have h := h.1 hc
      clear hc
      exact zw_AD_takeHolders_34 hM hB2 l1 l2 u101 h ls H locs (lv_sub hl [0, 1, 2] rfl) hP hS
    · have h := h.2 hc
      clear hc
      refine lv_aload_n hx hb dAD_takeHolders_20 rfl (lv_at hl 0 rfl) ?_
      refine lv_dup hx hb dAD_takeHolders_21 rfl ?_
      refine zr_geti hx hb hts zi_AD hown hK.1 hP zl_12.1 zl_12.2 rfl 5 (by decide) rfl (hts _ zq_85) dAD_takeHolders_22 ?_
      refine lv_iconst (v := 1) hx hb dAD_takeHolders_25 (by decide) ?_
      refine lv_iload_n hx hb dAD_takeHolders_26 rfl (lv_at hl 2 rfl) ?_
      refine lv_ishl hx hb dAD_takeHolders_27 ?_
      refine lv_iconst (v := (-1)) hx hb dAD_takeHolders_28 (by decide) ?_
      refine lv_ixor hx hb dAD_takeHolders_29 ?_
      refine lv_iand hx hb dAD_takeHolders_30 ?_
      refine zr_put hx hb hts zi_AD tyAD tyAD_ok nmAD hown hK.1 hP hS zl_12.1 zl_12.2 rfl 5 (by decide) rfl (hts _ zq_85) rfl rfl rfl dAD_takeHolders_31 (fun H locs hP hS => ?_)
      obtain ⟨t103, e9⟩ : ∃ t9 : zs_T, t9 = zs_i u101 12 5 ((u101.1 12 5) &&& (((1 : Int32) <<< (l2 &&& 31)) ^^^ (-1))) := ⟨_, rfl⟩
      have h := h t103 e9
      have hP : zs_P g zs_ly zs_N A t103 H := by rw [e9]; exact hP
      clear e9
      exact zw_AD_takeHolders_34 hM hB2 l1 l2 t103 h ls H locs (lv_sub hl [0, 1, 2] rfl) hP hS
theorem zw_AD_takeHolders_2 (hM : zs_M p c cAD_takeHolders 3 s m meth args "ThriftyStores$Addresses" none g)   {K : zs_T → Prop}   : ∀ (n : Nat) (l1 : Int32) (l2 : Int32) (st : zs_T), zf_AD_takeHolders_2 K n l1 l2 st → zs_Go p l e (zs_rm 1 22) s m args below meth c g A (MQ below (zs_Qv g zs_ly zs_N A K) args s 0 0 A) 3 2 [(0, .ref (g.2.1 12)), (1, .int l1), (2, .int l2)] [] st := by
  intro n
  induction n with
  | zero => intro l1 l2 st h; exact False.elim h
  | succ n ih => intro l1 l2 st h; exact zw_AD_takeHolders_2_s hM  ih l1 l2 st h
set_option maxHeartbeats 4000000 in
set_option maxRecDepth 100000 in
theorem zc_AD_takeHolders (l : Launch) (g : zs_G) (A : Nat → Prop) {l1 : Int32}  {st : zs_T} {K : zs_T → Prop} (h : zf_AD_takeHolders l1 st K) : Met l yAD_takeHolders (.code yAD_takeHolders cAD_takeHolders 3 none :: zs_tb) (zs_rm 1 22) (zs_Pc zs_nl g zs_ly zs_N A [.ref (g.2.1 12), .int l1] st) (zs_Qv g zs_ly zs_N A K) 0 0 A := by
  refine zs_met (cc := cAD_takeHolders) (maxL := 3) (ret := none) (by decide) (Nat.le_of_ble_eq_true rfl) (fun p e s m below meth c hM => ?_)
  have hM : zs_M p c cAD_takeHolders 3 s m meth [.ref (g.2.1 12), .int l1].toArray "ThriftyStores$Addresses" none g := hM
  obtain ⟨hx, hb, hml, hr, hlk, hts, hown, hK⟩ := id hM
  intro ls H locs hl hP hS
  have hl : lv_has ls 3 [(0, .ref (g.2.1 12)), (1, .int l1)] := hl
  unfold zf_AD_takeHolders at h
  refine lv_iconst (v := 0) hx hb dAD_takeHolders_0 (by decide) ?_
  refine lv_istore_n hx hb dAD_takeHolders_1 rfl hl (by decide) rfl (fun ls hl => ?_)
  have hl : lv_has ls 3 [(2, .int 0), (0, .ref (g.2.1 12)), (1, .int l1)] := hl
  obtain ⟨n, h⟩ := h
  exact zw_AD_takeHolders_2 hM  n l1 0 st h ls H locs (lv_sub hl [1, 2, 0] rfl) hP hS
set_option maxHeartbeats 4000000 in
set_option maxRecDepth 100000 in
theorem zw_AD_findUnkept_41 (hM : zs_M p c cAD_findUnkept 3 s m meth args "ThriftyStores$Addresses" none g) {d1 : Nat} (hd1 : zs_Pr d1) {K : zs_T → Prop} {B8 : Int32 → zs_T → Prop} (hB8 : ∀ (l2 : Int32) (st : zs_T), B8 l2 st → zs_Go p l e (zs_rm 2 44) s m args below meth c g A (MQ below (zs_Qv g zs_ly zs_N A K) args s 0 0 A) 3 8 [(0, .ref (g.2.1 12)), (1, .ref (g.2.1 d1)), (2, .int l2)] [] st) (l2 : Int32) (st : zs_T) (h : zf_AD_findUnkept_41 d1 K B8 l2 st) : zs_Go p l e (zs_rm 2 44) s m args below meth c g A (MQ below (zs_Qv g zs_ly zs_N A K) args s 0 0 A) 3 41 [(0, .ref (g.2.1 12)), (1, .ref (g.2.1 d1)), (2, .int l2)] [] st := by
  obtain ⟨hx, hb, hml, hr, hlk, hts, hown, hK⟩ := id hM
  intro ls H locs hl hP hS
  unfold zf_AD_findUnkept_41 at h
  refine lv_iinc (k := 2) (v := l2 + 1) hx hb dAD_findUnkept_41 hl rfl (by rw [show Int32.ofInt (1) = 1 from by decide]) (by decide) rfl (fun ls hl => ?_)
  have hl : lv_has ls 3 [(2, .int (l2 + 1)), (0, .ref (g.2.1 12)), (1, .ref (g.2.1 d1))] := hl
  refine lv_goto (tgt := 8) hx hb dAD_findUnkept_44 rfl ?_
  exact hB8 (l2 + 1) st h ls H locs (lv_sub hl [1, 2, 0] rfl) hP hS
set_option maxHeartbeats 4000000 in
set_option maxRecDepth 100000 in
theorem zw_AD_findUnkept_8_s (hM : zs_M p c cAD_findUnkept 3 s m meth args "ThriftyStores$Addresses" none g) {d1 : Nat} (hd1 : zs_Pr d1) {K : zs_T → Prop}  {B8 : Int32 → zs_T → Prop}  (hB8 : ∀ (l2 : Int32) (st : zs_T), B8 l2 st → zs_Go p l e (zs_rm 2 44) s m args below meth c g A (MQ below (zs_Qv g zs_ly zs_N A K) args s 0 0 A) 3 8 [(0, .ref (g.2.1 12)), (1, .ref (g.2.1 d1)), (2, .int l2)] [] st) (l2 : Int32) (st : zs_T) (h : zf_AD_findUnkept_8_s d1 K B8 l2 st) : zs_Go p l e (zs_rm 2 44) s m args below meth c g A (MQ below (zs_Qv g zs_ly zs_N A K) args s 0 0 A) 3 8 [(0, .ref (g.2.1 12)), (1, .ref (g.2.1 d1)), (2, .int l2)] [] st := by
  obtain ⟨hx, hb, hml, hr, hlk, hts, hown, hK⟩ := id hM
  intro ls H locs hl hP hS
  unfold zf_AD_findUnkept_8_s at h
  refine lv_iload_n hx hb dAD_findUnkept_8 rfl (lv_at hl 2 rfl) ?_
  refine lv_aload_n hx hb dAD_findUnkept_9 rfl (lv_at hl 0 rfl) ?_
  refine zr_geti hx hb hts zi_AD hown hK.1 hP zl_12.1 zl_12.2 rfl 3 (by decide) rfl (hts _ zq_81) dAD_findUnkept_10 ?_
  refine lv_icmp_ge (tgt := 47) hx hb dAD_findUnkept_13 rfl (fun hc => ?_) (fun hc => ?_)
  · have h := h.1 hc
    clear hc
    exact zr_vret hx hb hr hlk hP hS h dAD_findUnkept_47
  · have h := h.2 hc
    clear hc
    refine lv_aload_n hx hb dAD_findUnkept_16 rfl (lv_at hl 1 rfl) ?_
    refine zr_getr (b := d1 + 4) hx hb hts zi_PR hown hK.1 hP hd1.1.1 hd1.1.2 rfl 3 (by decide) rfl (hts _ zq_53) dAD_findUnkept_17 ?_
    refine lv_aload_n hx hb dAD_findUnkept_20 rfl (lv_at hl 0 rfl) ?_
    refine zr_getr (b := 15) hx hb hts zi_AD hown hK.1 hP zl_12.1 zl_12.2 rfl 2 (by decide) rfl (hts _ zq_80) dAD_findUnkept_21 ?_
    refine lv_iload_n hx hb dAD_findUnkept_24 rfl (lv_at hl 2 rfl) ?_
    obtain ⟨hi101, h⟩ := h
    refine zr_iald hx hb hK.1 hP zl_15.1 zl_15.2 hi101 dAD_findUnkept_25 ?_
    obtain ⟨hi102, h⟩ := h
    refine zr_iald hx hb hK.1 hP hd1.2.2.2.2.1 hd1.2.2.2.2.2 hi102 dAD_findUnkept_26 ?_
    refine lv_iconst (v := 1) hx hb dAD_findUnkept_27 (by decide) ?_
    refine lv_icmp_ne (tgt := 41) hx hb dAD_findUnkept_28 rfl (fun hc => ?_) (fun hc => ?_)
    · have h := h.1 hc
      clear hc
      exact zw_AD_findUnkept_41 hM hd1 hB8 l2 st h ls H locs (lv_sub hl [0, 1, 2] rfl) hP hS
    · have h := h.2 hc
      clear hc
      refine lv_aload_n hx hb dAD_findUnkept_31 rfl (lv_at hl 0 rfl) ?_
      refine lv_aload_n hx hb dAD_findUnkept_32 rfl (lv_at hl 0 rfl) ?_
      refine zr_getr (b := 15) hx hb hts zi_AD hown hK.1 hP zl_12.1 zl_12.2 rfl 2 (by decide) rfl (hts _ zq_80) dAD_findUnkept_33 ?_
      refine lv_iload_n hx hb dAD_findUnkept_36 rfl (lv_at hl 2 rfl) ?_
      obtain ⟨hi103, h⟩ := h
      refine zr_iald hx hb hK.1 hP zl_15.1 zl_15.2 hi103 dAD_findUnkept_37 ?_
      refine zr_callv (va_runV (As := [.int (st.1 15 l2.toNatClampNeg)]) (rest := []) ⟨hx, hb, hml, hown, hts⟩ (zc_AD_takeHolders l g A  h) (cwV 1 hts (zs_gV zq_432 zq_434 zp_11 zq_3 zq_435) rfl rfl rfl ⟨rfl, by decide, by decide, by decide +kernel⟩ ⟨Nat.le_of_ble_eq_true rfl, Nat.le_of_ble_eq_true rfl⟩) (zs_preV zs_nwk hK hP zl_12.1 zl_12.2 rfl) rfl rfl hl.1 rfl (lv_room (Nat.le_of_ble_eq_true rfl)) dAD_findUnkept_38 ⟨Nat.le_refl _, Nat.le_refl _⟩) hS (fun u104 H locs h hP hS => ?_)
      exact zw_AD_findUnkept_41 hM hd1 hB8 l2 u104 h ls H locs (lv_sub hl [0, 1, 2] rfl) hP hS
theorem zw_AD_findUnkept_8 (hM : zs_M p c cAD_findUnkept 3 s m meth args "ThriftyStores$Addresses" none g) {d1 : Nat} (hd1 : zs_Pr d1) {K : zs_T → Prop}   : ∀ (n : Nat) (l2 : Int32) (st : zs_T), zf_AD_findUnkept_8 d1 K n l2 st → zs_Go p l e (zs_rm 2 44) s m args below meth c g A (MQ below (zs_Qv g zs_ly zs_N A K) args s 0 0 A) 3 8 [(0, .ref (g.2.1 12)), (1, .ref (g.2.1 d1)), (2, .int l2)] [] st := by
  intro n
  induction n with
  | zero => intro l2 st h; exact False.elim h
  | succ n ih => intro l2 st h; exact zw_AD_findUnkept_8_s hM hd1 ih l2 st h
set_option maxHeartbeats 4000000 in
set_option maxRecDepth 100000 in
theorem zc_AD_findUnkept (l : Launch) (g : zs_G) (A : Nat → Prop) {d1 : Nat} (hd1 : zs_Pr d1) {st : zs_T} {K : zs_T → Prop} (h : zf_AD_findUnkept d1 st K) : Met l yAD_findUnkept (.code yAD_findUnkept cAD_findUnkept 3 none :: zs_tb) (zs_rm 2 44) (zs_Pc zs_nl g zs_ly zs_N A [.ref (g.2.1 12), .ref (g.2.1 d1)] st) (zs_Qv g zs_ly zs_N A K) 0 0 A := by
  refine zs_met (cc := cAD_findUnkept) (maxL := 3) (ret := none) (by decide) (Nat.le_of_ble_eq_true rfl) (fun p e s m below meth c hM => ?_)
  have hM : zs_M p c cAD_findUnkept 3 s m meth [.ref (g.2.1 12), .ref (g.2.1 d1)].toArray "ThriftyStores$Addresses" none g := hM
  obtain ⟨hx, hb, hml, hr, hlk, hts, hown, hK⟩ := id hM
  intro ls H locs hl hP hS
  have hl : lv_has ls 3 [(0, .ref (g.2.1 12)), (1, .ref (g.2.1 d1))] := hl
  unfold zf_AD_findUnkept at h
  refine lv_aload_n hx hb dAD_findUnkept_0 rfl (lv_at hl 0 rfl) ?_
  refine lv_ldc hx hb hown (hts _ zq_431) dAD_findUnkept_1 ?_
  refine zr_put hx hb hts zi_AD tyAD tyAD_ok nmAD hown hK.1 hP hS zl_12.1 zl_12.2 rfl 5 (by decide) rfl (hts _ zq_85) rfl rfl rfl dAD_findUnkept_3 (fun H locs hP hS => ?_)
  obtain ⟨t1, e9⟩ : ∃ t9 : zs_T, t9 = zs_i st 12 5 65535 := ⟨_, rfl⟩
  have h := h t1 e9
  have hP : zs_P g zs_ly zs_N A t1 H := by rw [e9]; exact hP
  clear e9
  refine lv_iconst (v := 0) hx hb dAD_findUnkept_6 (by decide) ?_
  refine lv_istore_n hx hb dAD_findUnkept_7 rfl hl (by decide) rfl (fun ls hl => ?_)
  have hl : lv_has ls 3 [(2, .int 0), (0, .ref (g.2.1 12)), (1, .ref (g.2.1 d1))] := hl
  obtain ⟨n, h⟩ := h
  exact zw_AD_findUnkept_8 hM hd1 n 0 t1 h ls H locs (lv_sub hl [1, 2, 0] rfl) hP hS
set_option maxHeartbeats 4000000 in
set_option maxRecDepth 100000 in
theorem zw_AD_find_61 (hM : zs_M p c cAD_find 5 s m meth args "ThriftyStores$Addresses" none g) {d1 : Nat} (hd1 : zs_Pr d1) {K : zs_T → Prop} {B25 : Int32 → Int32 → zs_T → Prop} {B40 : Int32 → Int32 → Int32 → zs_T → Prop} (hB25 : ∀ (l2 : Int32) (l3 : Int32) (st : zs_T), B25 l2 l3 st → zs_Go p l e (zs_rm 3 77) s m args below meth c g A (MQ below (zs_Qv g zs_ly zs_N A K) args s 0 0 A) 5 25 [(0, .ref (g.2.1 12)), (1, .ref (g.2.1 d1)), (2, .int l2), (3, .int l3)] [] st) (hB40 : ∀ (l2 : Int32) (l3 : Int32) (l4 : Int32) (st : zs_T), B40 l2 l3 l4 st → zs_Go p l e (zs_rm 3 77) s m args below meth c g A (MQ below (zs_Qv g zs_ly zs_N A K) args s 0 0 A) 5 40 [(0, .ref (g.2.1 12)), (1, .ref (g.2.1 d1)), (2, .int l2), (3, .int l3), (4, .int l4)] [] st) (l2 : Int32) (l3 : Int32) (l4 : Int32) (st : zs_T) (h : zf_AD_find_61 d1 K B25 B40 l2 l3 l4 st) : zs_Go p l e (zs_rm 3 77) s m args below meth c g A (MQ below (zs_Qv g zs_ly zs_N A K) args s 0 0 A) 5 61 [(0, .ref (g.2.1 12)), (1, .ref (g.2.1 d1)), (2, .int l2), (3, .int l3), (4, .int l4)] [] st := by
  obtain ⟨hx, hb, hml, hr, hlk, hts, hown, hK⟩ := id hM
  intro ls H locs hl hP hS
  unfold zf_AD_find_61 at h
  refine lv_iinc (k := 4) (v := l4 + 1) hx hb dAD_find_61 hl rfl (by rw [show Int32.ofInt (1) = 1 from by decide]) (by decide) rfl (fun ls hl => ?_)
  have hl : lv_has ls 5 [(4, .int (l4 + 1)), (0, .ref (g.2.1 12)), (1, .ref (g.2.1 d1)), (2, .int l2), (3, .int l3)] := hl
  refine lv_goto (tgt := 40) hx hb dAD_find_64 rfl ?_
  exact hB40 l2 l3 (l4 + 1) st h ls H locs (lv_sub hl [1, 2, 3, 4, 0] rfl) hP hS
set_option maxHeartbeats 4000000 in
set_option maxRecDepth 100000 in
theorem zw_AD_find_40_s (hM : zs_M p c cAD_find 5 s m meth args "ThriftyStores$Addresses" none g) {d1 : Nat} (hd1 : zs_Pr d1) {K : zs_T → Prop} {B25 : Int32 → Int32 → zs_T → Prop} {B40 : Int32 → Int32 → Int32 → zs_T → Prop} (hB25 : ∀ (l2 : Int32) (l3 : Int32) (st : zs_T), B25 l2 l3 st → zs_Go p l e (zs_rm 3 77) s m args below meth c g A (MQ below (zs_Qv g zs_ly zs_N A K) args s 0 0 A) 5 25 [(0, .ref (g.2.1 12)), (1, .ref (g.2.1 d1)), (2, .int l2), (3, .int l3)] [] st) (hB40 : ∀ (l2 : Int32) (l3 : Int32) (l4 : Int32) (st : zs_T), B40 l2 l3 l4 st → zs_Go p l e (zs_rm 3 77) s m args below meth c g A (MQ below (zs_Qv g zs_ly zs_N A K) args s 0 0 A) 5 40 [(0, .ref (g.2.1 12)), (1, .ref (g.2.1 d1)), (2, .int l2), (3, .int l3), (4, .int l4)] [] st) (l2 : Int32) (l3 : Int32) (l4 : Int32) (st : zs_T) (h : zf_AD_find_40_s d1 K B25 B40 l2 l3 l4 st) : zs_Go p l e (zs_rm 3 77) s m args below meth c g A (MQ below (zs_Qv g zs_ly zs_N A K) args s 0 0 A) 5 40 [(0, .ref (g.2.1 12)), (1, .ref (g.2.1 d1)), (2, .int l2), (3, .int l3), (4, .int l4)] [] st := by
  obtain ⟨hx, hb, hml, hr, hlk, hts, hown, hK⟩ := id hM
  intro ls H locs hl hP hS
  unfold zf_AD_find_40_s at h
  refine lv_iload hx hb dAD_find_40 (lv_at hl 4 rfl) ?_
  refine lv_aload_n hx hb dAD_find_42 rfl (lv_at hl 1 rfl) ?_
  refine zr_geti hx hb hts zi_PR hown hK.1 hP hd1.1.1 hd1.1.2 rfl 4 (by decide) rfl (hts _ zq_58) dAD_find_43 ?_
  refine lv_icmp_ge (tgt := 67) hx hb dAD_find_46 rfl (fun hc => ?_) (fun hc => ?_)
  · have h := h.1 hc
    clear hc
    refine lv_iinc (k := 3) (v := l3 + 1) hx hb dAD_find_67 hl rfl (by rw [show Int32.ofInt (1) = 1 from by decide]) (by decide) rfl (fun ls hl => ?_)
    have hl : lv_has ls 5 [(3, .int (l3 + 1)), (0, .ref (g.2.1 12)), (1, .ref (g.2.1 d1)), (2, .int l2), (4, .int l4)] := hl
    refine lv_goto (tgt := 25) hx hb dAD_find_70 rfl ?_
    exact hB25 l2 (l3 + 1) st h ls H locs (lv_sub hl [1, 2, 3, 0] rfl) hP hS
  · have h := h.2 hc
    clear hc
    refine lv_aload_n hx hb dAD_find_49 rfl (lv_at hl 0 rfl) ?_
    refine lv_aload_n hx hb dAD_find_50 rfl (lv_at hl 1 rfl) ?_
    refine lv_iload hx hb dAD_find_51 (lv_at hl 4 rfl) ?_
    refine zr_calli (va_runV (As := [.ref (g.2.1 d1), .int l4]) (rest := []) ⟨hx, hb, hml, hown, hts⟩ (zc_AD_follow l g A hd1 h) (cwV 2 hts (zs_gV zq_397 zq_399 zp_4 zq_3 zq_400) rfl rfl rfl ⟨rfl, by decide, by decide, by decide +kernel⟩ ⟨Nat.le_of_ble_eq_true rfl, Nat.le_of_ble_eq_true rfl⟩) (zs_preV zs_nwk hK hP zl_12.1 zl_12.2 rfl) rfl rfl hl.1 rfl (lv_room (Nat.le_of_ble_eq_true rfl)) dAD_find_53 ⟨Nat.le_refl _, Nat.le_refl _⟩) hS (fun r302 u301 H locs h hP hS => ?_)
    refine lv_if_eq (tgt := 61) hx hb dAD_find_56 rfl (fun hc => ?_) (fun hc => ?_)
    · have h := h.1 hc
      clear hc
      exact zw_AD_find_61 hM hd1 hB25 hB40 l2 l3 l4 u301 h ls H locs (lv_sub hl [0, 1, 2, 3, 4] rfl) hP hS
    · have h := h.2 hc
      clear hc
      refine lv_iconst (v := 1) hx hb dAD_find_59 (by decide) ?_
      refine lv_istore_n hx hb dAD_find_60 rfl hl (by decide) rfl (fun ls hl => ?_)
      have hl : lv_has ls 5 [(2, .int 1), (0, .ref (g.2.1 12)), (1, .ref (g.2.1 d1)), (3, .int l3), (4, .int l4)] := hl
      exact zw_AD_find_61 hM hd1 hB25 hB40 1 l3 l4 u301 h ls H locs (lv_sub hl [1, 2, 0, 3, 4] rfl) hP hS
theorem zw_AD_find_40 (hM : zs_M p c cAD_find 5 s m meth args "ThriftyStores$Addresses" none g) {d1 : Nat} (hd1 : zs_Pr d1) {K : zs_T → Prop} {B25 : Int32 → Int32 → zs_T → Prop} (hB25 : ∀ (l2 : Int32) (l3 : Int32) (st : zs_T), B25 l2 l3 st → zs_Go p l e (zs_rm 3 77) s m args below meth c g A (MQ below (zs_Qv g zs_ly zs_N A K) args s 0 0 A) 5 25 [(0, .ref (g.2.1 12)), (1, .ref (g.2.1 d1)), (2, .int l2), (3, .int l3)] [] st) : ∀ (n : Nat) (l2 : Int32) (l3 : Int32) (l4 : Int32) (st : zs_T), zf_AD_find_40 d1 K B25 n l2 l3 l4 st → zs_Go p l e (zs_rm 3 77) s m args below meth c g A (MQ below (zs_Qv g zs_ly zs_N A K) args s 0 0 A) 5 40 [(0, .ref (g.2.1 12)), (1, .ref (g.2.1 d1)), (2, .int l2), (3, .int l3), (4, .int l4)] [] st := by
  intro n
  induction n with
  | zero => intro l2 l3 l4 st h; exact False.elim h
  | succ n ih => intro l2 l3 l4 st h; exact zw_AD_find_40_s hM hd1 hB25 ih l2 l3 l4 st h
set_option maxHeartbeats 4000000 in
set_option maxRecDepth 100000 in
theorem zw_AD_find_73 (hM : zs_M p c cAD_find 5 s m meth args "ThriftyStores$Addresses" none g) {d1 : Nat} (hd1 : zs_Pr d1) {K : zs_T → Prop}    (st : zs_T) (h : zf_AD_find_73 d1 K  st) : zs_Go p l e (zs_rm 3 77) s m args below meth c g A (MQ below (zs_Qv g zs_ly zs_N A K) args s 0 0 A) 5 73 [(0, .ref (g.2.1 12)), (1, .ref (g.2.1 d1))] [] st := by
  obtain ⟨hx, hb, hml, hr, hlk, hts, hown, hK⟩ := id hM
  intro ls H locs hl hP hS
  unfold zf_AD_find_73 at h
  refine lv_aload_n hx hb dAD_find_73 rfl (lv_at hl 0 rfl) ?_
  refine zr_callv (va_runV (As := []) (rest := []) ⟨hx, hb, hml, hown, hts⟩ (zc_AD_findMeeting l g A  h) (cwV 0 hts (zs_gV zq_419 zq_421 zp_8 zq_3 zq_422) rfl rfl rfl ⟨rfl, by decide, by decide, by decide +kernel⟩ ⟨Nat.le_of_ble_eq_true rfl, Nat.le_of_ble_eq_true rfl⟩) (zs_preV zs_nwk hK hP zl_12.1 zl_12.2 rfl) rfl rfl hl.1 rfl (lv_room (Nat.le_of_ble_eq_true rfl)) dAD_find_74 ⟨Nat.le_refl _, Nat.le_refl _⟩) hS (fun u201 H locs h hP hS => ?_)
  refine lv_aload_n hx hb dAD_find_77 rfl (lv_at hl 0 rfl) ?_
  refine lv_aload_n hx hb dAD_find_78 rfl (lv_at hl 1 rfl) ?_
  refine zr_callv (va_runV (As := [.ref (g.2.1 d1)]) (rest := []) ⟨hx, hb, hml, hown, hts⟩ (zc_AD_findUnkept l g A hd1 h) (cwV 1 hts (zs_gV zq_427 zq_429 zp_10 zq_3 zq_430) rfl rfl rfl ⟨rfl, by decide, by decide, by decide +kernel⟩ ⟨Nat.le_of_ble_eq_true rfl, Nat.le_of_ble_eq_true rfl⟩) (zs_preV zs_nwk hK hP zl_12.1 zl_12.2 rfl) rfl rfl hl.1 rfl (lv_room (Nat.le_of_ble_eq_true rfl)) dAD_find_79 ⟨Nat.le_refl _, Nat.le_refl _⟩) hS (fun u202 H locs h hP hS => ?_)
  exact zr_vret hx hb hr hlk hP hS h dAD_find_82
set_option maxHeartbeats 4000000 in
set_option maxRecDepth 100000 in
theorem zw_AD_find_25_s (hM : zs_M p c cAD_find 5 s m meth args "ThriftyStores$Addresses" none g) {d1 : Nat} (hd1 : zs_Pr d1) {K : zs_T → Prop}  {B25 : Int32 → Int32 → zs_T → Prop}  (hB25 : ∀ (l2 : Int32) (l3 : Int32) (st : zs_T), B25 l2 l3 st → zs_Go p l e (zs_rm 3 77) s m args below meth c g A (MQ below (zs_Qv g zs_ly zs_N A K) args s 0 0 A) 5 25 [(0, .ref (g.2.1 12)), (1, .ref (g.2.1 d1)), (2, .int l2), (3, .int l3)] [] st) (l2 : Int32) (l3 : Int32) (st : zs_T) (h : zf_AD_find_25_s d1 K B25 l2 l3 st) : zs_Go p l e (zs_rm 3 77) s m args below meth c g A (MQ below (zs_Qv g zs_ly zs_N A K) args s 0 0 A) 5 25 [(0, .ref (g.2.1 12)), (1, .ref (g.2.1 d1)), (2, .int l2), (3, .int l3)] [] st := by
  obtain ⟨hx, hb, hml, hr, hlk, hts, hown, hK⟩ := id hM
  intro ls H locs hl hP hS
  unfold zf_AD_find_25_s at h
  refine lv_iload_n hx hb dAD_find_25 rfl (lv_at hl 2 rfl) ?_
  refine lv_if_eq (tgt := 73) hx hb dAD_find_26 rfl (fun hc => ?_) (fun hc => ?_)
  · have h := h.1 hc
    clear hc
    exact zw_AD_find_73 hM hd1 st h ls H locs (lv_sub hl [0, 1] rfl) hP hS
  · have h := h.2 hc
    clear hc
    refine lv_iload_n hx hb dAD_find_29 rfl (lv_at hl 3 rfl) ?_
    refine lv_ldc hx hb hown (hts _ zq_396) dAD_find_30 ?_
    refine lv_icmp_ge (tgt := 73) hx hb dAD_find_32 rfl (fun hc => ?_) (fun hc => ?_)
    · have h := h.1 hc
      clear hc
      exact zw_AD_find_73 hM hd1 st h ls H locs (lv_sub hl [0, 1] rfl) hP hS
    · have h := h.2 hc
      clear hc
      refine lv_iconst (v := 0) hx hb dAD_find_35 (by decide) ?_
      refine lv_istore_n hx hb dAD_find_36 rfl hl (by decide) rfl (fun ls hl => ?_)
      have hl : lv_has ls 5 [(2, .int 0), (0, .ref (g.2.1 12)), (1, .ref (g.2.1 d1)), (3, .int l3)] := hl
      refine lv_iconst (v := 0) hx hb dAD_find_37 (by decide) ?_
      refine lv_istore hx hb dAD_find_38 hl (by decide) rfl (fun ls hl => ?_)
      have hl : lv_has ls 5 [(4, .int 0), (2, .int 0), (0, .ref (g.2.1 12)), (1, .ref (g.2.1 d1)), (3, .int l3)] := hl
      obtain ⟨n, h⟩ := h
      exact zw_AD_find_40 hM hd1 hB25 n 0 l3 0 st h ls H locs (lv_sub hl [2, 3, 1, 4, 0] rfl) hP hS
theorem zw_AD_find_25 (hM : zs_M p c cAD_find 5 s m meth args "ThriftyStores$Addresses" none g) {d1 : Nat} (hd1 : zs_Pr d1) {K : zs_T → Prop}   : ∀ (n : Nat) (l2 : Int32) (l3 : Int32) (st : zs_T), zf_AD_find_25 d1 K n l2 l3 st → zs_Go p l e (zs_rm 3 77) s m args below meth c g A (MQ below (zs_Qv g zs_ly zs_N A K) args s 0 0 A) 5 25 [(0, .ref (g.2.1 12)), (1, .ref (g.2.1 d1)), (2, .int l2), (3, .int l3)] [] st := by
  intro n
  induction n with
  | zero => intro l2 l3 st h; exact False.elim h
  | succ n ih => intro l2 l3 st h; exact zw_AD_find_25_s hM hd1 ih l2 l3 st h
set_option maxHeartbeats 4000000 in
set_option maxRecDepth 100000 in
theorem zc_AD_find (l : Launch) (g : zs_G) (A : Nat → Prop) {d1 : Nat} (hd1 : zs_Pr d1) {st : zs_T} {K : zs_T → Prop} (h : zf_AD_find d1 st K) : Met l yAD_find (.code yAD_find cAD_find 5 none :: zs_tb) (zs_rm 3 77) (zs_Pc zs_nl g zs_ly zs_N A [.ref (g.2.1 12), .ref (g.2.1 d1)] st) (zs_Qv g zs_ly zs_N A K) 0 0 A := by
  refine zs_met (cc := cAD_find) (maxL := 5) (ret := none) (by decide) (Nat.le_of_ble_eq_true rfl) (fun p e s m below meth c hM => ?_)
  have hM : zs_M p c cAD_find 5 s m meth [.ref (g.2.1 12), .ref (g.2.1 d1)].toArray "ThriftyStores$Addresses" none g := hM
  obtain ⟨hx, hb, hml, hr, hlk, hts, hown, hK⟩ := id hM
  intro ls H locs hl hP hS
  have hl : lv_has ls 5 [(0, .ref (g.2.1 12)), (1, .ref (g.2.1 d1))] := hl
  unfold zf_AD_find at h
  refine lv_aload_n hx hb dAD_find_0 rfl (lv_at hl 0 rfl) ?_
  refine zr_getr (b := 13) hx hb hts zi_AD hown hK.1 hP zl_12.1 zl_12.2 rfl 0 (by decide) rfl (hts _ zq_78) dAD_find_1 ?_
  refine lv_lconst (v := 0) hx hb dAD_find_4 (by decide) ?_
  refine zr_callv (va_runS (As := [.ref (g.2.1 13), .long 0]) (rest := []) ⟨hx, hb, hml, hown, hts⟩ (zc_AR_fill_AJJV l g A zl_13 h) (va_cwS 2 hts (zs_gS zq_389 zq_390 zq_15 zq_391) rfl rfl rfl ⟨by decide, by decide, by decide +kernel⟩ ⟨Nat.le_of_ble_eq_true rfl, Nat.le_of_ble_eq_true rfl⟩) (zs_preS zs_nwk hK hP) rfl rfl hl.1 rfl (lv_room (Nat.le_of_ble_eq_true rfl)) dAD_find_5 ⟨Nat.le_refl _, Nat.le_refl _⟩) hS (fun u1 H locs h hP hS => ?_)
  refine lv_aload_n hx hb dAD_find_8 rfl (lv_at hl 0 rfl) ?_
  refine zr_getr (b := 14) hx hb hts zi_AD hown hK.1 hP zl_12.1 zl_12.2 rfl 1 (by decide) rfl (hts _ zq_79) dAD_find_9 ?_
  refine lv_lconst (v := 0) hx hb dAD_find_12 (by decide) ?_
  refine zr_callv (va_runS (As := [.ref (g.2.1 14), .long 0]) (rest := []) ⟨hx, hb, hml, hown, hts⟩ (zc_AR_fill_AJJV l g A zl_14 h) (va_cwS 2 hts (zs_gS zq_389 zq_390 zq_15 zq_391) rfl rfl rfl ⟨by decide, by decide, by decide +kernel⟩ ⟨Nat.le_of_ble_eq_true rfl, Nat.le_of_ble_eq_true rfl⟩) (zs_preS zs_nwk hK hP) rfl rfl hl.1 rfl (lv_room (Nat.le_of_ble_eq_true rfl)) dAD_find_13 ⟨Nat.le_refl _, Nat.le_refl _⟩) hS (fun u2 H locs h hP hS => ?_)
  refine lv_aload_n hx hb dAD_find_16 rfl (lv_at hl 0 rfl) ?_
  refine lv_aload_n hx hb dAD_find_17 rfl (lv_at hl 1 rfl) ?_
  refine zr_callv (va_runV (As := [.ref (g.2.1 d1)]) (rest := []) ⟨hx, hb, hml, hown, hts⟩ (zc_AD_listSites l g A hd1 h) (cwV 1 hts (zs_gV zq_392 zq_394 zp_3 zq_3 zq_395) rfl rfl rfl ⟨rfl, by decide, by decide, by decide +kernel⟩ ⟨Nat.le_of_ble_eq_true rfl, Nat.le_of_ble_eq_true rfl⟩) (zs_preV zs_nwk hK hP zl_12.1 zl_12.2 rfl) rfl rfl hl.1 rfl (lv_room (Nat.le_of_ble_eq_true rfl)) dAD_find_18 ⟨Nat.le_refl _, Nat.le_refl _⟩) hS (fun u3 H locs h hP hS => ?_)
  refine lv_iconst (v := 1) hx hb dAD_find_21 (by decide) ?_
  refine lv_istore_n hx hb dAD_find_22 rfl hl (by decide) rfl (fun ls hl => ?_)
  have hl : lv_has ls 5 [(2, .int 1), (0, .ref (g.2.1 12)), (1, .ref (g.2.1 d1))] := hl
  refine lv_iconst (v := 0) hx hb dAD_find_23 (by decide) ?_
  refine lv_istore_n hx hb dAD_find_24 rfl hl (by decide) rfl (fun ls hl => ?_)
  have hl : lv_has ls 5 [(3, .int 0), (2, .int 1), (0, .ref (g.2.1 12)), (1, .ref (g.2.1 d1))] := hl
  obtain ⟨n, h⟩ := h
  exact zw_AD_find_25 hM hd1 n 1 0 u3 h ls H locs (lv_sub hl [2, 3, 1, 0] rfl) hP hS
set_option maxHeartbeats 4000000 in
set_option maxRecDepth 100000 in
theorem zc_AD_mayBe (l : Launch) (g : zs_G) (A : Nat → Prop) {l1 : Int32} {l2 : Int32}  {st : zs_T} {K : Int32 → zs_T → Prop} (h : zf_AD_mayBe l1 l2 st K) : Met l yAD_mayBe (.code yAD_mayBe cAD_mayBe 3 (some .boolean) :: zs_tb) (zs_rm 1 22) (zs_Pc zs_nl g zs_ly zs_N A [.ref (g.2.1 12), .int l1, .int l2] st) (zs_Qi g zs_ly zs_N A K) 0 0 A := by
  refine zs_met (cc := cAD_mayBe) (maxL := 3) (ret := (some .boolean)) (by decide) (Nat.le_of_ble_eq_true rfl) (fun p e s m below meth c hM => ?_)
  have hM : zs_M p c cAD_mayBe 3 s m meth [.ref (g.2.1 12), .int l1, .int l2].toArray "ThriftyStores$Addresses" (some .boolean) g := hM
  obtain ⟨hx, hb, hml, hr, hlk, hts, hown, hK⟩ := id hM
  intro ls H locs hl hP hS
  have hl : lv_has ls 3 [(0, .ref (g.2.1 12)), (1, .int l1), (2, .int l2)] := hl
  unfold zf_AD_mayBe at h
  refine lv_aload_n hx hb dAD_mayBe_0 rfl (lv_at hl 0 rfl) ?_
  refine zr_getr (b := 13) hx hb hts zi_AD hown hK.1 hP zl_12.1 zl_12.2 rfl 0 (by decide) rfl (hts _ zq_78) dAD_mayBe_1 ?_
  refine lv_iload_n hx hb dAD_mayBe_4 rfl (lv_at hl 1 rfl) ?_
  refine lv_iload_n hx hb dAD_mayBe_5 rfl (lv_at hl 2 rfl) ?_
  refine zr_calli (va_runS (As := [.ref (g.2.1 13), .int l1, .int l2]) (rest := []) ⟨hx, hb, hml, hown, hts⟩ (zc_AD_has l g A zl_13 h) (va_cwS 3 hts (zs_gS zq_405 zq_406 zq_3 zq_407) rfl rfl rfl ⟨by decide, by decide, by decide +kernel⟩ ⟨Nat.le_of_ble_eq_true rfl, Nat.le_of_ble_eq_true rfl⟩) (zs_preS zs_nwk hK hP) rfl rfl hl.1 rfl (lv_room (Nat.le_of_ble_eq_true rfl)) dAD_mayBe_6 ⟨Nat.le_refl _, Nat.le_refl _⟩) hS (fun r2 u1 H locs h hP hS => ?_)
  exact zr_zret hx hb hr hlk hP hS (zs_bn h.1) h.2 dAD_mayBe_9
set_option maxHeartbeats 4000000 in
set_option maxRecDepth 100000 in
theorem zc_AD_mayHold (l : Launch) (g : zs_G) (A : Nat → Prop) {l1 : Int32} {l2 : Int32}  {st : zs_T} {K : Int32 → zs_T → Prop} (h : zf_AD_mayHold l1 l2 st K) : Met l yAD_mayHold (.code yAD_mayHold cAD_mayHold 3 (some .boolean) :: zs_tb) (zs_rm 1 22) (zs_Pc zs_nl g zs_ly zs_N A [.ref (g.2.1 12), .int l1, .int l2] st) (zs_Qi g zs_ly zs_N A K) 0 0 A := by
  refine zs_met (cc := cAD_mayHold) (maxL := 3) (ret := (some .boolean)) (by decide) (Nat.le_of_ble_eq_true rfl) (fun p e s m below meth c hM => ?_)
  have hM : zs_M p c cAD_mayHold 3 s m meth [.ref (g.2.1 12), .int l1, .int l2].toArray "ThriftyStores$Addresses" (some .boolean) g := hM
  obtain ⟨hx, hb, hml, hr, hlk, hts, hown, hK⟩ := id hM
  intro ls H locs hl hP hS
  have hl : lv_has ls 3 [(0, .ref (g.2.1 12)), (1, .int l1), (2, .int l2)] := hl
  unfold zf_AD_mayHold at h
  refine lv_aload_n hx hb dAD_mayHold_0 rfl (lv_at hl 0 rfl) ?_
  refine zr_getr (b := 14) hx hb hts zi_AD hown hK.1 hP zl_12.1 zl_12.2 rfl 1 (by decide) rfl (hts _ zq_79) dAD_mayHold_1 ?_
  refine lv_iload_n hx hb dAD_mayHold_4 rfl (lv_at hl 1 rfl) ?_
  refine lv_iload_n hx hb dAD_mayHold_5 rfl (lv_at hl 2 rfl) ?_
  refine zr_calli (va_runS (As := [.ref (g.2.1 14), .int l1, .int l2]) (rest := []) ⟨hx, hb, hml, hown, hts⟩ (zc_AD_has l g A zl_14 h) (va_cwS 3 hts (zs_gS zq_405 zq_406 zq_3 zq_407) rfl rfl rfl ⟨by decide, by decide, by decide +kernel⟩ ⟨Nat.le_of_ble_eq_true rfl, Nat.le_of_ble_eq_true rfl⟩) (zs_preS zs_nwk hK hP) rfl rfl hl.1 rfl (lv_room (Nat.le_of_ble_eq_true rfl)) dAD_mayHold_6 ⟨Nat.le_refl _, Nat.le_refl _⟩) hS (fun r2 u1 H locs h hP hS => ?_)
  exact zr_zret hx hb hr hlk hP hS (zs_bn h.1) h.2 dAD_mayHold_9
end ZW
