section ZW
variable {p : Program} {l : Launch} {e : Env} {s : State} {m : MethodId} {args : Array Value} {below : List Frame} {meth : Method} {c : Code} {g : zs_G} {A : Nat → Prop}
set_option maxHeartbeats 4000000 in
set_option maxRecDepth 100000 in
theorem zc_MO_tie (l : Launch) (g : zs_G) (A : Nat → Prop) {l1 : Int32} {l2 : Int32}  {st : zs_T} {K : zs_T → Prop} (h : zf_MO_tie l1 l2 st K) : Met l yMO_tie (.code yMO_tie cMO_tie 3 none :: zs_tb) (zs_rm 0 0) (zs_Pc zs_nl g zs_ly zs_N A [.ref (g.2.1 635), .int l1, .int l2] st) (zs_Qv g zs_ly zs_N A K) 0 0 A := by
  refine zs_met (cc := cMO_tie) (maxL := 3) (ret := none) (by decide) (Nat.le_of_ble_eq_true rfl) (fun p e s m below meth c hM => ?_)
  have hM : zs_M p c cMO_tie 3 s m meth [.ref (g.2.1 635), .int l1, .int l2].toArray "ThriftyStoresModel" none g := hM
  obtain ⟨hx, hb, hml, hr, hlk, hts, hown, hK⟩ := id hM
  intro ls H locs hl hP hS
  have hl : lv_has ls 3 [(0, .ref (g.2.1 635)), (1, .int l1), (2, .int l2)] := hl
  unfold zf_MO_tie at h
  refine lv_aload_n hx hb dMO_tie_0 rfl (lv_at hl 0 rfl) ?_
  refine zr_getr (b := 648) hx hb hts zi_MO hown hK.1 hP zl_635.1 zl_635.2 rfl 17 (by decide) rfl (hts _ zq_750) dMO_tie_1 ?_
  refine lv_bipush (v := 16) hx hb dMO_tie_4 (by decide) ?_
  refine lv_iload_n hx hb dMO_tie_6 rfl (lv_at hl 1 rfl) ?_
  refine lv_imul hx hb dMO_tie_7 ?_
  refine lv_iload_n hx hb dMO_tie_8 rfl (lv_at hl 2 rfl) ?_
  refine lv_iadd hx hb dMO_tie_9 ?_
  refine lv_iconst (v := 1) hx hb dMO_tie_10 (by decide) ?_
  obtain ⟨hi1, h⟩ := h
  refine zr_zast hx hb hK.1 hP hS zl_648.1 zl_648.2 hi1 dMO_tie_11 (fun H locs hP hS => ?_)
  obtain ⟨t2, ez⟩ : ∃ tz : zs_T, tz = zs_i st 648 ((16 * l1) + l2).toNatClampNeg (vp_nar .boolean 1) := ⟨_, rfl⟩
  have h := h t2 ez
  have hP : zs_P g zs_ly zs_N A t2 H := by rw [ez]; exact hP
  clear ez
  refine lv_aload_n hx hb dMO_tie_12 rfl (lv_at hl 0 rfl) ?_
  refine zr_getr (b := 648) hx hb hts zi_MO hown hK.1 hP zl_635.1 zl_635.2 rfl 17 (by decide) rfl (hts _ zq_750) dMO_tie_13 ?_
  refine lv_bipush (v := 16) hx hb dMO_tie_16 (by decide) ?_
  refine lv_iload_n hx hb dMO_tie_18 rfl (lv_at hl 2 rfl) ?_
  refine lv_imul hx hb dMO_tie_19 ?_
  refine lv_iload_n hx hb dMO_tie_20 rfl (lv_at hl 1 rfl) ?_
  refine lv_iadd hx hb dMO_tie_21 ?_
  refine lv_iconst (v := 1) hx hb dMO_tie_22 (by decide) ?_
  obtain ⟨hi3, h⟩ := h
  refine zr_zast hx hb hK.1 hP hS zl_648.1 zl_648.2 hi3 dMO_tie_23 (fun H locs hP hS => ?_)
  obtain ⟨t4, ez⟩ : ∃ tz : zs_T, tz = zs_i t2 648 ((16 * l2) + l1).toNatClampNeg (vp_nar .boolean 1) := ⟨_, rfl⟩
  have h := h t4 ez
  have hP : zs_P g zs_ly zs_N A t4 H := by rw [ez]; exact hP
  clear ez
  exact zr_vret hx hb hr hlk hP hS h dMO_tie_24
set_option maxHeartbeats 4000000 in
set_option maxRecDepth 100000 in
theorem zw_MO_passMove_93 (hM : zs_M p c cMO_passMove 5 s m meth args "ThriftyStoresModel" none g)   {K : zs_T → Prop} {B9 : Int32 → Int32 → Int32 → Int32 → zs_T → Prop} (hB9 : ∀ (l1 : Int32) (l2 : Int32) (l3 : Int32) (l4 : Int32) (st : zs_T), B9 l1 l2 l3 l4 st → zs_Go p l e (zs_rm 1 23) s m args below meth c g A (MQ below (zs_Qv g zs_ly zs_N A K) args s 0 0 A) 5 9 [(0, .ref (g.2.1 635)), (1, .int l1), (2, .int l2), (3, .int l3), (4, .int l4)] [] st) (l1 : Int32) (l2 : Int32) (l3 : Int32) (l4 : Int32) (st : zs_T) (h : zf_MO_passMove_93 K B9 l1 l2 l3 l4 st) : zs_Go p l e (zs_rm 1 23) s m args below meth c g A (MQ below (zs_Qv g zs_ly zs_N A K) args s 0 0 A) 5 93 [(0, .ref (g.2.1 635)), (1, .int l1), (2, .int l2), (3, .int l3), (4, .int l4)] [] st := by
  obtain ⟨hx, hb, hml, hr, hlk, hts, hown, hK⟩ := id hM
  intro ls H locs hl hP hS
  unfold zf_MO_passMove_93 at h
  refine lv_iinc (k := 4) (v := l4 + 1) hx hb dMO_passMove_93 hl rfl (by rw [show Int32.ofInt (1) = 1 from by decide]) (by decide) rfl (fun ls hl => ?_)
  have hl : lv_has ls 5 [(4, .int (l4 + 1)), (0, .ref (g.2.1 635)), (1, .int l1), (2, .int l2), (3, .int l3)] := hl
  refine lv_goto (tgt := 9) hx hb dMO_passMove_96 rfl ?_
  exact hB9 l1 l2 l3 (l4 + 1) st h ls H locs (lv_sub hl [1, 2, 3, 4, 0] rfl) hP hS
set_option maxHeartbeats 4000000 in
set_option maxRecDepth 100000 in
theorem zw_MO_passMove_53 (hM : zs_M p c cMO_passMove 5 s m meth args "ThriftyStoresModel" none g)   {K : zs_T → Prop} {B9 : Int32 → Int32 → Int32 → Int32 → zs_T → Prop} (hB9 : ∀ (l1 : Int32) (l2 : Int32) (l3 : Int32) (l4 : Int32) (st : zs_T), B9 l1 l2 l3 l4 st → zs_Go p l e (zs_rm 1 23) s m args below meth c g A (MQ below (zs_Qv g zs_ly zs_N A K) args s 0 0 A) 5 9 [(0, .ref (g.2.1 635)), (1, .int l1), (2, .int l2), (3, .int l3), (4, .int l4)] [] st) (l1 : Int32) (l2 : Int32) (l3 : Int32) (l4 : Int32) (st : zs_T) (h : zf_MO_passMove_53 K B9 l1 l2 l3 l4 st) : zs_Go p l e (zs_rm 1 23) s m args below meth c g A (MQ below (zs_Qv g zs_ly zs_N A K) args s 0 0 A) 5 53 [(0, .ref (g.2.1 635)), (1, .int l1), (2, .int l2), (3, .int l3), (4, .int l4)] [] st := by
  obtain ⟨hx, hb, hml, hr, hlk, hts, hown, hK⟩ := id hM
  intro ls H locs hl hP hS
  unfold zf_MO_passMove_53 at h
  refine lv_aload_n hx hb dMO_passMove_53 rfl (lv_at hl 0 rfl) ?_
  refine zr_getr (b := 649) hx hb hts zi_MO hown hK.1 hP zl_635.1 zl_635.2 rfl 18 (by decide) rfl (hts _ zq_751) dMO_passMove_54 ?_
  refine lv_bipush (v := 16) hx hb dMO_passMove_57 (by decide) ?_
  refine lv_iload_n hx hb dMO_passMove_59 rfl (lv_at hl 2 rfl) ?_
  refine lv_imul hx hb dMO_passMove_60 ?_
  refine lv_iload hx hb dMO_passMove_61 (lv_at hl 4 rfl) ?_
  refine lv_iadd hx hb dMO_passMove_63 ?_
  refine lv_aload_n hx hb dMO_passMove_64 rfl (lv_at hl 0 rfl) ?_
  refine lv_iload_n hx hb dMO_passMove_65 rfl (lv_at hl 1 rfl) ?_
  refine lv_iload_n hx hb dMO_passMove_66 rfl (lv_at hl 3 rfl) ?_
  refine lv_iload hx hb dMO_passMove_67 (lv_at hl 4 rfl) ?_
  refine zr_calli (va_runV (As := [.int l1, .int l3, .int l4]) (rest := [.int ((16 * l2) + l4), .ref (g.2.1 649)]) ⟨hx, hb, hml, hown, hts⟩ (zc_MO_held l g A  h) (cwV 3 hts (zs_gV zq_893 zq_895 zp_45 zq_8 zq_896) rfl rfl rfl ⟨rfl, by decide, by decide, by decide +kernel⟩ ⟨Nat.le_of_ble_eq_true rfl, Nat.le_of_ble_eq_true rfl⟩) (zs_preV zs_nwk hK hP zl_635.1 zl_635.2 rfl) rfl rfl hl.1 rfl (lv_room (Nat.le_of_ble_eq_true rfl)) dMO_passMove_69 ⟨Nat.le_refl _, Nat.le_refl _⟩) hS (fun r202 u201 H locs h hP hS => ?_)
  obtain ⟨hi203, h⟩ := h
  refine zr_zast hx hb hK.1 hP hS zl_649.1 zl_649.2 hi203 dMO_passMove_72 (fun H locs hP hS => ?_)
  obtain ⟨t204, ez⟩ : ∃ tz : zs_T, tz = zs_i u201 649 ((16 * l2) + l4).toNatClampNeg (vp_nar .boolean r202) := ⟨_, rfl⟩
  have h := h t204 ez
  have hP : zs_P g zs_ly zs_N A t204 H := by rw [ez]; exact hP
  clear ez
  refine lv_aload_n hx hb dMO_passMove_73 rfl (lv_at hl 0 rfl) ?_
  refine zr_getr (b := 649) hx hb hts zi_MO hown hK.1 hP zl_635.1 zl_635.2 rfl 18 (by decide) rfl (hts _ zq_751) dMO_passMove_74 ?_
  refine lv_bipush (v := 16) hx hb dMO_passMove_77 (by decide) ?_
  refine lv_iload hx hb dMO_passMove_79 (lv_at hl 4 rfl) ?_
  refine lv_imul hx hb dMO_passMove_81 ?_
  refine lv_iload_n hx hb dMO_passMove_82 rfl (lv_at hl 2 rfl) ?_
  refine lv_iadd hx hb dMO_passMove_83 ?_
  refine lv_aload_n hx hb dMO_passMove_84 rfl (lv_at hl 0 rfl) ?_
  refine lv_iload_n hx hb dMO_passMove_85 rfl (lv_at hl 1 rfl) ?_
  refine lv_iload hx hb dMO_passMove_86 (lv_at hl 4 rfl) ?_
  refine lv_iload_n hx hb dMO_passMove_88 rfl (lv_at hl 3 rfl) ?_
  refine zr_calli (va_runV (As := [.int l1, .int l4, .int l3]) (rest := [.int ((16 * l4) + l2), .ref (g.2.1 649)]) ⟨hx, hb, hml, hown, hts⟩ (zc_MO_held l g A  h) (cwV 3 hts (zs_gV zq_893 zq_895 zp_45 zq_8 zq_896) rfl rfl rfl ⟨rfl, by decide, by decide, by decide +kernel⟩ ⟨Nat.le_of_ble_eq_true rfl, Nat.le_of_ble_eq_true rfl⟩) (zs_preV zs_nwk hK hP zl_635.1 zl_635.2 rfl) rfl rfl hl.1 rfl (lv_room (Nat.le_of_ble_eq_true rfl)) dMO_passMove_89 ⟨Nat.le_refl _, Nat.le_refl _⟩) hS (fun r206 u205 H locs h hP hS => ?_)
  obtain ⟨hi207, h⟩ := h
  refine zr_zast hx hb hK.1 hP hS zl_649.1 zl_649.2 hi207 dMO_passMove_92 (fun H locs hP hS => ?_)
  obtain ⟨t208, ez⟩ : ∃ tz : zs_T, tz = zs_i u205 649 ((16 * l4) + l2).toNatClampNeg (vp_nar .boolean r206) := ⟨_, rfl⟩
  have h := h t208 ez
  have hP : zs_P g zs_ly zs_N A t208 H := by rw [ez]; exact hP
  clear ez
  exact zw_MO_passMove_93 hM hB9 l1 l2 l3 l4 t208 h ls H locs (lv_sub hl [0, 1, 2, 3, 4] rfl) hP hS
set_option maxHeartbeats 4000000 in
set_option maxRecDepth 100000 in
theorem zw_MO_passMove_9_s (hM : zs_M p c cMO_passMove 5 s m meth args "ThriftyStoresModel" none g)   {K : zs_T → Prop}  {B9 : Int32 → Int32 → Int32 → Int32 → zs_T → Prop}  (hB9 : ∀ (l1 : Int32) (l2 : Int32) (l3 : Int32) (l4 : Int32) (st : zs_T), B9 l1 l2 l3 l4 st → zs_Go p l e (zs_rm 1 23) s m args below meth c g A (MQ below (zs_Qv g zs_ly zs_N A K) args s 0 0 A) 5 9 [(0, .ref (g.2.1 635)), (1, .int l1), (2, .int l2), (3, .int l3), (4, .int l4)] [] st) (l1 : Int32) (l2 : Int32) (l3 : Int32) (l4 : Int32) (st : zs_T) (h : zf_MO_passMove_9_s K B9 l1 l2 l3 l4 st) : zs_Go p l e (zs_rm 1 23) s m args below meth c g A (MQ below (zs_Qv g zs_ly zs_N A K) args s 0 0 A) 5 9 [(0, .ref (g.2.1 635)), (1, .int l1), (2, .int l2), (3, .int l3), (4, .int l4)] [] st := by
  obtain ⟨hx, hb, hml, hr, hlk, hts, hown, hK⟩ := id hM
  intro ls H locs hl hP hS
  unfold zf_MO_passMove_9_s at h
  refine lv_iload hx hb dMO_passMove_9 (lv_at hl 4 rfl) ?_
  refine lv_bipush (v := 16) hx hb dMO_passMove_11 (by decide) ?_
  refine lv_icmp_ge (tgt := 99) hx hb dMO_passMove_13 rfl (fun hc => ?_) (fun hc => ?_)
  · have h := h.1 hc
    clear hc
    refine lv_aload_n hx hb dMO_passMove_99 rfl (lv_at hl 0 rfl) ?_
    refine zr_getr (b := 649) hx hb hts zi_MO hown hK.1 hP zl_635.1 zl_635.2 rfl 18 (by decide) rfl (hts _ zq_751) dMO_passMove_100 ?_
    refine lv_bipush (v := 16) hx hb dMO_passMove_103 (by decide) ?_
    refine lv_iload_n hx hb dMO_passMove_105 rfl (lv_at hl 2 rfl) ?_
    refine lv_imul hx hb dMO_passMove_106 ?_
    refine lv_iload_n hx hb dMO_passMove_107 rfl (lv_at hl 2 rfl) ?_
    refine lv_iadd hx hb dMO_passMove_108 ?_
    refine lv_aload_n hx hb dMO_passMove_109 rfl (lv_at hl 0 rfl) ?_
    refine lv_iload_n hx hb dMO_passMove_110 rfl (lv_at hl 1 rfl) ?_
    refine lv_iload_n hx hb dMO_passMove_111 rfl (lv_at hl 3 rfl) ?_
    refine lv_iload_n hx hb dMO_passMove_112 rfl (lv_at hl 3 rfl) ?_
    refine zr_calli (va_runV (As := [.int l1, .int l3, .int l3]) (rest := [.int ((16 * l2) + l2), .ref (g.2.1 649)]) ⟨hx, hb, hml, hown, hts⟩ (zc_MO_held l g A  h) (cwV 3 hts (zs_gV zq_893 zq_895 zp_45 zq_8 zq_896) rfl rfl rfl ⟨rfl, by decide, by decide, by decide +kernel⟩ ⟨Nat.le_of_ble_eq_true rfl, Nat.le_of_ble_eq_true rfl⟩) (zs_preV zs_nwk hK hP zl_635.1 zl_635.2 rfl) rfl rfl hl.1 rfl (lv_room (Nat.le_of_ble_eq_true rfl)) dMO_passMove_113 ⟨Nat.le_refl _, Nat.le_refl _⟩) hS (fun r102 u101 H locs h hP hS => ?_)
    obtain ⟨hi103, h⟩ := h
    refine zr_zast hx hb hK.1 hP hS zl_649.1 zl_649.2 hi103 dMO_passMove_116 (fun H locs hP hS => ?_)
    obtain ⟨t104, ez⟩ : ∃ tz : zs_T, tz = zs_i u101 649 ((16 * l2) + l2).toNatClampNeg (vp_nar .boolean r102) := ⟨_, rfl⟩
    have h := h t104 ez
    have hP : zs_P g zs_ly zs_N A t104 H := by rw [ez]; exact hP
    clear ez
    refine lv_aload_n hx hb dMO_passMove_117 rfl (lv_at hl 0 rfl) ?_
    refine zr_getr (b := 650) hx hb hts zi_MO hown hK.1 hP zl_635.1 zl_635.2 rfl 19 (by decide) rfl (hts _ zq_752) dMO_passMove_118 ?_
    refine lv_iload_n hx hb dMO_passMove_121 rfl (lv_at hl 2 rfl) ?_
    refine lv_aload_n hx hb dMO_passMove_122 rfl (lv_at hl 0 rfl) ?_
    refine zr_getr (b := 646) hx hb hts zi_MO hown hK.1 hP zl_635.1 zl_635.2 rfl 15 (by decide) rfl (hts _ zq_748) dMO_passMove_123 ?_
    refine lv_bipush (v := 16) hx hb dMO_passMove_126 (by decide) ?_
    refine lv_iload_n hx hb dMO_passMove_128 rfl (lv_at hl 1 rfl) ?_
    refine lv_imul hx hb dMO_passMove_129 ?_
    refine lv_iload_n hx hb dMO_passMove_130 rfl (lv_at hl 3 rfl) ?_
    refine lv_iadd hx hb dMO_passMove_131 ?_
    obtain ⟨hi105, h⟩ := h
    refine zr_zald hx hb hK.1 hP zl_646.1 zl_646.2 hi105 dMO_passMove_132 ?_
    obtain ⟨hi106, h⟩ := h
    refine zr_zast hx hb hK.1 hP hS zl_650.1 zl_650.2 hi106 dMO_passMove_133 (fun H locs hP hS => ?_)
    obtain ⟨t107, ez⟩ : ∃ tz : zs_T, tz = zs_i t104 650 l2.toNatClampNeg (vp_nar .boolean (t104.1 646 ((16 * l1) + l3).toNatClampNeg)) := ⟨_, rfl⟩
    have h := h t107 ez
    have hP : zs_P g zs_ly zs_N A t107 H := by rw [ez]; exact hP
    clear ez
    exact zr_vret hx hb hr hlk hP hS h dMO_passMove_134
  · have h := h.2 hc
    clear hc
    refine lv_iload hx hb dMO_passMove_16 (lv_at hl 4 rfl) ?_
    refine lv_iload_n hx hb dMO_passMove_18 rfl (lv_at hl 2 rfl) ?_
    refine lv_icmp_ne (tgt := 25) hx hb dMO_passMove_19 rfl (fun hc => ?_) (fun hc => ?_)
    · have h := h.1 hc
      clear hc
      refine lv_aload_n hx hb dMO_passMove_25 rfl (lv_at hl 0 rfl) ?_
      refine zr_getr (b := 644) hx hb hts zi_MO hown hK.1 hP zl_635.1 zl_635.2 rfl 13 (by decide) rfl (hts _ zq_746) dMO_passMove_26 ?_
      refine lv_sipush (v := 256) hx hb dMO_passMove_29 (by decide) ?_
      refine lv_iload_n hx hb dMO_passMove_32 rfl (lv_at hl 1 rfl) ?_
      refine lv_imul hx hb dMO_passMove_33 ?_
      refine lv_bipush (v := 16) hx hb dMO_passMove_34 (by decide) ?_
      refine lv_iload_n hx hb dMO_passMove_36 rfl (lv_at hl 3 rfl) ?_
      refine lv_imul hx hb dMO_passMove_37 ?_
      refine lv_iadd hx hb dMO_passMove_38 ?_
      refine lv_iload hx hb dMO_passMove_39 (lv_at hl 4 rfl) ?_
      refine lv_iadd hx hb dMO_passMove_41 ?_
      obtain ⟨hi108, h⟩ := h
      refine zr_zald hx hb hK.1 hP zl_644.1 zl_644.2 hi108 dMO_passMove_42 ?_
      refine lv_if_eq (tgt := 53) hx hb dMO_passMove_43 rfl (fun hc => ?_) (fun hc => ?_)
      · have h := h.1 hc
        clear hc
        exact zw_MO_passMove_53 hM hB9 l1 l2 l3 l4 st h ls H locs (lv_sub hl [0, 1, 2, 3, 4] rfl) hP hS
      · have h := h.2 hc
        clear hc
        refine lv_aload_n hx hb dMO_passMove_46 rfl (lv_at hl 0 rfl) ?_
        refine lv_iload_n hx hb dMO_passMove_47 rfl (lv_at hl 2 rfl) ?_
        refine lv_iload hx hb dMO_passMove_48 (lv_at hl 4 rfl) ?_
        refine zr_callv (va_runV (As := [.int l2, .int l4]) (rest := []) ⟨hx, hb, hml, hown, hts⟩ (zc_MO_tie l g A  h) (cwV 2 hts (zs_gV zq_909 zq_911 zp_49 zq_8 zq_912) rfl rfl rfl ⟨rfl, by decide, by decide, by decide +kernel⟩ ⟨Nat.le_of_ble_eq_true rfl, Nat.le_of_ble_eq_true rfl⟩) (zs_preV zs_nwk hK hP zl_635.1 zl_635.2 rfl) rfl rfl hl.1 rfl (lv_room (Nat.le_of_ble_eq_true rfl)) dMO_passMove_50 ⟨Nat.le_refl _, Nat.le_refl _⟩) hS (fun u109 H locs h hP hS => ?_)
        exact zw_MO_passMove_53 hM hB9 l1 l2 l3 l4 u109 h ls H locs (lv_sub hl [0, 1, 2, 3, 4] rfl) hP hS
    · have h := h.2 hc
      clear hc
      refine lv_goto (tgt := 93) hx hb dMO_passMove_22 rfl ?_
      exact zw_MO_passMove_93 hM hB9 l1 l2 l3 l4 st h ls H locs (lv_sub hl [0, 1, 2, 3, 4] rfl) hP hS
theorem zw_MO_passMove_9 (hM : zs_M p c cMO_passMove 5 s m meth args "ThriftyStoresModel" none g)   {K : zs_T → Prop}   : ∀ (n : Nat) (l1 : Int32) (l2 : Int32) (l3 : Int32) (l4 : Int32) (st : zs_T), zf_MO_passMove_9 K n l1 l2 l3 l4 st → zs_Go p l e (zs_rm 1 23) s m args below meth c g A (MQ below (zs_Qv g zs_ly zs_N A K) args s 0 0 A) 5 9 [(0, .ref (g.2.1 635)), (1, .int l1), (2, .int l2), (3, .int l3), (4, .int l4)] [] st := by
  intro n
  induction n with
  | zero => intro l1 l2 l3 l4 st h; exact False.elim h
  | succ n ih => intro l1 l2 l3 l4 st h; exact zw_MO_passMove_9_s hM  ih l1 l2 l3 l4 st h
set_option maxHeartbeats 4000000 in
set_option maxRecDepth 100000 in
theorem zc_MO_passMove (l : Launch) (g : zs_G) (A : Nat → Prop) {l1 : Int32} {l2 : Int32} {l3 : Int32}  {st : zs_T} {K : zs_T → Prop} (h : zf_MO_passMove l1 l2 l3 st K) : Met l yMO_passMove (.code yMO_passMove cMO_passMove 5 none :: zs_tb) (zs_rm 1 23) (zs_Pc zs_nl g zs_ly zs_N A [.ref (g.2.1 635), .int l1, .int l2, .int l3] st) (zs_Qv g zs_ly zs_N A K) 0 0 A := by
  refine zs_met (cc := cMO_passMove) (maxL := 5) (ret := none) (by decide) (Nat.le_of_ble_eq_true rfl) (fun p e s m below meth c hM => ?_)
  have hM : zs_M p c cMO_passMove 5 s m meth [.ref (g.2.1 635), .int l1, .int l2, .int l3].toArray "ThriftyStoresModel" none g := hM
  obtain ⟨hx, hb, hml, hr, hlk, hts, hown, hK⟩ := id hM
  intro ls H locs hl hP hS
  have hl : lv_has ls 5 [(0, .ref (g.2.1 635)), (1, .int l1), (2, .int l2), (3, .int l3)] := hl
  unfold zf_MO_passMove at h
  refine lv_aload_n hx hb dMO_passMove_0 rfl (lv_at hl 0 rfl) ?_
  refine lv_iload_n hx hb dMO_passMove_1 rfl (lv_at hl 2 rfl) ?_
  refine lv_iload_n hx hb dMO_passMove_2 rfl (lv_at hl 3 rfl) ?_
  refine zr_callv (va_runV (As := [.int l2, .int l3]) (rest := []) ⟨hx, hb, hml, hown, hts⟩ (zc_MO_tie l g A  h) (cwV 2 hts (zs_gV zq_909 zq_911 zp_49 zq_8 zq_912) rfl rfl rfl ⟨rfl, by decide, by decide, by decide +kernel⟩ ⟨Nat.le_of_ble_eq_true rfl, Nat.le_of_ble_eq_true rfl⟩) (zs_preV zs_nwk hK hP zl_635.1 zl_635.2 rfl) rfl rfl hl.1 rfl (lv_room (Nat.le_of_ble_eq_true rfl)) dMO_passMove_3 ⟨Nat.le_refl _, Nat.le_refl _⟩) hS (fun u1 H locs h hP hS => ?_)
  refine lv_iconst (v := 0) hx hb dMO_passMove_6 (by decide) ?_
  refine lv_istore hx hb dMO_passMove_7 hl (by decide) rfl (fun ls hl => ?_)
  have hl : lv_has ls 5 [(4, .int 0), (0, .ref (g.2.1 635)), (1, .int l1), (2, .int l2), (3, .int l3)] := hl
  obtain ⟨n, h⟩ := h
  exact zw_MO_passMove_9 hM  n l1 l2 l3 0 u1 h ls H locs (lv_sub hl [1, 2, 3, 4, 0] rfl) hP hS
set_option maxHeartbeats 4000000 in
set_option maxRecDepth 100000 in
theorem zw_MO_passLoad_69 (hM : zs_M p c cMO_passLoad 5 s m meth args "ThriftyStoresModel" none g)   {K : zs_T → Prop} {B3 : Int32 → Int32 → Int32 → Int32 → zs_T → Prop} (hB3 : ∀ (l1 : Int32) (l2 : Int32) (l3 : Int32) (l4 : Int32) (st : zs_T), B3 l1 l2 l3 l4 st → zs_Go p l e (zs_rm 1 23) s m args below meth c g A (MQ below (zs_Qv g zs_ly zs_N A K) args s 0 0 A) 5 3 [(0, .ref (g.2.1 635)), (1, .int l1), (2, .int l2), (3, .int l3), (4, .int l4)] [] st) (l1 : Int32) (l2 : Int32) (l3 : Int32) (l4 : Int32) (st : zs_T) (h : zf_MO_passLoad_69 K B3 l1 l2 l3 l4 st) : zs_Go p l e (zs_rm 1 23) s m args below meth c g A (MQ below (zs_Qv g zs_ly zs_N A K) args s 0 0 A) 5 69 [(0, .ref (g.2.1 635)), (1, .int l1), (2, .int l2), (3, .int l3), (4, .int l4)] [] st := by
  obtain ⟨hx, hb, hml, hr, hlk, hts, hown, hK⟩ := id hM
  intro ls H locs hl hP hS
  unfold zf_MO_passLoad_69 at h
  refine lv_iinc (k := 4) (v := l4 + 1) hx hb dMO_passLoad_69 hl rfl (by rw [show Int32.ofInt (1) = 1 from by decide]) (by decide) rfl (fun ls hl => ?_)
  have hl : lv_has ls 5 [(4, .int (l4 + 1)), (0, .ref (g.2.1 635)), (1, .int l1), (2, .int l2), (3, .int l3)] := hl
  refine lv_goto (tgt := 3) hx hb dMO_passLoad_72 rfl ?_
  exact hB3 l1 l2 l3 (l4 + 1) st h ls H locs (lv_sub hl [1, 2, 3, 4, 0] rfl) hP hS
set_option maxHeartbeats 4000000 in
set_option maxRecDepth 100000 in
theorem zw_MO_passLoad_51 (hM : zs_M p c cMO_passLoad 5 s m meth args "ThriftyStoresModel" none g)   {K : zs_T → Prop} {B3 : Int32 → Int32 → Int32 → Int32 → zs_T → Prop} (hB3 : ∀ (l1 : Int32) (l2 : Int32) (l3 : Int32) (l4 : Int32) (st : zs_T), B3 l1 l2 l3 l4 st → zs_Go p l e (zs_rm 1 23) s m args below meth c g A (MQ below (zs_Qv g zs_ly zs_N A K) args s 0 0 A) 5 3 [(0, .ref (g.2.1 635)), (1, .int l1), (2, .int l2), (3, .int l3), (4, .int l4)] [] st) (l1 : Int32) (l2 : Int32) (l3 : Int32) (l4 : Int32) (st : zs_T) (h : zf_MO_passLoad_51 K B3 l1 l2 l3 l4 st) : zs_Go p l e (zs_rm 1 23) s m args below meth c g A (MQ below (zs_Qv g zs_ly zs_N A K) args s 0 0 A) 5 51 [(0, .ref (g.2.1 635)), (1, .int l1), (2, .int l2), (3, .int l3), (4, .int l4)] [] st := by
  obtain ⟨hx, hb, hml, hr, hlk, hts, hown, hK⟩ := id hM
  intro ls H locs hl hP hS
  unfold zf_MO_passLoad_51 at h
  refine lv_aload_n hx hb dMO_passLoad_51 rfl (lv_at hl 0 rfl) ?_
  refine lv_iload_n hx hb dMO_passLoad_52 rfl (lv_at hl 1 rfl) ?_
  refine lv_iload_n hx hb dMO_passLoad_53 rfl (lv_at hl 3 rfl) ?_
  refine lv_iload hx hb dMO_passLoad_54 (lv_at hl 4 rfl) ?_
  refine zr_calli (va_runV (As := [.int l1, .int l3, .int l4]) (rest := []) ⟨hx, hb, hml, hown, hts⟩ (zc_MO_held l g A  h) (cwV 3 hts (zs_gV zq_893 zq_895 zp_45 zq_8 zq_896) rfl rfl rfl ⟨rfl, by decide, by decide, by decide +kernel⟩ ⟨Nat.le_of_ble_eq_true rfl, Nat.le_of_ble_eq_true rfl⟩) (zs_preV zs_nwk hK hP zl_635.1 zl_635.2 rfl) rfl rfl hl.1 rfl (lv_room (Nat.le_of_ble_eq_true rfl)) dMO_passLoad_56 ⟨Nat.le_refl _, Nat.le_refl _⟩) hS (fun r202 u201 H locs h hP hS => ?_)
  refine lv_if_eq (tgt := 69) hx hb dMO_passLoad_59 rfl (fun hc => ?_) (fun hc => ?_)
  · have h := h.1 hc
    clear hc
    exact zw_MO_passLoad_69 hM hB3 l1 l2 l3 l4 u201 h ls H locs (lv_sub hl [0, 1, 2, 3, 4] rfl) hP hS
  · have h := h.2 hc
    clear hc
    refine lv_aload_n hx hb dMO_passLoad_62 rfl (lv_at hl 0 rfl) ?_
    refine lv_iload_n hx hb dMO_passLoad_63 rfl (lv_at hl 2 rfl) ?_
    refine lv_iload hx hb dMO_passLoad_64 (lv_at hl 4 rfl) ?_
    refine zr_callv (va_runV (As := [.int l2, .int l4]) (rest := []) ⟨hx, hb, hml, hown, hts⟩ (zc_MO_tie l g A  h) (cwV 2 hts (zs_gV zq_909 zq_911 zp_49 zq_8 zq_912) rfl rfl rfl ⟨rfl, by decide, by decide, by decide +kernel⟩ ⟨Nat.le_of_ble_eq_true rfl, Nat.le_of_ble_eq_true rfl⟩) (zs_preV zs_nwk hK hP zl_635.1 zl_635.2 rfl) rfl rfl hl.1 rfl (lv_room (Nat.le_of_ble_eq_true rfl)) dMO_passLoad_66 ⟨Nat.le_refl _, Nat.le_refl _⟩) hS (fun u203 H locs h hP hS => ?_)
    exact zw_MO_passLoad_69 hM hB3 l1 l2 l3 l4 u203 h ls H locs (lv_sub hl [0, 1, 2, 3, 4] rfl) hP hS
set_option maxHeartbeats 4000000 in
set_option maxRecDepth 100000 in
theorem zw_MO_passLoad_3_s (hM : zs_M p c cMO_passLoad 5 s m meth args "ThriftyStoresModel" none g)   {K : zs_T → Prop}  {B3 : Int32 → Int32 → Int32 → Int32 → zs_T → Prop}  (hB3 : ∀ (l1 : Int32) (l2 : Int32) (l3 : Int32) (l4 : Int32) (st : zs_T), B3 l1 l2 l3 l4 st → zs_Go p l e (zs_rm 1 23) s m args below meth c g A (MQ below (zs_Qv g zs_ly zs_N A K) args s 0 0 A) 5 3 [(0, .ref (g.2.1 635)), (1, .int l1), (2, .int l2), (3, .int l3), (4, .int l4)] [] st) (l1 : Int32) (l2 : Int32) (l3 : Int32) (l4 : Int32) (st : zs_T) (h : zf_MO_passLoad_3_s K B3 l1 l2 l3 l4 st) : zs_Go p l e (zs_rm 1 23) s m args below meth c g A (MQ below (zs_Qv g zs_ly zs_N A K) args s 0 0 A) 5 3 [(0, .ref (g.2.1 635)), (1, .int l1), (2, .int l2), (3, .int l3), (4, .int l4)] [] st := by
  obtain ⟨hx, hb, hml, hr, hlk, hts, hown, hK⟩ := id hM
  intro ls H locs hl hP hS
  unfold zf_MO_passLoad_3_s at h
  refine lv_iload hx hb dMO_passLoad_3 (lv_at hl 4 rfl) ?_
  refine lv_bipush (v := 16) hx hb dMO_passLoad_5 (by decide) ?_
  refine lv_icmp_ge (tgt := 75) hx hb dMO_passLoad_7 rfl (fun hc => ?_) (fun hc => ?_)
  · have h := h.1 hc
    clear hc
    exact zr_vret hx hb hr hlk hP hS h dMO_passLoad_75
  · have h := h.2 hc
    clear hc
    refine lv_iload hx hb dMO_passLoad_10 (lv_at hl 4 rfl) ?_
    refine lv_iload_n hx hb dMO_passLoad_12 rfl (lv_at hl 2 rfl) ?_
    refine lv_icmp_ne (tgt := 19) hx hb dMO_passLoad_13 rfl (fun hc => ?_) (fun hc => ?_)
    · have h := h.1 hc
      clear hc
      refine lv_aload_n hx hb dMO_passLoad_19 rfl (lv_at hl 0 rfl) ?_
      refine lv_iload_n hx hb dMO_passLoad_20 rfl (lv_at hl 1 rfl) ?_
      refine lv_iload_n hx hb dMO_passLoad_21 rfl (lv_at hl 3 rfl) ?_
      refine lv_iload hx hb dMO_passLoad_22 (lv_at hl 4 rfl) ?_
      refine zr_calli (va_runV (As := [.int l1, .int l3, .int l4]) (rest := []) ⟨hx, hb, hml, hown, hts⟩ (zc_MO_one l g A  h) (cwV 3 hts (zs_gV zq_901 zq_903 zp_47 zq_8 zq_904) rfl rfl rfl ⟨rfl, by decide, by decide, by decide +kernel⟩ ⟨Nat.le_of_ble_eq_true rfl, Nat.le_of_ble_eq_true rfl⟩) (zs_preV zs_nwk hK hP zl_635.1 zl_635.2 rfl) rfl rfl hl.1 rfl (lv_room (Nat.le_of_ble_eq_true rfl)) dMO_passLoad_24 ⟨Nat.le_refl _, Nat.le_refl _⟩) hS (fun r102 u101 H locs h hP hS => ?_)
      refine lv_if_eq (tgt := 51) hx hb dMO_passLoad_27 rfl (fun hc => ?_) (fun hc => ?_)
      · have h := h.1 hc
        clear hc
        exact zw_MO_passLoad_51 hM hB3 l1 l2 l3 l4 u101 h ls H locs (lv_sub hl [0, 1, 2, 3, 4] rfl) hP hS
      · have h := h.2 hc
        clear hc
        refine lv_aload_n hx hb dMO_passLoad_30 rfl (lv_at hl 0 rfl) ?_
        refine zr_getr (b := 650) hx hb hts zi_MO hown hK.1 hP zl_635.1 zl_635.2 rfl 19 (by decide) rfl (hts _ zq_752) dMO_passLoad_31 ?_
        refine lv_iload hx hb dMO_passLoad_34 (lv_at hl 4 rfl) ?_
        refine lv_iconst (v := 1) hx hb dMO_passLoad_36 (by decide) ?_
        obtain ⟨hi103, h⟩ := h
        refine zr_zast hx hb hK.1 hP hS zl_650.1 zl_650.2 hi103 dMO_passLoad_37 (fun H locs hP hS => ?_)
        obtain ⟨t104, ez⟩ : ∃ tz : zs_T, tz = zs_i u101 650 l4.toNatClampNeg (vp_nar .boolean 1) := ⟨_, rfl⟩
        have h := h t104 ez
        have hP : zs_P g zs_ly zs_N A t104 H := by rw [ez]; exact hP
        clear ez
        refine lv_aload_n hx hb dMO_passLoad_38 rfl (lv_at hl 0 rfl) ?_
        refine zr_getr (b := 649) hx hb hts zi_MO hown hK.1 hP zl_635.1 zl_635.2 rfl 18 (by decide) rfl (hts _ zq_751) dMO_passLoad_39 ?_
        refine lv_bipush (v := 16) hx hb dMO_passLoad_42 (by decide) ?_
        refine lv_iload hx hb dMO_passLoad_44 (lv_at hl 4 rfl) ?_
        refine lv_imul hx hb dMO_passLoad_46 ?_
        refine lv_iload_n hx hb dMO_passLoad_47 rfl (lv_at hl 2 rfl) ?_
        refine lv_iadd hx hb dMO_passLoad_48 ?_
        refine lv_iconst (v := 1) hx hb dMO_passLoad_49 (by decide) ?_
        obtain ⟨hi105, h⟩ := h
        refine zr_zast hx hb hK.1 hP hS zl_649.1 zl_649.2 hi105 dMO_passLoad_50 (fun H locs hP hS => ?_)
        obtain ⟨t106, ez⟩ : ∃ tz : zs_T, tz = zs_i t104 649 ((16 * l4) + l2).toNatClampNeg (vp_nar .boolean 1) := ⟨_, rfl⟩
        have h := h t106 ez
        have hP : zs_P g zs_ly zs_N A t106 H := by rw [ez]; exact hP
        clear ez
        exact zw_MO_passLoad_51 hM hB3 l1 l2 l3 l4 t106 h ls H locs (lv_sub hl [0, 1, 2, 3, 4] rfl) hP hS
    · have h := h.2 hc
      clear hc
      refine lv_goto (tgt := 69) hx hb dMO_passLoad_16 rfl ?_
      exact zw_MO_passLoad_69 hM hB3 l1 l2 l3 l4 st h ls H locs (lv_sub hl [0, 1, 2, 3, 4] rfl) hP hS
theorem zw_MO_passLoad_3 (hM : zs_M p c cMO_passLoad 5 s m meth args "ThriftyStoresModel" none g)   {K : zs_T → Prop}   : ∀ (n : Nat) (l1 : Int32) (l2 : Int32) (l3 : Int32) (l4 : Int32) (st : zs_T), zf_MO_passLoad_3 K n l1 l2 l3 l4 st → zs_Go p l e (zs_rm 1 23) s m args below meth c g A (MQ below (zs_Qv g zs_ly zs_N A K) args s 0 0 A) 5 3 [(0, .ref (g.2.1 635)), (1, .int l1), (2, .int l2), (3, .int l3), (4, .int l4)] [] st := by
  intro n
  induction n with
  | zero => intro l1 l2 l3 l4 st h; exact False.elim h
  | succ n ih => intro l1 l2 l3 l4 st h; exact zw_MO_passLoad_3_s hM  ih l1 l2 l3 l4 st h
set_option maxHeartbeats 4000000 in
set_option maxRecDepth 100000 in
theorem zc_MO_passLoad (l : Launch) (g : zs_G) (A : Nat → Prop) {l1 : Int32} {l2 : Int32} {l3 : Int32}  {st : zs_T} {K : zs_T → Prop} (h : zf_MO_passLoad l1 l2 l3 st K) : Met l yMO_passLoad (.code yMO_passLoad cMO_passLoad 5 none :: zs_tb) (zs_rm 1 23) (zs_Pc zs_nl g zs_ly zs_N A [.ref (g.2.1 635), .int l1, .int l2, .int l3] st) (zs_Qv g zs_ly zs_N A K) 0 0 A := by
  refine zs_met (cc := cMO_passLoad) (maxL := 5) (ret := none) (by decide) (Nat.le_of_ble_eq_true rfl) (fun p e s m below meth c hM => ?_)
  have hM : zs_M p c cMO_passLoad 5 s m meth [.ref (g.2.1 635), .int l1, .int l2, .int l3].toArray "ThriftyStoresModel" none g := hM
  obtain ⟨hx, hb, hml, hr, hlk, hts, hown, hK⟩ := id hM
  intro ls H locs hl hP hS
  have hl : lv_has ls 5 [(0, .ref (g.2.1 635)), (1, .int l1), (2, .int l2), (3, .int l3)] := hl
  unfold zf_MO_passLoad at h
  refine lv_iconst (v := 0) hx hb dMO_passLoad_0 (by decide) ?_
  refine lv_istore hx hb dMO_passLoad_1 hl (by decide) rfl (fun ls hl => ?_)
  have hl : lv_has ls 5 [(4, .int 0), (0, .ref (g.2.1 635)), (1, .int l1), (2, .int l2), (3, .int l3)] := hl
  obtain ⟨n, h⟩ := h
  exact zw_MO_passLoad_3 hM  n l1 l2 l3 0 st h ls H locs (lv_sub hl [1, 2, 3, 4, 0] rfl) hP hS
set_option maxHeartbeats 4000000 in
set_option maxRecDepth 100000 in
theorem zw_MO_passStore_86 (hM : zs_M p c cMO_passStore 6 s m meth args "ThriftyStoresModel" none g)   {K : zs_T → Prop} {B3 : Int32 → Int32 → Int32 → Int32 → zs_T → Prop} {B35 : Int32 → Int32 → Int32 → Int32 → Int32 → zs_T → Prop} (hB3 : ∀ (l1 : Int32) (l2 : Int32) (l3 : Int32) (l4 : Int32) (st : zs_T), B3 l1 l2 l3 l4 st → zs_Go p l e (zs_rm 1 23) s m args below meth c g A (MQ below (zs_Qv g zs_ly zs_N A K) args s 0 0 A) 6 3 [(0, .ref (g.2.1 635)), (1, .int l1), (2, .int l2), (3, .int l3), (4, .int l4)] [] st) (hB35 : ∀ (l1 : Int32) (l2 : Int32) (l3 : Int32) (l4 : Int32) (l5 : Int32) (st : zs_T), B35 l1 l2 l3 l4 l5 st → zs_Go p l e (zs_rm 1 23) s m args below meth c g A (MQ below (zs_Qv g zs_ly zs_N A K) args s 0 0 A) 6 35 [(0, .ref (g.2.1 635)), (1, .int l1), (2, .int l2), (3, .int l3), (4, .int l4), (5, .int l5)] [] st) (l1 : Int32) (l2 : Int32) (l3 : Int32) (l4 : Int32) (l5 : Int32) (s0 : Int32) (s1 : Int32) (st : zs_T) (h : zf_MO_passStore_86 K B3 B35 l1 l2 l3 l4 l5 s0 s1 st) : zs_Go p l e (zs_rm 1 23) s m args below meth c g A (MQ below (zs_Qv g zs_ly zs_N A K) args s 0 0 A) 6 86 [(0, .ref (g.2.1 635)), (1, .int l1), (2, .int l2), (3, .int l3), (4, .int l4), (5, .int l5)] [.int s0, .int s1, .ref (g.2.1 649)] st := by
  obtain ⟨hx, hb, hml, hr, hlk, hts, hown, hK⟩ := id hM
  intro ls H locs hl hP hS
  unfold zf_MO_passStore_86 at h
  obtain ⟨hi501, h⟩ := h
  refine zr_zast hx hb hK.1 hP hS zl_649.1 zl_649.2 hi501 dMO_passStore_86 (fun H locs hP hS => ?_)
  obtain ⟨t502, ez⟩ : ∃ tz : zs_T, tz = zs_i st 649 s1.toNatClampNeg (vp_nar .boolean s0) := ⟨_, rfl⟩
  have h := h t502 ez
  have hP : zs_P g zs_ly zs_N A t502 H := by rw [ez]; exact hP
  clear ez
  refine lv_iinc (k := 5) (v := l5 + 1) hx hb dMO_passStore_87 hl rfl (by rw [show Int32.ofInt (1) = 1 from by decide]) (by decide) rfl (fun ls hl => ?_)
  have hl : lv_has ls 6 [(5, .int (l5 + 1)), (0, .ref (g.2.1 635)), (1, .int l1), (2, .int l2), (3, .int l3), (4, .int l4)] := hl
  refine lv_goto (tgt := 35) hx hb dMO_passStore_90 rfl ?_
  exact hB35 l1 l2 l3 l4 (l5 + 1) t502 h ls H locs (lv_sub hl [1, 2, 3, 4, 5, 0] rfl) hP hS
set_option maxHeartbeats 4000000 in
set_option maxRecDepth 100000 in
theorem zw_MO_passStore_81 (hM : zs_M p c cMO_passStore 6 s m meth args "ThriftyStoresModel" none g)   {K : zs_T → Prop} {B3 : Int32 → Int32 → Int32 → Int32 → zs_T → Prop} {B35 : Int32 → Int32 → Int32 → Int32 → Int32 → zs_T → Prop} (hB3 : ∀ (l1 : Int32) (l2 : Int32) (l3 : Int32) (l4 : Int32) (st : zs_T), B3 l1 l2 l3 l4 st → zs_Go p l e (zs_rm 1 23) s m args below meth c g A (MQ below (zs_Qv g zs_ly zs_N A K) args s 0 0 A) 6 3 [(0, .ref (g.2.1 635)), (1, .int l1), (2, .int l2), (3, .int l3), (4, .int l4)] [] st) (hB35 : ∀ (l1 : Int32) (l2 : Int32) (l3 : Int32) (l4 : Int32) (l5 : Int32) (st : zs_T), B35 l1 l2 l3 l4 l5 st → zs_Go p l e (zs_rm 1 23) s m args below meth c g A (MQ below (zs_Qv g zs_ly zs_N A K) args s 0 0 A) 6 35 [(0, .ref (g.2.1 635)), (1, .int l1), (2, .int l2), (3, .int l3), (4, .int l4), (5, .int l5)] [] st) (l1 : Int32) (l2 : Int32) (l3 : Int32) (l4 : Int32) (l5 : Int32) (s0 : Int32) (st : zs_T) (h : zf_MO_passStore_81 K B3 B35 l1 l2 l3 l4 l5 s0 st) : zs_Go p l e (zs_rm 1 23) s m args below meth c g A (MQ below (zs_Qv g zs_ly zs_N A K) args s 0 0 A) 6 81 [(0, .ref (g.2.1 635)), (1, .int l1), (2, .int l2), (3, .int l3), (4, .int l4), (5, .int l5)] [.int s0, .ref (g.2.1 649)] st := by
  obtain ⟨hx, hb, hml, hr, hlk, hts, hown, hK⟩ := id hM
  intro ls H locs hl hP hS
  unfold zf_MO_passStore_81 at h
  refine lv_iconst (v := 1) hx hb dMO_passStore_81 (by decide) ?_
  refine lv_goto (tgt := 86) hx hb dMO_passStore_82 rfl ?_
  exact zw_MO_passStore_86 hM hB3 hB35 l1 l2 l3 l4 l5 1 s0 st h ls H locs (lv_sub hl [0, 1, 2, 3, 4, 5] rfl) hP hS
set_option maxHeartbeats 4000000 in
set_option maxRecDepth 100000 in
theorem zw_MO_passStore_93 (hM : zs_M p c cMO_passStore 6 s m meth args "ThriftyStoresModel" none g)   {K : zs_T → Prop} {B3 : Int32 → Int32 → Int32 → Int32 → zs_T → Prop} (hB3 : ∀ (l1 : Int32) (l2 : Int32) (l3 : Int32) (l4 : Int32) (st : zs_T), B3 l1 l2 l3 l4 st → zs_Go p l e (zs_rm 1 23) s m args below meth c g A (MQ below (zs_Qv g zs_ly zs_N A K) args s 0 0 A) 6 3 [(0, .ref (g.2.1 635)), (1, .int l1), (2, .int l2), (3, .int l3), (4, .int l4)] [] st) (l1 : Int32) (l2 : Int32) (l3 : Int32) (l4 : Int32) (st : zs_T) (h : zf_MO_passStore_93 K B3 l1 l2 l3 l4 st) : zs_Go p l e (zs_rm 1 23) s m args below meth c g A (MQ below (zs_Qv g zs_ly zs_N A K) args s 0 0 A) 6 93 [(0, .ref (g.2.1 635)), (1, .int l1), (2, .int l2), (3, .int l3), (4, .int l4)] [] st := by
  obtain ⟨hx, hb, hml, hr, hlk, hts, hown, hK⟩ := id hM
  intro ls H locs hl hP hS
  unfold zf_MO_passStore_93 at h
  refine lv_iinc (k := 4) (v := l4 + 1) hx hb dMO_passStore_93 hl rfl (by rw [show Int32.ofInt (1) = 1 from by decide]) (by decide) rfl (fun ls hl => ?_)
  have hl : lv_has ls 6 [(4, .int (l4 + 1)), (0, .ref (g.2.1 635)), (1, .int l1), (2, .int l2), (3, .int l3)] := hl
  refine lv_goto (tgt := 3) hx hb dMO_passStore_96 rfl ?_
  exact hB3 l1 l2 l3 (l4 + 1) st h ls H locs (lv_sub hl [1, 2, 3, 4, 0] rfl) hP hS
set_option maxHeartbeats 4000000 in
set_option maxRecDepth 100000 in
theorem zw_MO_passStore_35_s (hM : zs_M p c cMO_passStore 6 s m meth args "ThriftyStoresModel" none g)   {K : zs_T → Prop} {B3 : Int32 → Int32 → Int32 → Int32 → zs_T → Prop} {B35 : Int32 → Int32 → Int32 → Int32 → Int32 → zs_T → Prop} (hB3 : ∀ (l1 : Int32) (l2 : Int32) (l3 : Int32) (l4 : Int32) (st : zs_T), B3 l1 l2 l3 l4 st → zs_Go p l e (zs_rm 1 23) s m args below meth c g A (MQ below (zs_Qv g zs_ly zs_N A K) args s 0 0 A) 6 3 [(0, .ref (g.2.1 635)), (1, .int l1), (2, .int l2), (3, .int l3), (4, .int l4)] [] st) (hB35 : ∀ (l1 : Int32) (l2 : Int32) (l3 : Int32) (l4 : Int32) (l5 : Int32) (st : zs_T), B35 l1 l2 l3 l4 l5 st → zs_Go p l e (zs_rm 1 23) s m args below meth c g A (MQ below (zs_Qv g zs_ly zs_N A K) args s 0 0 A) 6 35 [(0, .ref (g.2.1 635)), (1, .int l1), (2, .int l2), (3, .int l3), (4, .int l4), (5, .int l5)] [] st) (l1 : Int32) (l2 : Int32) (l3 : Int32) (l4 : Int32) (l5 : Int32) (st : zs_T) (h : zf_MO_passStore_35_s K B3 B35 l1 l2 l3 l4 l5 st) : zs_Go p l e (zs_rm 1 23) s m args below meth c g A (MQ below (zs_Qv g zs_ly zs_N A K) args s 0 0 A) 6 35 [(0, .ref (g.2.1 635)), (1, .int l1), (2, .int l2), (3, .int l3), (4, .int l4), (5, .int l5)] [] st := by
  obtain ⟨hx, hb, hml, hr, hlk, hts, hown, hK⟩ := id hM
  intro ls H locs hl hP hS
  unfold zf_MO_passStore_35_s at h
  refine lv_iload hx hb dMO_passStore_35 (lv_at hl 5 rfl) ?_
  refine lv_bipush (v := 16) hx hb dMO_passStore_37 (by decide) ?_
  refine lv_icmp_ge (tgt := 93) hx hb dMO_passStore_39 rfl (fun hc => ?_) (fun hc => ?_)
  · have h := h.1 hc
    clear hc
    exact zw_MO_passStore_93 hM hB3 l1 l2 l3 l4 st h ls H locs (lv_sub hl [0, 1, 2, 3, 4] rfl) hP hS
  · have h := h.2 hc
    clear hc
    refine lv_aload_n hx hb dMO_passStore_42 rfl (lv_at hl 0 rfl) ?_
    refine zr_getr (b := 649) hx hb hts zi_MO hown hK.1 hP zl_635.1 zl_635.2 rfl 18 (by decide) rfl (hts _ zq_751) dMO_passStore_43 ?_
    refine lv_bipush (v := 16) hx hb dMO_passStore_46 (by decide) ?_
    refine lv_iload hx hb dMO_passStore_48 (lv_at hl 4 rfl) ?_
    refine lv_imul hx hb dMO_passStore_50 ?_
    refine lv_iload hx hb dMO_passStore_51 (lv_at hl 5 rfl) ?_
    refine lv_iadd hx hb dMO_passStore_53 ?_
    refine lv_aload_n hx hb dMO_passStore_54 rfl (lv_at hl 0 rfl) ?_
    refine zr_getr (b := 649) hx hb hts zi_MO hown hK.1 hP zl_635.1 zl_635.2 rfl 18 (by decide) rfl (hts _ zq_751) dMO_passStore_55 ?_
    refine lv_bipush (v := 16) hx hb dMO_passStore_58 (by decide) ?_
    refine lv_iload hx hb dMO_passStore_60 (lv_at hl 4 rfl) ?_
    refine lv_imul hx hb dMO_passStore_62 ?_
    refine lv_iload hx hb dMO_passStore_63 (lv_at hl 5 rfl) ?_
    refine lv_iadd hx hb dMO_passStore_65 ?_
    obtain ⟨hi201, h⟩ := h
    refine zr_zald hx hb hK.1 hP zl_649.1 zl_649.2 hi201 dMO_passStore_66 ?_
    refine lv_if_ne (tgt := 81) hx hb dMO_passStore_67 rfl (fun hc => ?_) (fun hc => ?_)
    · have h := h.1 hc
      clear hc
      exact zw_MO_passStore_81 hM hB3 hB35 l1 l2 l3 l4 l5 ((16 * l4) + l5) st h ls H locs (lv_sub hl [0, 1, 2, 3, 4, 5] rfl) hP hS
    · have h := h.2 hc
      clear hc
      refine lv_aload_n hx hb dMO_passStore_70 rfl (lv_at hl 0 rfl) ?_
      refine lv_iload_n hx hb dMO_passStore_71 rfl (lv_at hl 1 rfl) ?_
      refine lv_iload_n hx hb dMO_passStore_72 rfl (lv_at hl 3 rfl) ?_
      refine lv_iload hx hb dMO_passStore_73 (lv_at hl 5 rfl) ?_
      refine zr_calli (va_runV (As := [.int l1, .int l3, .int l5]) (rest := [.int ((16 * l4) + l5), .ref (g.2.1 649)]) ⟨hx, hb, hml, hown, hts⟩ (zc_MO_one l g A  h) (cwV 3 hts (zs_gV zq_901 zq_903 zp_47 zq_8 zq_904) rfl rfl rfl ⟨rfl, by decide, by decide, by decide +kernel⟩ ⟨Nat.le_of_ble_eq_true rfl, Nat.le_of_ble_eq_true rfl⟩) (zs_preV zs_nwk hK hP zl_635.1 zl_635.2 rfl) rfl rfl hl.1 rfl (lv_room (Nat.le_of_ble_eq_true rfl)) dMO_passStore_75 ⟨Nat.le_refl _, Nat.le_refl _⟩) hS (fun r203 u202 H locs h hP hS => ?_)
      refine lv_if_eq (tgt := 85) hx hb dMO_passStore_78 rfl (fun hc => ?_) (fun hc => ?_)
      · have h := h.1 hc
        clear hc
        refine lv_iconst (v := 0) hx hb dMO_passStore_85 (by decide) ?_
        exact zw_MO_passStore_86 hM hB3 hB35 l1 l2 l3 l4 l5 0 ((16 * l4) + l5) u202 h ls H locs (lv_sub hl [0, 1, 2, 3, 4, 5] rfl) hP hS
      · have h := h.2 hc
        clear hc
        exact zw_MO_passStore_81 hM hB3 hB35 l1 l2 l3 l4 l5 ((16 * l4) + l5) u202 h ls H locs (lv_sub hl [0, 1, 2, 3, 4, 5] rfl) hP hS
theorem zw_MO_passStore_35 (hM : zs_M p c cMO_passStore 6 s m meth args "ThriftyStoresModel" none g)   {K : zs_T → Prop} {B3 : Int32 → Int32 → Int32 → Int32 → zs_T → Prop} (hB3 : ∀ (l1 : Int32) (l2 : Int32) (l3 : Int32) (l4 : Int32) (st : zs_T), B3 l1 l2 l3 l4 st → zs_Go p l e (zs_rm 1 23) s m args below meth c g A (MQ below (zs_Qv g zs_ly zs_N A K) args s 0 0 A) 6 3 [(0, .ref (g.2.1 635)), (1, .int l1), (2, .int l2), (3, .int l3), (4, .int l4)] [] st) : ∀ (n : Nat) (l1 : Int32) (l2 : Int32) (l3 : Int32) (l4 : Int32) (l5 : Int32) (st : zs_T), zf_MO_passStore_35 K B3 n l1 l2 l3 l4 l5 st → zs_Go p l e (zs_rm 1 23) s m args below meth c g A (MQ below (zs_Qv g zs_ly zs_N A K) args s 0 0 A) 6 35 [(0, .ref (g.2.1 635)), (1, .int l1), (2, .int l2), (3, .int l3), (4, .int l4), (5, .int l5)] [] st := by
  intro n
  induction n with
  | zero => intro l1 l2 l3 l4 l5 st h; exact False.elim h
  | succ n ih => intro l1 l2 l3 l4 l5 st h; exact zw_MO_passStore_35_s hM hB3 ih l1 l2 l3 l4 l5 st h
set_option maxHeartbeats 4000000 in
set_option maxRecDepth 100000 in
theorem zw_MO_passStore_3_s (hM : zs_M p c cMO_passStore 6 s m meth args "ThriftyStoresModel" none g)   {K : zs_T → Prop}  {B3 : Int32 → Int32 → Int32 → Int32 → zs_T → Prop}  (hB3 : ∀ (l1 : Int32) (l2 : Int32) (l3 : Int32) (l4 : Int32) (st : zs_T), B3 l1 l2 l3 l4 st → zs_Go p l e (zs_rm 1 23) s m args below meth c g A (MQ below (zs_Qv g zs_ly zs_N A K) args s 0 0 A) 6 3 [(0, .ref (g.2.1 635)), (1, .int l1), (2, .int l2), (3, .int l3), (4, .int l4)] [] st) (l1 : Int32) (l2 : Int32) (l3 : Int32) (l4 : Int32) (st : zs_T) (h : zf_MO_passStore_3_s K B3 l1 l2 l3 l4 st) : zs_Go p l e (zs_rm 1 23) s m args below meth c g A (MQ below (zs_Qv g zs_ly zs_N A K) args s 0 0 A) 6 3 [(0, .ref (g.2.1 635)), (1, .int l1), (2, .int l2), (3, .int l3), (4, .int l4)] [] st := by
  obtain ⟨hx, hb, hml, hr, hlk, hts, hown, hK⟩ := id hM
  intro ls H locs hl hP hS
  unfold zf_MO_passStore_3_s at h
  refine lv_iload hx hb dMO_passStore_3 (lv_at hl 4 rfl) ?_
  refine lv_bipush (v := 16) hx hb dMO_passStore_5 (by decide) ?_
  refine lv_icmp_ge (tgt := 99) hx hb dMO_passStore_7 rfl (fun hc => ?_) (fun hc => ?_)
  · have h := h.1 hc
    clear hc
    exact zr_vret hx hb hr hlk hP hS h dMO_passStore_99
  · have h := h.2 hc
    clear hc
    refine lv_aload_n hx hb dMO_passStore_10 rfl (lv_at hl 0 rfl) ?_
    refine lv_iload_n hx hb dMO_passStore_11 rfl (lv_at hl 1 rfl) ?_
    refine lv_iload_n hx hb dMO_passStore_12 rfl (lv_at hl 2 rfl) ?_
    refine lv_iload hx hb dMO_passStore_13 (lv_at hl 4 rfl) ?_
    refine zr_calli (va_runV (As := [.int l1, .int l2, .int l4]) (rest := []) ⟨hx, hb, hml, hown, hts⟩ (zc_MO_one l g A  h) (cwV 3 hts (zs_gV zq_901 zq_903 zp_47 zq_8 zq_904) rfl rfl rfl ⟨rfl, by decide, by decide, by decide +kernel⟩ ⟨Nat.le_of_ble_eq_true rfl, Nat.le_of_ble_eq_true rfl⟩) (zs_preV zs_nwk hK hP zl_635.1 zl_635.2 rfl) rfl rfl hl.1 rfl (lv_room (Nat.le_of_ble_eq_true rfl)) dMO_passStore_15 ⟨Nat.le_refl _, Nat.le_refl _⟩) hS (fun r102 u101 H locs h hP hS => ?_)
    refine lv_if_ne (tgt := 24) hx hb dMO_passStore_18 rfl (fun hc => ?_) (fun hc => ?_)
    · have h := h.1 hc
      clear hc
      refine lv_aload_n hx hb dMO_passStore_24 rfl (lv_at hl 0 rfl) ?_
      refine zr_getr (b := 650) hx hb hts zi_MO hown hK.1 hP zl_635.1 zl_635.2 rfl 19 (by decide) rfl (hts _ zq_752) dMO_passStore_25 ?_
      refine lv_iload hx hb dMO_passStore_28 (lv_at hl 4 rfl) ?_
      refine lv_iconst (v := 1) hx hb dMO_passStore_30 (by decide) ?_
      obtain ⟨hi103, h⟩ := h
      refine zr_zast hx hb hK.1 hP hS zl_650.1 zl_650.2 hi103 dMO_passStore_31 (fun H locs hP hS => ?_)
      obtain ⟨t104, ez⟩ : ∃ tz : zs_T, tz = zs_i u101 650 l4.toNatClampNeg (vp_nar .boolean 1) := ⟨_, rfl⟩
      have h := h t104 ez
      have hP : zs_P g zs_ly zs_N A t104 H := by rw [ez]; exact hP
      clear ez
      refine lv_iconst (v := 0) hx hb dMO_passStore_32 (by decide) ?_
      refine lv_istore hx hb dMO_passStore_33 hl (by decide) rfl (fun ls hl => ?_)
      have hl : lv_has ls 6 [(5, .int 0), (0, .ref (g.2.1 635)), (1, .int l1), (2, .int l2), (3, .int l3), (4, .int l4)] := hl
      obtain ⟨n, h⟩ := h
      exact zw_MO_passStore_35 hM hB3 n l1 l2 l3 l4 0 t104 h ls H locs (lv_sub hl [1, 2, 3, 4, 5, 0] rfl) hP hS
    · have h := h.2 hc
      clear hc
      refine lv_goto (tgt := 93) hx hb dMO_passStore_21 rfl ?_
      exact zw_MO_passStore_93 hM hB3 l1 l2 l3 l4 u101 h ls H locs (lv_sub hl [0, 1, 2, 3, 4] rfl) hP hS
theorem zw_MO_passStore_3 (hM : zs_M p c cMO_passStore 6 s m meth args "ThriftyStoresModel" none g)   {K : zs_T → Prop}   : ∀ (n : Nat) (l1 : Int32) (l2 : Int32) (l3 : Int32) (l4 : Int32) (st : zs_T), zf_MO_passStore_3 K n l1 l2 l3 l4 st → zs_Go p l e (zs_rm 1 23) s m args below meth c g A (MQ below (zs_Qv g zs_ly zs_N A K) args s 0 0 A) 6 3 [(0, .ref (g.2.1 635)), (1, .int l1), (2, .int l2), (3, .int l3), (4, .int l4)] [] st := by
  intro n
  induction n with
  | zero => intro l1 l2 l3 l4 st h; exact False.elim h
  | succ n ih => intro l1 l2 l3 l4 st h; exact zw_MO_passStore_3_s hM  ih l1 l2 l3 l4 st h
set_option maxHeartbeats 4000000 in
set_option maxRecDepth 100000 in
theorem zc_MO_passStore (l : Launch) (g : zs_G) (A : Nat → Prop) {l1 : Int32} {l2 : Int32} {l3 : Int32}  {st : zs_T} {K : zs_T → Prop} (h : zf_MO_passStore l1 l2 l3 st K) : Met l yMO_passStore (.code yMO_passStore cMO_passStore 6 none :: zs_tb) (zs_rm 1 23) (zs_Pc zs_nl g zs_ly zs_N A [.ref (g.2.1 635), .int l1, .int l2, .int l3] st) (zs_Qv g zs_ly zs_N A K) 0 0 A := by
  refine zs_met (cc := cMO_passStore) (maxL := 6) (ret := none) (by decide) (Nat.le_of_ble_eq_true rfl) (fun p e s m below meth c hM => ?_)
  have hM : zs_M p c cMO_passStore 6 s m meth [.ref (g.2.1 635), .int l1, .int l2, .int l3].toArray "ThriftyStoresModel" none g := hM
  obtain ⟨hx, hb, hml, hr, hlk, hts, hown, hK⟩ := id hM
  intro ls H locs hl hP hS
  have hl : lv_has ls 6 [(0, .ref (g.2.1 635)), (1, .int l1), (2, .int l2), (3, .int l3)] := hl
  unfold zf_MO_passStore at h
  refine lv_iconst (v := 0) hx hb dMO_passStore_0 (by decide) ?_
  refine lv_istore hx hb dMO_passStore_1 hl (by decide) rfl (fun ls hl => ?_)
  have hl : lv_has ls 6 [(4, .int 0), (0, .ref (g.2.1 635)), (1, .int l1), (2, .int l2), (3, .int l3)] := hl
  obtain ⟨n, h⟩ := h
  exact zw_MO_passStore_3 hM  n l1 l2 l3 0 st h ls H locs (lv_sub hl [1, 2, 3, 4, 0] rfl) hP hS
set_option maxHeartbeats 4000000 in
set_option maxRecDepth 100000 in
theorem zw_MO_pass_214 (hM : zs_M p c cMO_pass 9 s m meth args "ThriftyStoresModel" none g)   {K : zs_T → Prop} {B58 : Int32 → Int32 → Int32 → Int32 → Int32 → Int32 → zs_T → Prop} {B68 : Int32 → Int32 → Int32 → Int32 → Int32 → Int32 → Int32 → zs_T → Prop} (hB58 : ∀ (l1 : Int32) (l2 : Int32) (l3 : Int32) (l4 : Int32) (l5 : Int32) (l6 : Int32) (st : zs_T), B58 l1 l2 l3 l4 l5 l6 st → zs_Go p l e (zs_rm 2 48) s m args below meth c g A (MQ below (zs_Qv g zs_ly zs_N A K) args s 0 0 A) 9 58 [(0, .ref (g.2.1 635)), (1, .int l1), (2, .int l2), (3, .int l3), (4, .int l4), (5, .int l5), (6, .int l6)] [] st) (hB68 : ∀ (l1 : Int32) (l2 : Int32) (l3 : Int32) (l4 : Int32) (l5 : Int32) (l6 : Int32) (l7 : Int32) (st : zs_T), B68 l1 l2 l3 l4 l5 l6 l7 st → zs_Go p l e (zs_rm 2 48) s m args below meth c g A (MQ below (zs_Qv g zs_ly zs_N A K) args s 0 0 A) 9 68 [(0, .ref (g.2.1 635)), (1, .int l1), (2, .int l2), (3, .int l3), (4, .int l4), (5, .int l5), (6, .int l6), (7, .int l7)] [] st) (l1 : Int32) (l2 : Int32) (l3 : Int32) (l4 : Int32) (l5 : Int32) (l6 : Int32) (l7 : Int32) (s0 : Int32) (s1 : Int32) (st : zs_T) (h : zf_MO_pass_214 K B58 B68 l1 l2 l3 l4 l5 l6 l7 s0 s1 st) : zs_Go p l e (zs_rm 2 48) s m args below meth c g A (MQ below (zs_Qv g zs_ly zs_N A K) args s 0 0 A) 9 214 [(0, .ref (g.2.1 635)), (1, .int l1), (2, .int l2), (3, .int l3), (4, .int l4), (5, .int l5), (6, .int l6), (7, .int l7)] [.int s0, .int s1, .ref (g.2.1 649)] st := by
  obtain ⟨hx, hb, hml, hr, hlk, hts, hown, hK⟩ := id hM
  intro ls H locs hl hP hS
  unfold zf_MO_pass_214 at h
  obtain ⟨hi2001, h⟩ := h
  refine zr_zast hx hb hK.1 hP hS zl_649.1 zl_649.2 hi2001 dMO_pass_214 (fun H locs hP hS => ?_)
  obtain ⟨t2002, ez⟩ : ∃ tz : zs_T, tz = zs_i st 649 s1.toNatClampNeg (vp_nar .boolean s0) := ⟨_, rfl⟩
  have h := h t2002 ez
  have hP : zs_P g zs_ly zs_N A t2002 H := by rw [ez]; exact hP
  clear ez
  refine lv_iinc (k := 7) (v := l7 + 1) hx hb dMO_pass_215 hl rfl (by rw [show Int32.ofInt (1) = 1 from by decide]) (by decide) rfl (fun ls hl => ?_)
  have hl : lv_has ls 9 [(7, .int (l7 + 1)), (0, .ref (g.2.1 635)), (1, .int l1), (2, .int l2), (3, .int l3), (4, .int l4), (5, .int l5), (6, .int l6)] := hl
  refine lv_goto (tgt := 68) hx hb dMO_pass_218 rfl ?_
  exact hB68 l1 l2 l3 l4 l5 l6 (l7 + 1) t2002 h ls H locs (lv_sub hl [1, 2, 3, 4, 5, 6, 7, 0] rfl) hP hS
set_option maxHeartbeats 4000000 in
set_option maxRecDepth 100000 in
theorem zw_MO_pass_209 (hM : zs_M p c cMO_pass 9 s m meth args "ThriftyStoresModel" none g)   {K : zs_T → Prop} {B58 : Int32 → Int32 → Int32 → Int32 → Int32 → Int32 → zs_T → Prop} {B68 : Int32 → Int32 → Int32 → Int32 → Int32 → Int32 → Int32 → zs_T → Prop} (hB58 : ∀ (l1 : Int32) (l2 : Int32) (l3 : Int32) (l4 : Int32) (l5 : Int32) (l6 : Int32) (st : zs_T), B58 l1 l2 l3 l4 l5 l6 st → zs_Go p l e (zs_rm 2 48) s m args below meth c g A (MQ below (zs_Qv g zs_ly zs_N A K) args s 0 0 A) 9 58 [(0, .ref (g.2.1 635)), (1, .int l1), (2, .int l2), (3, .int l3), (4, .int l4), (5, .int l5), (6, .int l6)] [] st) (hB68 : ∀ (l1 : Int32) (l2 : Int32) (l3 : Int32) (l4 : Int32) (l5 : Int32) (l6 : Int32) (l7 : Int32) (st : zs_T), B68 l1 l2 l3 l4 l5 l6 l7 st → zs_Go p l e (zs_rm 2 48) s m args below meth c g A (MQ below (zs_Qv g zs_ly zs_N A K) args s 0 0 A) 9 68 [(0, .ref (g.2.1 635)), (1, .int l1), (2, .int l2), (3, .int l3), (4, .int l4), (5, .int l5), (6, .int l6), (7, .int l7)] [] st) (l1 : Int32) (l2 : Int32) (l3 : Int32) (l4 : Int32) (l5 : Int32) (l6 : Int32) (l7 : Int32) (s0 : Int32) (st : zs_T) (h : zf_MO_pass_209 K B58 B68 l1 l2 l3 l4 l5 l6 l7 s0 st) : zs_Go p l e (zs_rm 2 48) s m args below meth c g A (MQ below (zs_Qv g zs_ly zs_N A K) args s 0 0 A) 9 209 [(0, .ref (g.2.1 635)), (1, .int l1), (2, .int l2), (3, .int l3), (4, .int l4), (5, .int l5), (6, .int l6), (7, .int l7)] [.int s0, .ref (g.2.1 649)] st := by
  obtain ⟨hx, hb, hml, hr, hlk, hts, hown, hK⟩ := id hM
  intro ls H locs hl hP hS
  unfold zf_MO_pass_209 at h
  refine lv_iconst (v := 1) hx hb dMO_pass_209 (by decide) ?_
  refine lv_goto (tgt := 214) hx hb dMO_pass_210 rfl ?_
  exact zw_MO_pass_214 hM hB58 hB68 l1 l2 l3 l4 l5 l6 l7 1 s0 st h ls H locs (lv_sub hl [0, 1, 2, 3, 4, 5, 6, 7] rfl) hP hS
set_option maxHeartbeats 4000000 in
set_option maxRecDepth 100000 in
theorem zw_MO_pass_213 (hM : zs_M p c cMO_pass 9 s m meth args "ThriftyStoresModel" none g)   {K : zs_T → Prop} {B58 : Int32 → Int32 → Int32 → Int32 → Int32 → Int32 → zs_T → Prop} {B68 : Int32 → Int32 → Int32 → Int32 → Int32 → Int32 → Int32 → zs_T → Prop} (hB58 : ∀ (l1 : Int32) (l2 : Int32) (l3 : Int32) (l4 : Int32) (l5 : Int32) (l6 : Int32) (st : zs_T), B58 l1 l2 l3 l4 l5 l6 st → zs_Go p l e (zs_rm 2 48) s m args below meth c g A (MQ below (zs_Qv g zs_ly zs_N A K) args s 0 0 A) 9 58 [(0, .ref (g.2.1 635)), (1, .int l1), (2, .int l2), (3, .int l3), (4, .int l4), (5, .int l5), (6, .int l6)] [] st) (hB68 : ∀ (l1 : Int32) (l2 : Int32) (l3 : Int32) (l4 : Int32) (l5 : Int32) (l6 : Int32) (l7 : Int32) (st : zs_T), B68 l1 l2 l3 l4 l5 l6 l7 st → zs_Go p l e (zs_rm 2 48) s m args below meth c g A (MQ below (zs_Qv g zs_ly zs_N A K) args s 0 0 A) 9 68 [(0, .ref (g.2.1 635)), (1, .int l1), (2, .int l2), (3, .int l3), (4, .int l4), (5, .int l5), (6, .int l6), (7, .int l7)] [] st) (l1 : Int32) (l2 : Int32) (l3 : Int32) (l4 : Int32) (l5 : Int32) (l6 : Int32) (l7 : Int32) (s0 : Int32) (st : zs_T) (h : zf_MO_pass_213 K B58 B68 l1 l2 l3 l4 l5 l6 l7 s0 st) : zs_Go p l e (zs_rm 2 48) s m args below meth c g A (MQ below (zs_Qv g zs_ly zs_N A K) args s 0 0 A) 9 213 [(0, .ref (g.2.1 635)), (1, .int l1), (2, .int l2), (3, .int l3), (4, .int l4), (5, .int l5), (6, .int l6), (7, .int l7)] [.int s0, .ref (g.2.1 649)] st := by
  obtain ⟨hx, hb, hml, hr, hlk, hts, hown, hK⟩ := id hM
  intro ls H locs hl hP hS
  unfold zf_MO_pass_213 at h
  refine lv_iconst (v := 0) hx hb dMO_pass_213 (by decide) ?_
  exact zw_MO_pass_214 hM hB58 hB68 l1 l2 l3 l4 l5 l6 l7 0 s0 st h ls H locs (lv_sub hl [0, 1, 2, 3, 4, 5, 6, 7] rfl) hP hS
set_option maxHeartbeats 4000000 in
set_option maxRecDepth 100000 in
theorem zw_MO_pass_151 (hM : zs_M p c cMO_pass 9 s m meth args "ThriftyStoresModel" none g)   {K : zs_T → Prop} {B58 : Int32 → Int32 → Int32 → Int32 → Int32 → Int32 → zs_T → Prop} {B68 : Int32 → Int32 → Int32 → Int32 → Int32 → Int32 → Int32 → zs_T → Prop} (hB58 : ∀ (l1 : Int32) (l2 : Int32) (l3 : Int32) (l4 : Int32) (l5 : Int32) (l6 : Int32) (st : zs_T), B58 l1 l2 l3 l4 l5 l6 st → zs_Go p l e (zs_rm 2 48) s m args below meth c g A (MQ below (zs_Qv g zs_ly zs_N A K) args s 0 0 A) 9 58 [(0, .ref (g.2.1 635)), (1, .int l1), (2, .int l2), (3, .int l3), (4, .int l4), (5, .int l5), (6, .int l6)] [] st) (hB68 : ∀ (l1 : Int32) (l2 : Int32) (l3 : Int32) (l4 : Int32) (l5 : Int32) (l6 : Int32) (l7 : Int32) (st : zs_T), B68 l1 l2 l3 l4 l5 l6 l7 st → zs_Go p l e (zs_rm 2 48) s m args below meth c g A (MQ below (zs_Qv g zs_ly zs_N A K) args s 0 0 A) 9 68 [(0, .ref (g.2.1 635)), (1, .int l1), (2, .int l2), (3, .int l3), (4, .int l4), (5, .int l5), (6, .int l6), (7, .int l7)] [] st) (l1 : Int32) (l2 : Int32) (l3 : Int32) (l4 : Int32) (l5 : Int32) (l6 : Int32) (l7 : Int32) (l8 : Int32) (s0 : Int32) (s1 : Int32) (st : zs_T) (h : zf_MO_pass_151 K B58 B68 l1 l2 l3 l4 l5 l6 l7 l8 s0 s1 st) : zs_Go p l e (zs_rm 2 48) s m args below meth c g A (MQ below (zs_Qv g zs_ly zs_N A K) args s 0 0 A) 9 151 [(0, .ref (g.2.1 635)), (1, .int l1), (2, .int l2), (3, .int l3), (4, .int l4), (5, .int l5), (6, .int l6), (7, .int l7), (8, .int l8)] [.int s0, .int s1, .ref (g.2.1 648)] st := by
  obtain ⟨hx, hb, hml, hr, hlk, hts, hown, hK⟩ := id hM
  intro ls H locs hl hP hS
  unfold zf_MO_pass_151 at h
  obtain ⟨hi1701, h⟩ := h
  refine zr_zast hx hb hK.1 hP hS zl_648.1 zl_648.2 hi1701 dMO_pass_151 (fun H locs hP hS => ?_)
  obtain ⟨t1702, ez⟩ : ∃ tz : zs_T, tz = zs_i st 648 s1.toNatClampNeg (vp_nar .boolean s0) := ⟨_, rfl⟩
  have h := h t1702 ez
  have hP : zs_P g zs_ly zs_N A t1702 H := by rw [ez]; exact hP
  clear ez
  refine lv_aload_n hx hb dMO_pass_152 rfl (lv_at hl 0 rfl) ?_
  refine zr_getr (b := 649) hx hb hts zi_MO hown hK.1 hP zl_635.1 zl_635.2 rfl 18 (by decide) rfl (hts _ zq_751) dMO_pass_153 ?_
  refine lv_bipush (v := 16) hx hb dMO_pass_156 (by decide) ?_
  refine lv_iload hx hb dMO_pass_158 (lv_at hl 6 rfl) ?_
  refine lv_imul hx hb dMO_pass_160 ?_
  refine lv_iload hx hb dMO_pass_161 (lv_at hl 7 rfl) ?_
  refine lv_iadd hx hb dMO_pass_163 ?_
  refine lv_aload_n hx hb dMO_pass_164 rfl (lv_at hl 0 rfl) ?_
  refine lv_iload_n hx hb dMO_pass_165 rfl (lv_at hl 1 rfl) ?_
  refine lv_iload hx hb dMO_pass_166 (lv_at hl 6 rfl) ?_
  refine lv_iload hx hb dMO_pass_168 (lv_at hl 7 rfl) ?_
  refine zr_calli (va_runV (As := [.int l1, .int l6, .int l7]) (rest := [.int ((16 * l6) + l7), .ref (g.2.1 649)]) ⟨hx, hb, hml, hown, hts⟩ (zc_MO_held l g A  h) (cwV 3 hts (zs_gV zq_893 zq_895 zp_45 zq_8 zq_896) rfl rfl rfl ⟨rfl, by decide, by decide, by decide +kernel⟩ ⟨Nat.le_of_ble_eq_true rfl, Nat.le_of_ble_eq_true rfl⟩) (zs_preV zs_nwk hK hP zl_635.1 zl_635.2 rfl) rfl rfl hl.1 rfl (lv_room (Nat.le_of_ble_eq_true rfl)) dMO_pass_170 ⟨Nat.le_refl _, Nat.le_refl _⟩) hS (fun r1704 u1703 H locs h hP hS => ?_)
  refine lv_if_eq (tgt := 213) hx hb dMO_pass_173 rfl (fun hc => ?_) (fun hc => ?_)
  · have h := h.1 hc
    clear hc
    exact zw_MO_pass_213 hM hB58 hB68 l1 l2 l3 l4 l5 l6 l7 ((16 * l6) + l7) u1703 h ls H locs (lv_sub hl [0, 1, 2, 3, 4, 5, 6, 7] rfl) hP hS
  · have h := h.2 hc
    clear hc
    refine lv_iload hx hb dMO_pass_176 (lv_at hl 8 rfl) ?_
    refine lv_if_ne (tgt := 213) hx hb dMO_pass_178 rfl (fun hc => ?_) (fun hc => ?_)
    · have h := h.1 hc
      clear hc
      exact zw_MO_pass_213 hM hB58 hB68 l1 l2 l3 l4 l5 l6 l7 ((16 * l6) + l7) u1703 h ls H locs (lv_sub hl [0, 1, 2, 3, 4, 5, 6, 7] rfl) hP hS
    · have h := h.2 hc
      clear hc
      refine lv_iload_n hx hb dMO_pass_181 rfl (lv_at hl 2 rfl) ?_
      refine lv_bipush (v := 10) hx hb dMO_pass_182 (by decide) ?_
      refine lv_icmp_ne (tgt := 209) hx hb dMO_pass_184 rfl (fun hc => ?_) (fun hc => ?_)
      · have h := h.1 hc
        clear hc
        exact zw_MO_pass_209 hM hB58 hB68 l1 l2 l3 l4 l5 l6 l7 ((16 * l6) + l7) u1703 h ls H locs (lv_sub hl [0, 1, 2, 3, 4, 5, 6, 7] rfl) hP hS
      · have h := h.2 hc
        clear hc
        refine lv_aload_n hx hb dMO_pass_187 rfl (lv_at hl 0 rfl) ?_
        refine lv_iload hx hb dMO_pass_188 (lv_at hl 6 rfl) ?_
        refine lv_iload_n hx hb dMO_pass_190 rfl (lv_at hl 3 rfl) ?_
        refine zr_calli (va_runV (As := [.int l6, .int l3]) (rest := [.int ((16 * l6) + l7), .ref (g.2.1 649)]) ⟨hx, hb, hml, hown, hts⟩ (zc_MO_meet l g A  h) (cwV 2 hts (zs_gV zq_897 zq_899 zp_46 zq_8 zq_900) rfl rfl rfl ⟨rfl, by decide, by decide, by decide +kernel⟩ ⟨Nat.le_of_ble_eq_true rfl, Nat.le_of_ble_eq_true rfl⟩) (zs_preV zs_nwk hK hP zl_635.1 zl_635.2 rfl) rfl rfl hl.1 rfl (lv_room (Nat.le_of_ble_eq_true rfl)) dMO_pass_191 ⟨Nat.le_refl _, Nat.le_refl _⟩) hS (fun r1706 u1705 H locs h hP hS => ?_)
        refine lv_if_eq (tgt := 209) hx hb dMO_pass_194 rfl (fun hc => ?_) (fun hc => ?_)
        · have h := h.1 hc
          clear hc
          exact zw_MO_pass_209 hM hB58 hB68 l1 l2 l3 l4 l5 l6 l7 ((16 * l6) + l7) u1705 h ls H locs (lv_sub hl [0, 1, 2, 3, 4, 5, 6, 7] rfl) hP hS
        · have h := h.2 hc
          clear hc
          refine lv_aload_n hx hb dMO_pass_197 rfl (lv_at hl 0 rfl) ?_
          refine lv_iload_n hx hb dMO_pass_198 rfl (lv_at hl 1 rfl) ?_
          refine lv_iload hx hb dMO_pass_199 (lv_at hl 7 rfl) ?_
          refine lv_iload hx hb dMO_pass_201 (lv_at hl 4 rfl) ?_
          refine zr_calli (va_runV (As := [.int l1, .int l7, .int l4]) (rest := [.int ((16 * l6) + l7), .ref (g.2.1 649)]) ⟨hx, hb, hml, hown, hts⟩ (zc_MO_one l g A  h) (cwV 3 hts (zs_gV zq_901 zq_903 zp_47 zq_8 zq_904) rfl rfl rfl ⟨rfl, by decide, by decide, by decide +kernel⟩ ⟨Nat.le_of_ble_eq_true rfl, Nat.le_of_ble_eq_true rfl⟩) (zs_preV zs_nwk hK hP zl_635.1 zl_635.2 rfl) rfl rfl hl.1 rfl (lv_room (Nat.le_of_ble_eq_true rfl)) dMO_pass_203 ⟨Nat.le_refl _, Nat.le_refl _⟩) hS (fun r1708 u1707 H locs h hP hS => ?_)
          refine lv_if_eq (tgt := 213) hx hb dMO_pass_206 rfl (fun hc => ?_) (fun hc => ?_)
          · have h := h.1 hc
            clear hc
            exact zw_MO_pass_213 hM hB58 hB68 l1 l2 l3 l4 l5 l6 l7 ((16 * l6) + l7) u1707 h ls H locs (lv_sub hl [0, 1, 2, 3, 4, 5, 6, 7] rfl) hP hS
          · have h := h.2 hc
            clear hc
            exact zw_MO_pass_209 hM hB58 hB68 l1 l2 l3 l4 l5 l6 l7 ((16 * l6) + l7) u1707 h ls H locs (lv_sub hl [0, 1, 2, 3, 4, 5, 6, 7] rfl) hP hS
set_option maxHeartbeats 4000000 in
set_option maxRecDepth 100000 in
theorem zw_MO_pass_150 (hM : zs_M p c cMO_pass 9 s m meth args "ThriftyStoresModel" none g)   {K : zs_T → Prop} {B58 : Int32 → Int32 → Int32 → Int32 → Int32 → Int32 → zs_T → Prop} {B68 : Int32 → Int32 → Int32 → Int32 → Int32 → Int32 → Int32 → zs_T → Prop} (hB58 : ∀ (l1 : Int32) (l2 : Int32) (l3 : Int32) (l4 : Int32) (l5 : Int32) (l6 : Int32) (st : zs_T), B58 l1 l2 l3 l4 l5 l6 st → zs_Go p l e (zs_rm 2 48) s m args below meth c g A (MQ below (zs_Qv g zs_ly zs_N A K) args s 0 0 A) 9 58 [(0, .ref (g.2.1 635)), (1, .int l1), (2, .int l2), (3, .int l3), (4, .int l4), (5, .int l5), (6, .int l6)] [] st) (hB68 : ∀ (l1 : Int32) (l2 : Int32) (l3 : Int32) (l4 : Int32) (l5 : Int32) (l6 : Int32) (l7 : Int32) (st : zs_T), B68 l1 l2 l3 l4 l5 l6 l7 st → zs_Go p l e (zs_rm 2 48) s m args below meth c g A (MQ below (zs_Qv g zs_ly zs_N A K) args s 0 0 A) 9 68 [(0, .ref (g.2.1 635)), (1, .int l1), (2, .int l2), (3, .int l3), (4, .int l4), (5, .int l5), (6, .int l6), (7, .int l7)] [] st) (l1 : Int32) (l2 : Int32) (l3 : Int32) (l4 : Int32) (l5 : Int32) (l6 : Int32) (l7 : Int32) (l8 : Int32) (s0 : Int32) (st : zs_T) (h : zf_MO_pass_150 K B58 B68 l1 l2 l3 l4 l5 l6 l7 l8 s0 st) : zs_Go p l e (zs_rm 2 48) s m args below meth c g A (MQ below (zs_Qv g zs_ly zs_N A K) args s 0 0 A) 9 150 [(0, .ref (g.2.1 635)), (1, .int l1), (2, .int l2), (3, .int l3), (4, .int l4), (5, .int l5), (6, .int l6), (7, .int l7), (8, .int l8)] [.int s0, .ref (g.2.1 648)] st := by
  obtain ⟨hx, hb, hml, hr, hlk, hts, hown, hK⟩ := id hM
  intro ls H locs hl hP hS
  unfold zf_MO_pass_150 at h
  refine lv_iconst (v := 0) hx hb dMO_pass_150 (by decide) ?_
  exact zw_MO_pass_151 hM hB58 hB68 l1 l2 l3 l4 l5 l6 l7 l8 0 s0 st h ls H locs (lv_sub hl [0, 1, 2, 3, 4, 5, 6, 7, 8] rfl) hP hS
set_option maxHeartbeats 4000000 in
set_option maxRecDepth 100000 in
theorem zw_MO_pass_105 (hM : zs_M p c cMO_pass 9 s m meth args "ThriftyStoresModel" none g)   {K : zs_T → Prop} {B58 : Int32 → Int32 → Int32 → Int32 → Int32 → Int32 → zs_T → Prop} {B68 : Int32 → Int32 → Int32 → Int32 → Int32 → Int32 → Int32 → zs_T → Prop} (hB58 : ∀ (l1 : Int32) (l2 : Int32) (l3 : Int32) (l4 : Int32) (l5 : Int32) (l6 : Int32) (st : zs_T), B58 l1 l2 l3 l4 l5 l6 st → zs_Go p l e (zs_rm 2 48) s m args below meth c g A (MQ below (zs_Qv g zs_ly zs_N A K) args s 0 0 A) 9 58 [(0, .ref (g.2.1 635)), (1, .int l1), (2, .int l2), (3, .int l3), (4, .int l4), (5, .int l5), (6, .int l6)] [] st) (hB68 : ∀ (l1 : Int32) (l2 : Int32) (l3 : Int32) (l4 : Int32) (l5 : Int32) (l6 : Int32) (l7 : Int32) (st : zs_T), B68 l1 l2 l3 l4 l5 l6 l7 st → zs_Go p l e (zs_rm 2 48) s m args below meth c g A (MQ below (zs_Qv g zs_ly zs_N A K) args s 0 0 A) 9 68 [(0, .ref (g.2.1 635)), (1, .int l1), (2, .int l2), (3, .int l3), (4, .int l4), (5, .int l5), (6, .int l6), (7, .int l7)] [] st) (l1 : Int32) (l2 : Int32) (l3 : Int32) (l4 : Int32) (l5 : Int32) (l6 : Int32) (l7 : Int32) (s0 : Int32) (st : zs_T) (h : zf_MO_pass_105 K B58 B68 l1 l2 l3 l4 l5 l6 l7 s0 st) : zs_Go p l e (zs_rm 2 48) s m args below meth c g A (MQ below (zs_Qv g zs_ly zs_N A K) args s 0 0 A) 9 105 [(0, .ref (g.2.1 635)), (1, .int l1), (2, .int l2), (3, .int l3), (4, .int l4), (5, .int l5), (6, .int l6), (7, .int l7)] [.int s0] st := by
  obtain ⟨hx, hb, hml, hr, hlk, hts, hown, hK⟩ := id hM
  intro ls H locs hl hP hS
  unfold zf_MO_pass_105 at h
  refine lv_istore hx hb dMO_pass_105 hl (by decide) rfl (fun ls hl => ?_)
  have hl : lv_has ls 9 [(8, .int s0), (0, .ref (g.2.1 635)), (1, .int l1), (2, .int l2), (3, .int l3), (4, .int l4), (5, .int l5), (6, .int l6), (7, .int l7)] := hl
  refine lv_aload_n hx hb dMO_pass_107 rfl (lv_at hl 1 rfl) ?_
  refine zr_getr (b := 648) hx hb hts zi_MO hown hK.1 hP zl_635.1 zl_635.2 rfl 17 (by decide) rfl (hts _ zq_750) dMO_pass_108 ?_
  refine lv_bipush (v := 16) hx hb dMO_pass_111 (by decide) ?_
  refine lv_iload hx hb dMO_pass_113 (lv_at hl 7 rfl) ?_
  refine lv_imul hx hb dMO_pass_115 ?_
  refine lv_iload hx hb dMO_pass_116 (lv_at hl 8 rfl) ?_
  refine lv_iadd hx hb dMO_pass_118 ?_
  refine lv_aload_n hx hb dMO_pass_119 rfl (lv_at hl 1 rfl) ?_
  refine zr_getr (b := 644) hx hb hts zi_MO hown hK.1 hP zl_635.1 zl_635.2 rfl 13 (by decide) rfl (hts _ zq_746) dMO_pass_120 ?_
  refine lv_sipush (v := 256) hx hb dMO_pass_123 (by decide) ?_
  refine lv_iload_n hx hb dMO_pass_126 rfl (lv_at hl 2 rfl) ?_
  refine lv_imul hx hb dMO_pass_127 ?_
  refine lv_bipush (v := 16) hx hb dMO_pass_128 (by decide) ?_
  refine lv_iload hx hb dMO_pass_130 (lv_at hl 7 rfl) ?_
  refine lv_imul hx hb dMO_pass_132 ?_
  refine lv_iadd hx hb dMO_pass_133 ?_
  refine lv_iload hx hb dMO_pass_134 (lv_at hl 8 rfl) ?_
  refine lv_iadd hx hb dMO_pass_136 ?_
  obtain ⟨hi1401, h⟩ := h
  refine zr_zald hx hb hK.1 hP zl_644.1 zl_644.2 hi1401 dMO_pass_137 ?_
  refine lv_if_eq (tgt := 150) hx hb dMO_pass_138 rfl (fun hc => ?_) (fun hc => ?_)
  · have h := h.1 hc
    clear hc
    exact zw_MO_pass_150 hM hB58 hB68 l1 l2 l3 l4 l5 l6 l7 s0 ((16 * l6) + l7) st h ls H locs (lv_sub hl [1, 2, 3, 4, 5, 6, 7, 8, 0] rfl) hP hS
  · have h := h.2 hc
    clear hc
    refine lv_iload hx hb dMO_pass_141 (lv_at hl 0 rfl) ?_
    refine lv_if_ne (tgt := 150) hx hb dMO_pass_143 rfl (fun hc => ?_) (fun hc => ?_)
    · have h := h.1 hc
      clear hc
      exact zw_MO_pass_150 hM hB58 hB68 l1 l2 l3 l4 l5 l6 l7 s0 ((16 * l6) + l7) st h ls H locs (lv_sub hl [1, 2, 3, 4, 5, 6, 7, 8, 0] rfl) hP hS
    · have h := h.2 hc
      clear hc
      refine lv_iconst (v := 1) hx hb dMO_pass_146 (by decide) ?_
      refine lv_goto (tgt := 151) hx hb dMO_pass_147 rfl ?_
      exact zw_MO_pass_151 hM hB58 hB68 l1 l2 l3 l4 l5 l6 l7 s0 1 ((16 * l6) + l7) st h ls H locs (lv_sub hl [1, 2, 3, 4, 5, 6, 7, 8, 0] rfl) hP hS
set_option maxHeartbeats 4000000 in
set_option maxRecDepth 100000 in
theorem zw_MO_pass_100 (hM : zs_M p c cMO_pass 9 s m meth args "ThriftyStoresModel" none g)   {K : zs_T → Prop} {B58 : Int32 → Int32 → Int32 → Int32 → Int32 → Int32 → zs_T → Prop} {B68 : Int32 → Int32 → Int32 → Int32 → Int32 → Int32 → Int32 → zs_T → Prop} (hB58 : ∀ (l1 : Int32) (l2 : Int32) (l3 : Int32) (l4 : Int32) (l5 : Int32) (l6 : Int32) (st : zs_T), B58 l1 l2 l3 l4 l5 l6 st → zs_Go p l e (zs_rm 2 48) s m args below meth c g A (MQ below (zs_Qv g zs_ly zs_N A K) args s 0 0 A) 9 58 [(0, .ref (g.2.1 635)), (1, .int l1), (2, .int l2), (3, .int l3), (4, .int l4), (5, .int l5), (6, .int l6)] [] st) (hB68 : ∀ (l1 : Int32) (l2 : Int32) (l3 : Int32) (l4 : Int32) (l5 : Int32) (l6 : Int32) (l7 : Int32) (st : zs_T), B68 l1 l2 l3 l4 l5 l6 l7 st → zs_Go p l e (zs_rm 2 48) s m args below meth c g A (MQ below (zs_Qv g zs_ly zs_N A K) args s 0 0 A) 9 68 [(0, .ref (g.2.1 635)), (1, .int l1), (2, .int l2), (3, .int l3), (4, .int l4), (5, .int l5), (6, .int l6), (7, .int l7)] [] st) (l1 : Int32) (l2 : Int32) (l3 : Int32) (l4 : Int32) (l5 : Int32) (l6 : Int32) (l7 : Int32) (st : zs_T) (h : zf_MO_pass_100 K B58 B68 l1 l2 l3 l4 l5 l6 l7 st) : zs_Go p l e (zs_rm 2 48) s m args below meth c g A (MQ below (zs_Qv g zs_ly zs_N A K) args s 0 0 A) 9 100 [(0, .ref (g.2.1 635)), (1, .int l1), (2, .int l2), (3, .int l3), (4, .int l4), (5, .int l5), (6, .int l6), (7, .int l7)] [] st := by
  obtain ⟨hx, hb, hml, hr, hlk, hts, hown, hK⟩ := id hM
  intro ls H locs hl hP hS
  unfold zf_MO_pass_100 at h
  refine lv_iconst (v := 1) hx hb dMO_pass_100 (by decide) ?_
  refine lv_goto (tgt := 105) hx hb dMO_pass_101 rfl ?_
  exact zw_MO_pass_105 hM hB58 hB68 l1 l2 l3 l4 l5 l6 l7 1 st h ls H locs (lv_sub hl [0, 1, 2, 3, 4, 5, 6, 7] rfl) hP hS
set_option maxHeartbeats 4000000 in
set_option maxRecDepth 100000 in
theorem zw_MO_pass_104 (hM : zs_M p c cMO_pass 9 s m meth args "ThriftyStoresModel" none g)   {K : zs_T → Prop} {B58 : Int32 → Int32 → Int32 → Int32 → Int32 → Int32 → zs_T → Prop} {B68 : Int32 → Int32 → Int32 → Int32 → Int32 → Int32 → Int32 → zs_T → Prop} (hB58 : ∀ (l1 : Int32) (l2 : Int32) (l3 : Int32) (l4 : Int32) (l5 : Int32) (l6 : Int32) (st : zs_T), B58 l1 l2 l3 l4 l5 l6 st → zs_Go p l e (zs_rm 2 48) s m args below meth c g A (MQ below (zs_Qv g zs_ly zs_N A K) args s 0 0 A) 9 58 [(0, .ref (g.2.1 635)), (1, .int l1), (2, .int l2), (3, .int l3), (4, .int l4), (5, .int l5), (6, .int l6)] [] st) (hB68 : ∀ (l1 : Int32) (l2 : Int32) (l3 : Int32) (l4 : Int32) (l5 : Int32) (l6 : Int32) (l7 : Int32) (st : zs_T), B68 l1 l2 l3 l4 l5 l6 l7 st → zs_Go p l e (zs_rm 2 48) s m args below meth c g A (MQ below (zs_Qv g zs_ly zs_N A K) args s 0 0 A) 9 68 [(0, .ref (g.2.1 635)), (1, .int l1), (2, .int l2), (3, .int l3), (4, .int l4), (5, .int l5), (6, .int l6), (7, .int l7)] [] st) (l1 : Int32) (l2 : Int32) (l3 : Int32) (l4 : Int32) (l5 : Int32) (l6 : Int32) (l7 : Int32) (st : zs_T) (h : zf_MO_pass_104 K B58 B68 l1 l2 l3 l4 l5 l6 l7 st) : zs_Go p l e (zs_rm 2 48) s m args below meth c g A (MQ below (zs_Qv g zs_ly zs_N A K) args s 0 0 A) 9 104 [(0, .ref (g.2.1 635)), (1, .int l1), (2, .int l2), (3, .int l3), (4, .int l4), (5, .int l5), (6, .int l6), (7, .int l7)] [] st := by
  obtain ⟨hx, hb, hml, hr, hlk, hts, hown, hK⟩ := id hM
  intro ls H locs hl hP hS
  unfold zf_MO_pass_104 at h
  refine lv_iconst (v := 0) hx hb dMO_pass_104 (by decide) ?_
  exact zw_MO_pass_105 hM hB58 hB68 l1 l2 l3 l4 l5 l6 l7 0 st h ls H locs (lv_sub hl [0, 1, 2, 3, 4, 5, 6, 7] rfl) hP hS
set_option maxHeartbeats 4000000 in
set_option maxRecDepth 100000 in
theorem zw_MO_pass_266 (hM : zs_M p c cMO_pass 9 s m meth args "ThriftyStoresModel" none g)   {K : zs_T → Prop} {B58 : Int32 → Int32 → Int32 → Int32 → Int32 → Int32 → zs_T → Prop} (hB58 : ∀ (l1 : Int32) (l2 : Int32) (l3 : Int32) (l4 : Int32) (l5 : Int32) (l6 : Int32) (st : zs_T), B58 l1 l2 l3 l4 l5 l6 st → zs_Go p l e (zs_rm 2 48) s m args below meth c g A (MQ below (zs_Qv g zs_ly zs_N A K) args s 0 0 A) 9 58 [(0, .ref (g.2.1 635)), (1, .int l1), (2, .int l2), (3, .int l3), (4, .int l4), (5, .int l5), (6, .int l6)] [] st) (l1 : Int32) (l2 : Int32) (l3 : Int32) (l4 : Int32) (l5 : Int32) (l6 : Int32) (s0 : Int32) (s1 : Int32) (st : zs_T) (h : zf_MO_pass_266 K B58 l1 l2 l3 l4 l5 l6 s0 s1 st) : zs_Go p l e (zs_rm 2 48) s m args below meth c g A (MQ below (zs_Qv g zs_ly zs_N A K) args s 0 0 A) 9 266 [(0, .ref (g.2.1 635)), (1, .int l1), (2, .int l2), (3, .int l3), (4, .int l4), (5, .int l5), (6, .int l6)] [.int s0, .int s1, .ref (g.2.1 650)] st := by
  obtain ⟨hx, hb, hml, hr, hlk, hts, hown, hK⟩ := id hM
  intro ls H locs hl hP hS
  unfold zf_MO_pass_266 at h
  obtain ⟨hi1301, h⟩ := h
  refine zr_zast hx hb hK.1 hP hS zl_650.1 zl_650.2 hi1301 dMO_pass_266 (fun H locs hP hS => ?_)
  obtain ⟨t1302, ez⟩ : ∃ tz : zs_T, tz = zs_i st 650 s1.toNatClampNeg (vp_nar .boolean s0) := ⟨_, rfl⟩
  have h := h t1302 ez
  have hP : zs_P g zs_ly zs_N A t1302 H := by rw [ez]; exact hP
  clear ez
  refine lv_iinc (k := 6) (v := l6 + 1) hx hb dMO_pass_267 hl rfl (by rw [show Int32.ofInt (1) = 1 from by decide]) (by decide) rfl (fun ls hl => ?_)
  have hl : lv_has ls 9 [(6, .int (l6 + 1)), (0, .ref (g.2.1 635)), (1, .int l1), (2, .int l2), (3, .int l3), (4, .int l4), (5, .int l5)] := hl
  refine lv_goto (tgt := 58) hx hb dMO_pass_270 rfl ?_
  exact hB58 l1 l2 l3 l4 l5 (l6 + 1) t1302 h ls H locs (lv_sub hl [1, 2, 3, 4, 5, 6, 0] rfl) hP hS
set_option maxHeartbeats 4000000 in
set_option maxRecDepth 100000 in
theorem zw_MO_pass_261 (hM : zs_M p c cMO_pass 9 s m meth args "ThriftyStoresModel" none g)   {K : zs_T → Prop} {B58 : Int32 → Int32 → Int32 → Int32 → Int32 → Int32 → zs_T → Prop} (hB58 : ∀ (l1 : Int32) (l2 : Int32) (l3 : Int32) (l4 : Int32) (l5 : Int32) (l6 : Int32) (st : zs_T), B58 l1 l2 l3 l4 l5 l6 st → zs_Go p l e (zs_rm 2 48) s m args below meth c g A (MQ below (zs_Qv g zs_ly zs_N A K) args s 0 0 A) 9 58 [(0, .ref (g.2.1 635)), (1, .int l1), (2, .int l2), (3, .int l3), (4, .int l4), (5, .int l5), (6, .int l6)] [] st) (l1 : Int32) (l2 : Int32) (l3 : Int32) (l4 : Int32) (l5 : Int32) (l6 : Int32) (s0 : Int32) (st : zs_T) (h : zf_MO_pass_261 K B58 l1 l2 l3 l4 l5 l6 s0 st) : zs_Go p l e (zs_rm 2 48) s m args below meth c g A (MQ below (zs_Qv g zs_ly zs_N A K) args s 0 0 A) 9 261 [(0, .ref (g.2.1 635)), (1, .int l1), (2, .int l2), (3, .int l3), (4, .int l4), (5, .int l5), (6, .int l6)] [.int s0, .ref (g.2.1 650)] st := by
  obtain ⟨hx, hb, hml, hr, hlk, hts, hown, hK⟩ := id hM
  intro ls H locs hl hP hS
  unfold zf_MO_pass_261 at h
  refine lv_iconst (v := 1) hx hb dMO_pass_261 (by decide) ?_
  refine lv_goto (tgt := 266) hx hb dMO_pass_262 rfl ?_
  exact zw_MO_pass_266 hM hB58 l1 l2 l3 l4 l5 l6 1 s0 st h ls H locs (lv_sub hl [0, 1, 2, 3, 4, 5, 6] rfl) hP hS
set_option maxHeartbeats 4000000 in
set_option maxRecDepth 100000 in
theorem zw_MO_pass_265 (hM : zs_M p c cMO_pass 9 s m meth args "ThriftyStoresModel" none g)   {K : zs_T → Prop} {B58 : Int32 → Int32 → Int32 → Int32 → Int32 → Int32 → zs_T → Prop} (hB58 : ∀ (l1 : Int32) (l2 : Int32) (l3 : Int32) (l4 : Int32) (l5 : Int32) (l6 : Int32) (st : zs_T), B58 l1 l2 l3 l4 l5 l6 st → zs_Go p l e (zs_rm 2 48) s m args below meth c g A (MQ below (zs_Qv g zs_ly zs_N A K) args s 0 0 A) 9 58 [(0, .ref (g.2.1 635)), (1, .int l1), (2, .int l2), (3, .int l3), (4, .int l4), (5, .int l5), (6, .int l6)] [] st) (l1 : Int32) (l2 : Int32) (l3 : Int32) (l4 : Int32) (l5 : Int32) (l6 : Int32) (s0 : Int32) (st : zs_T) (h : zf_MO_pass_265 K B58 l1 l2 l3 l4 l5 l6 s0 st) : zs_Go p l e (zs_rm 2 48) s m args below meth c g A (MQ below (zs_Qv g zs_ly zs_N A K) args s 0 0 A) 9 265 [(0, .ref (g.2.1 635)), (1, .int l1), (2, .int l2), (3, .int l3), (4, .int l4), (5, .int l5), (6, .int l6)] [.int s0, .ref (g.2.1 650)] st := by
  obtain ⟨hx, hb, hml, hr, hlk, hts, hown, hK⟩ := id hM
  intro ls H locs hl hP hS
  unfold zf_MO_pass_265 at h
  refine lv_iconst (v := 0) hx hb dMO_pass_265 (by decide) ?_
  exact zw_MO_pass_266 hM hB58 l1 l2 l3 l4 l5 l6 0 s0 st h ls H locs (lv_sub hl [0, 1, 2, 3, 4, 5, 6] rfl) hP hS
set_option maxHeartbeats 4000000 in
set_option maxRecDepth 100000 in
theorem zw_MO_pass_68_s (hM : zs_M p c cMO_pass 9 s m meth args "ThriftyStoresModel" none g)   {K : zs_T → Prop} {B58 : Int32 → Int32 → Int32 → Int32 → Int32 → Int32 → zs_T → Prop} {B68 : Int32 → Int32 → Int32 → Int32 → Int32 → Int32 → Int32 → zs_T → Prop} (hB58 : ∀ (l1 : Int32) (l2 : Int32) (l3 : Int32) (l4 : Int32) (l5 : Int32) (l6 : Int32) (st : zs_T), B58 l1 l2 l3 l4 l5 l6 st → zs_Go p l e (zs_rm 2 48) s m args below meth c g A (MQ below (zs_Qv g zs_ly zs_N A K) args s 0 0 A) 9 58 [(0, .ref (g.2.1 635)), (1, .int l1), (2, .int l2), (3, .int l3), (4, .int l4), (5, .int l5), (6, .int l6)] [] st) (hB68 : ∀ (l1 : Int32) (l2 : Int32) (l3 : Int32) (l4 : Int32) (l5 : Int32) (l6 : Int32) (l7 : Int32) (st : zs_T), B68 l1 l2 l3 l4 l5 l6 l7 st → zs_Go p l e (zs_rm 2 48) s m args below meth c g A (MQ below (zs_Qv g zs_ly zs_N A K) args s 0 0 A) 9 68 [(0, .ref (g.2.1 635)), (1, .int l1), (2, .int l2), (3, .int l3), (4, .int l4), (5, .int l5), (6, .int l6), (7, .int l7)] [] st) (l1 : Int32) (l2 : Int32) (l3 : Int32) (l4 : Int32) (l5 : Int32) (l6 : Int32) (l7 : Int32) (st : zs_T) (h : zf_MO_pass_68_s K B58 B68 l1 l2 l3 l4 l5 l6 l7 st) : zs_Go p l e (zs_rm 2 48) s m args below meth c g A (MQ below (zs_Qv g zs_ly zs_N A K) args s 0 0 A) 9 68 [(0, .ref (g.2.1 635)), (1, .int l1), (2, .int l2), (3, .int l3), (4, .int l4), (5, .int l5), (6, .int l6), (7, .int l7)] [] st := by
  obtain ⟨hx, hb, hml, hr, hlk, hts, hown, hK⟩ := id hM
  intro ls H locs hl hP hS
  unfold zf_MO_pass_68_s at h
  refine lv_iload hx hb dMO_pass_68 (lv_at hl 7 rfl) ?_
  refine lv_bipush (v := 16) hx hb dMO_pass_70 (by decide) ?_
  refine lv_icmp_ge (tgt := 221) hx hb dMO_pass_72 rfl (fun hc => ?_) (fun hc => ?_)
  · have h := h.1 hc
    clear hc
    refine lv_aload_n hx hb dMO_pass_221 rfl (lv_at hl 0 rfl) ?_
    refine zr_getr (b := 650) hx hb hts zi_MO hown hK.1 hP zl_635.1 zl_635.2 rfl 19 (by decide) rfl (hts _ zq_752) dMO_pass_222 ?_
    refine lv_iload hx hb dMO_pass_225 (lv_at hl 6 rfl) ?_
    refine lv_aload_n hx hb dMO_pass_227 rfl (lv_at hl 0 rfl) ?_
    refine zr_getr (b := 646) hx hb hts zi_MO hown hK.1 hP zl_635.1 zl_635.2 rfl 15 (by decide) rfl (hts _ zq_748) dMO_pass_228 ?_
    refine lv_bipush (v := 16) hx hb dMO_pass_231 (by decide) ?_
    refine lv_iload_n hx hb dMO_pass_233 rfl (lv_at hl 1 rfl) ?_
    refine lv_imul hx hb dMO_pass_234 ?_
    refine lv_iload hx hb dMO_pass_235 (lv_at hl 6 rfl) ?_
    refine lv_iadd hx hb dMO_pass_237 ?_
    obtain ⟨hi501, h⟩ := h
    refine zr_zald hx hb hK.1 hP zl_646.1 zl_646.2 hi501 dMO_pass_238 ?_
    refine lv_if_eq (tgt := 265) hx hb dMO_pass_239 rfl (fun hc => ?_) (fun hc => ?_)
    · have h := h.1 hc
      clear hc
      exact zw_MO_pass_265 hM hB58 l1 l2 l3 l4 l5 l6 l6 st h ls H locs (lv_sub hl [0, 1, 2, 3, 4, 5, 6] rfl) hP hS
    · have h := h.2 hc
      clear hc
      refine lv_aload_n hx hb dMO_pass_242 rfl (lv_at hl 0 rfl) ?_
      refine lv_iload_n hx hb dMO_pass_243 rfl (lv_at hl 1 rfl) ?_
      refine zr_calli (va_runV (As := [.int l1]) (rest := [.int l6, .ref (g.2.1 650)]) ⟨hx, hb, hml, hown, hts⟩ (zc_MO_sets l g A  h) (cwV 1 hts (zs_gV zq_889 zq_891 zp_44 zq_8 zq_892) rfl rfl rfl ⟨rfl, by decide, by decide, by decide +kernel⟩ ⟨Nat.le_of_ble_eq_true rfl, Nat.le_of_ble_eq_true rfl⟩) (zs_preV zs_nwk hK hP zl_635.1 zl_635.2 rfl) rfl rfl hl.1 rfl (lv_room (Nat.le_of_ble_eq_true rfl)) dMO_pass_244 ⟨Nat.le_refl _, Nat.le_refl _⟩) hS (fun r503 u502 H locs h hP hS => ?_)
      refine lv_if_eq (tgt := 261) hx hb dMO_pass_247 rfl (fun hc => ?_) (fun hc => ?_)
      · have h := h.1 hc
        clear hc
        exact zw_MO_pass_261 hM hB58 l1 l2 l3 l4 l5 l6 l6 u502 h ls H locs (lv_sub hl [0, 1, 2, 3, 4, 5, 6] rfl) hP hS
      · have h := h.2 hc
        clear hc
        refine lv_iload hx hb dMO_pass_250 (lv_at hl 5 rfl) ?_
        refine lv_if_ne (tgt := 261) hx hb dMO_pass_252 rfl (fun hc => ?_) (fun hc => ?_)
        · have h := h.1 hc
          clear hc
          exact zw_MO_pass_261 hM hB58 l1 l2 l3 l4 l5 l6 l6 u502 h ls H locs (lv_sub hl [0, 1, 2, 3, 4, 5, 6] rfl) hP hS
        · have h := h.2 hc
          clear hc
          refine lv_iload hx hb dMO_pass_255 (lv_at hl 6 rfl) ?_
          refine lv_iload_n hx hb dMO_pass_257 rfl (lv_at hl 3 rfl) ?_
          refine lv_icmp_eq (tgt := 265) hx hb dMO_pass_258 rfl (fun hc => ?_) (fun hc => ?_)
          · have h := h.1 hc
            clear hc
            exact zw_MO_pass_265 hM hB58 l1 l2 l3 l4 l5 l6 l6 u502 h ls H locs (lv_sub hl [0, 1, 2, 3, 4, 5, 6] rfl) hP hS
          · have h := h.2 hc
            clear hc
            exact zw_MO_pass_261 hM hB58 l1 l2 l3 l4 l5 l6 l6 u502 h ls H locs (lv_sub hl [0, 1, 2, 3, 4, 5, 6] rfl) hP hS
  · have h := h.2 hc
    clear hc
    refine lv_aload_n hx hb dMO_pass_75 rfl (lv_at hl 0 rfl) ?_
    refine lv_iload_n hx hb dMO_pass_76 rfl (lv_at hl 1 rfl) ?_
    refine zr_calli (va_runV (As := [.int l1]) (rest := []) ⟨hx, hb, hml, hown, hts⟩ (zc_MO_sets l g A  h) (cwV 1 hts (zs_gV zq_889 zq_891 zp_44 zq_8 zq_892) rfl rfl rfl ⟨rfl, by decide, by decide, by decide +kernel⟩ ⟨Nat.le_of_ble_eq_true rfl, Nat.le_of_ble_eq_true rfl⟩) (zs_preV zs_nwk hK hP zl_635.1 zl_635.2 rfl) rfl rfl hl.1 rfl (lv_room (Nat.le_of_ble_eq_true rfl)) dMO_pass_77 ⟨Nat.le_refl _, Nat.le_refl _⟩) hS (fun r505 u504 H locs h hP hS => ?_)
    refine lv_if_eq (tgt := 104) hx hb dMO_pass_80 rfl (fun hc => ?_) (fun hc => ?_)
    · have h := h.1 hc
      clear hc
      exact zw_MO_pass_104 hM hB58 hB68 l1 l2 l3 l4 l5 l6 l7 u504 h ls H locs (lv_sub hl [0, 1, 2, 3, 4, 5, 6, 7] rfl) hP hS
    · have h := h.2 hc
      clear hc
      refine lv_iload hx hb dMO_pass_83 (lv_at hl 5 rfl) ?_
      refine lv_if_ne (tgt := 104) hx hb dMO_pass_85 rfl (fun hc => ?_) (fun hc => ?_)
      · have h := h.1 hc
        clear hc
        exact zw_MO_pass_104 hM hB58 hB68 l1 l2 l3 l4 l5 l6 l7 u504 h ls H locs (lv_sub hl [0, 1, 2, 3, 4, 5, 6, 7] rfl) hP hS
      · have h := h.2 hc
        clear hc
        refine lv_iload hx hb dMO_pass_88 (lv_at hl 6 rfl) ?_
        refine lv_iload_n hx hb dMO_pass_90 rfl (lv_at hl 3 rfl) ?_
        refine lv_icmp_eq (tgt := 100) hx hb dMO_pass_91 rfl (fun hc => ?_) (fun hc => ?_)
        · have h := h.1 hc
          clear hc
          exact zw_MO_pass_100 hM hB58 hB68 l1 l2 l3 l4 l5 l6 l7 u504 h ls H locs (lv_sub hl [0, 1, 2, 3, 4, 5, 6, 7] rfl) hP hS
        · have h := h.2 hc
          clear hc
          refine lv_iload hx hb dMO_pass_94 (lv_at hl 7 rfl) ?_
          refine lv_iload_n hx hb dMO_pass_96 rfl (lv_at hl 3 rfl) ?_
          refine lv_icmp_ne (tgt := 104) hx hb dMO_pass_97 rfl (fun hc => ?_) (fun hc => ?_)
          · have h := h.1 hc
            clear hc
            exact zw_MO_pass_104 hM hB58 hB68 l1 l2 l3 l4 l5 l6 l7 u504 h ls H locs (lv_sub hl [0, 1, 2, 3, 4, 5, 6, 7] rfl) hP hS
          · have h := h.2 hc
            clear hc
            exact zw_MO_pass_100 hM hB58 hB68 l1 l2 l3 l4 l5 l6 l7 u504 h ls H locs (lv_sub hl [0, 1, 2, 3, 4, 5, 6, 7] rfl) hP hS
theorem zw_MO_pass_68 (hM : zs_M p c cMO_pass 9 s m meth args "ThriftyStoresModel" none g)   {K : zs_T → Prop} {B58 : Int32 → Int32 → Int32 → Int32 → Int32 → Int32 → zs_T → Prop} (hB58 : ∀ (l1 : Int32) (l2 : Int32) (l3 : Int32) (l4 : Int32) (l5 : Int32) (l6 : Int32) (st : zs_T), B58 l1 l2 l3 l4 l5 l6 st → zs_Go p l e (zs_rm 2 48) s m args below meth c g A (MQ below (zs_Qv g zs_ly zs_N A K) args s 0 0 A) 9 58 [(0, .ref (g.2.1 635)), (1, .int l1), (2, .int l2), (3, .int l3), (4, .int l4), (5, .int l5), (6, .int l6)] [] st) : ∀ (n : Nat) (l1 : Int32) (l2 : Int32) (l3 : Int32) (l4 : Int32) (l5 : Int32) (l6 : Int32) (l7 : Int32) (st : zs_T), zf_MO_pass_68 K B58 n l1 l2 l3 l4 l5 l6 l7 st → zs_Go p l e (zs_rm 2 48) s m args below meth c g A (MQ below (zs_Qv g zs_ly zs_N A K) args s 0 0 A) 9 68 [(0, .ref (g.2.1 635)), (1, .int l1), (2, .int l2), (3, .int l3), (4, .int l4), (5, .int l5), (6, .int l6), (7, .int l7)] [] st := by
  intro n
  induction n with
  | zero => intro l1 l2 l3 l4 l5 l6 l7 st h; exact False.elim h
  | succ n ih => intro l1 l2 l3 l4 l5 l6 l7 st h; exact zw_MO_pass_68_s hM hB58 ih l1 l2 l3 l4 l5 l6 l7 st h
set_option maxHeartbeats 4000000 in
set_option maxRecDepth 100000 in
theorem zw_MO_pass_338 (hM : zs_M p c cMO_pass 9 s m meth args "ThriftyStoresModel" none g)   {K : zs_T → Prop}   (l1 : Int32) (l2 : Int32) (l3 : Int32) (l4 : Int32) (st : zs_T) (h : zf_MO_pass_338 K l1 l2 l3 l4 st) : zs_Go p l e (zs_rm 2 48) s m args below meth c g A (MQ below (zs_Qv g zs_ly zs_N A K) args s 0 0 A) 9 338 [(0, .ref (g.2.1 635)), (1, .int l1), (2, .int l2), (3, .int l3), (4, .int l4)] [] st := by
  obtain ⟨hx, hb, hml, hr, hlk, hts, hown, hK⟩ := id hM
  intro ls H locs hl hP hS
  unfold zf_MO_pass_338 at h
  refine lv_iload_n hx hb dMO_pass_338 rfl (lv_at hl 2 rfl) ?_
  refine lv_bipush (v := 10) hx hb dMO_pass_339 (by decide) ?_
  refine lv_icmp_ne (tgt := 352) hx hb dMO_pass_341 rfl (fun hc => ?_) (fun hc => ?_)
  · have h := h.1 hc
    clear hc
    exact zr_vret hx hb hr hlk hP hS h dMO_pass_352
  · have h := h.2 hc
    clear hc
    refine lv_aload_n hx hb dMO_pass_344 rfl (lv_at hl 0 rfl) ?_
    refine lv_iload_n hx hb dMO_pass_345 rfl (lv_at hl 1 rfl) ?_
    refine lv_iload_n hx hb dMO_pass_346 rfl (lv_at hl 3 rfl) ?_
    refine lv_iload hx hb dMO_pass_347 (lv_at hl 4 rfl) ?_
    refine zr_callv (va_runV (As := [.int l1, .int l3, .int l4]) (rest := []) ⟨hx, hb, hml, hown, hts⟩ (zc_MO_passStore l g A  h) (cwV 3 hts (zs_gV zq_917 zq_919 zp_51 zq_8 zq_920) rfl rfl rfl ⟨rfl, by decide, by decide, by decide +kernel⟩ ⟨Nat.le_of_ble_eq_true rfl, Nat.le_of_ble_eq_true rfl⟩) (zs_preV zs_nwk hK hP zl_635.1 zl_635.2 rfl) rfl rfl hl.1 rfl (lv_room (Nat.le_of_ble_eq_true rfl)) dMO_pass_349 ⟨Nat.le_refl _, Nat.le_refl _⟩) hS (fun u1501 H locs h hP hS => ?_)
    exact zr_vret hx hb hr hlk hP hS h dMO_pass_352
set_option maxHeartbeats 4000000 in
set_option maxRecDepth 100000 in
theorem zw_MO_pass_324 (hM : zs_M p c cMO_pass 9 s m meth args "ThriftyStoresModel" none g)   {K : zs_T → Prop}   (l1 : Int32) (l2 : Int32) (l3 : Int32) (l4 : Int32) (st : zs_T) (h : zf_MO_pass_324 K l1 l2 l3 l4 st) : zs_Go p l e (zs_rm 2 48) s m args below meth c g A (MQ below (zs_Qv g zs_ly zs_N A K) args s 0 0 A) 9 324 [(0, .ref (g.2.1 635)), (1, .int l1), (2, .int l2), (3, .int l3), (4, .int l4)] [] st := by
  obtain ⟨hx, hb, hml, hr, hlk, hts, hown, hK⟩ := id hM
  intro ls H locs hl hP hS
  unfold zf_MO_pass_324 at h
  refine lv_iload_n hx hb dMO_pass_324 rfl (lv_at hl 2 rfl) ?_
  refine lv_bipush (v := 9) hx hb dMO_pass_325 (by decide) ?_
  refine lv_icmp_ne (tgt := 338) hx hb dMO_pass_327 rfl (fun hc => ?_) (fun hc => ?_)
  · have h := h.1 hc
    clear hc
    exact zw_MO_pass_338 hM  l1 l2 l3 l4 st h ls H locs (lv_sub hl [0, 1, 2, 3, 4] rfl) hP hS
  · have h := h.2 hc
    clear hc
    refine lv_aload_n hx hb dMO_pass_330 rfl (lv_at hl 0 rfl) ?_
    refine lv_iload_n hx hb dMO_pass_331 rfl (lv_at hl 1 rfl) ?_
    refine lv_iload_n hx hb dMO_pass_332 rfl (lv_at hl 3 rfl) ?_
    refine lv_iload hx hb dMO_pass_333 (lv_at hl 4 rfl) ?_
    refine zr_callv (va_runV (As := [.int l1, .int l3, .int l4]) (rest := []) ⟨hx, hb, hml, hown, hts⟩ (zc_MO_passLoad l g A  h) (cwV 3 hts (zs_gV zq_913 zq_915 zp_50 zq_8 zq_916) rfl rfl rfl ⟨rfl, by decide, by decide, by decide +kernel⟩ ⟨Nat.le_of_ble_eq_true rfl, Nat.le_of_ble_eq_true rfl⟩) (zs_preV zs_nwk hK hP zl_635.1 zl_635.2 rfl) rfl rfl hl.1 rfl (lv_room (Nat.le_of_ble_eq_true rfl)) dMO_pass_335 ⟨Nat.le_refl _, Nat.le_refl _⟩) hS (fun u1201 H locs h hP hS => ?_)
    exact zw_MO_pass_338 hM  l1 l2 l3 l4 u1201 h ls H locs (lv_sub hl [0, 1, 2, 3, 4] rfl) hP hS
set_option maxHeartbeats 4000000 in
set_option maxRecDepth 100000 in
theorem zw_MO_pass_310 (hM : zs_M p c cMO_pass 9 s m meth args "ThriftyStoresModel" none g)   {K : zs_T → Prop}   (l1 : Int32) (l2 : Int32) (l3 : Int32) (l4 : Int32) (st : zs_T) (h : zf_MO_pass_310 K l1 l2 l3 l4 st) : zs_Go p l e (zs_rm 2 48) s m args below meth c g A (MQ below (zs_Qv g zs_ly zs_N A K) args s 0 0 A) 9 310 [(0, .ref (g.2.1 635)), (1, .int l1), (2, .int l2), (3, .int l3), (4, .int l4)] [] st := by
  obtain ⟨hx, hb, hml, hr, hlk, hts, hown, hK⟩ := id hM
  intro ls H locs hl hP hS
  unfold zf_MO_pass_310 at h
  refine lv_iload_n hx hb dMO_pass_310 rfl (lv_at hl 2 rfl) ?_
  refine lv_bipush (v := 7) hx hb dMO_pass_311 (by decide) ?_
  refine lv_icmp_ne (tgt := 324) hx hb dMO_pass_313 rfl (fun hc => ?_) (fun hc => ?_)
  · have h := h.1 hc
    clear hc
    exact zw_MO_pass_324 hM  l1 l2 l3 l4 st h ls H locs (lv_sub hl [0, 1, 2, 3, 4] rfl) hP hS
  · have h := h.2 hc
    clear hc
    refine lv_aload_n hx hb dMO_pass_316 rfl (lv_at hl 0 rfl) ?_
    refine zr_getr (b := 650) hx hb hts zi_MO hown hK.1 hP zl_635.1 zl_635.2 rfl 19 (by decide) rfl (hts _ zq_752) dMO_pass_317 ?_
    refine lv_iload hx hb dMO_pass_320 (lv_at hl 4 rfl) ?_
    refine lv_iconst (v := 1) hx hb dMO_pass_322 (by decide) ?_
    obtain ⟨hi701, h⟩ := h
    refine zr_zast hx hb hK.1 hP hS zl_650.1 zl_650.2 hi701 dMO_pass_323 (fun H locs hP hS => ?_)
    obtain ⟨t702, ez⟩ : ∃ tz : zs_T, tz = zs_i st 650 l4.toNatClampNeg (vp_nar .boolean 1) := ⟨_, rfl⟩
    have h := h t702 ez
    have hP : zs_P g zs_ly zs_N A t702 H := by rw [ez]; exact hP
    clear ez
    exact zw_MO_pass_324 hM  l1 l2 l3 l4 t702 h ls H locs (lv_sub hl [0, 1, 2, 3, 4] rfl) hP hS
set_option maxHeartbeats 4000000 in
set_option maxRecDepth 100000 in
theorem zw_MO_pass_303 (hM : zs_M p c cMO_pass 9 s m meth args "ThriftyStoresModel" none g)   {K : zs_T → Prop}   (l1 : Int32) (l2 : Int32) (l3 : Int32) (l4 : Int32) (st : zs_T) (h : zf_MO_pass_303 K l1 l2 l3 l4 st) : zs_Go p l e (zs_rm 2 48) s m args below meth c g A (MQ below (zs_Qv g zs_ly zs_N A K) args s 0 0 A) 9 303 [(0, .ref (g.2.1 635)), (1, .int l1), (2, .int l2), (3, .int l3), (4, .int l4)] [] st := by
  obtain ⟨hx, hb, hml, hr, hlk, hts, hown, hK⟩ := id hM
  intro ls H locs hl hP hS
  unfold zf_MO_pass_303 at h
  refine lv_aload_n hx hb dMO_pass_303 rfl (lv_at hl 0 rfl) ?_
  refine zr_getr (b := 650) hx hb hts zi_MO hown hK.1 hP zl_635.1 zl_635.2 rfl 19 (by decide) rfl (hts _ zq_752) dMO_pass_304 ?_
  refine lv_iload_n hx hb dMO_pass_307 rfl (lv_at hl 3 rfl) ?_
  refine lv_iconst (v := 1) hx hb dMO_pass_308 (by decide) ?_
  obtain ⟨hi601, h⟩ := h
  refine zr_zast hx hb hK.1 hP hS zl_650.1 zl_650.2 hi601 dMO_pass_309 (fun H locs hP hS => ?_)
  obtain ⟨t602, ez⟩ : ∃ tz : zs_T, tz = zs_i st 650 l3.toNatClampNeg (vp_nar .boolean 1) := ⟨_, rfl⟩
  have h := h t602 ez
  have hP : zs_P g zs_ly zs_N A t602 H := by rw [ez]; exact hP
  clear ez
  exact zw_MO_pass_310 hM  l1 l2 l3 l4 t602 h ls H locs (lv_sub hl [0, 1, 2, 3, 4] rfl) hP hS
set_option maxHeartbeats 4000000 in
set_option maxRecDepth 100000 in
theorem zw_MO_pass_291 (hM : zs_M p c cMO_pass 9 s m meth args "ThriftyStoresModel" none g)   {K : zs_T → Prop}   (l1 : Int32) (l2 : Int32) (l3 : Int32) (l4 : Int32) (st : zs_T) (h : zf_MO_pass_291 K l1 l2 l3 l4 st) : zs_Go p l e (zs_rm 2 48) s m args below meth c g A (MQ below (zs_Qv g zs_ly zs_N A K) args s 0 0 A) 9 291 [(0, .ref (g.2.1 635)), (1, .int l1), (2, .int l2), (3, .int l3), (4, .int l4)] [] st := by
  obtain ⟨hx, hb, hml, hr, hlk, hts, hown, hK⟩ := id hM
  intro ls H locs hl hP hS
  unfold zf_MO_pass_291 at h
  refine lv_iload_n hx hb dMO_pass_291 rfl (lv_at hl 2 rfl) ?_
  refine lv_bipush (v := 7) hx hb dMO_pass_292 (by decide) ?_
  refine lv_icmp_eq (tgt := 303) hx hb dMO_pass_294 rfl (fun hc => ?_) (fun hc => ?_)
  · have h := h.1 hc
    clear hc
    exact zw_MO_pass_303 hM  l1 l2 l3 l4 st h ls H locs (lv_sub hl [0, 1, 2, 3, 4] rfl) hP hS
  · have h := h.2 hc
    clear hc
    refine lv_iload_n hx hb dMO_pass_297 rfl (lv_at hl 2 rfl) ?_
    refine lv_bipush (v := 8) hx hb dMO_pass_298 (by decide) ?_
    refine lv_icmp_ne (tgt := 310) hx hb dMO_pass_300 rfl (fun hc => ?_) (fun hc => ?_)
    · have h := h.1 hc
      clear hc
      exact zw_MO_pass_310 hM  l1 l2 l3 l4 st h ls H locs (lv_sub hl [0, 1, 2, 3, 4] rfl) hP hS
    · have h := h.2 hc
      clear hc
      exact zw_MO_pass_303 hM  l1 l2 l3 l4 st h ls H locs (lv_sub hl [0, 1, 2, 3, 4] rfl) hP hS
set_option maxHeartbeats 4000000 in
set_option maxRecDepth 100000 in
theorem zw_MO_pass_58_s (hM : zs_M p c cMO_pass 9 s m meth args "ThriftyStoresModel" none g)   {K : zs_T → Prop}  {B58 : Int32 → Int32 → Int32 → Int32 → Int32 → Int32 → zs_T → Prop}  (hB58 : ∀ (l1 : Int32) (l2 : Int32) (l3 : Int32) (l4 : Int32) (l5 : Int32) (l6 : Int32) (st : zs_T), B58 l1 l2 l3 l4 l5 l6 st → zs_Go p l e (zs_rm 2 48) s m args below meth c g A (MQ below (zs_Qv g zs_ly zs_N A K) args s 0 0 A) 9 58 [(0, .ref (g.2.1 635)), (1, .int l1), (2, .int l2), (3, .int l3), (4, .int l4), (5, .int l5), (6, .int l6)] [] st) (l1 : Int32) (l2 : Int32) (l3 : Int32) (l4 : Int32) (l5 : Int32) (l6 : Int32) (st : zs_T) (h : zf_MO_pass_58_s K B58 l1 l2 l3 l4 l5 l6 st) : zs_Go p l e (zs_rm 2 48) s m args below meth c g A (MQ below (zs_Qv g zs_ly zs_N A K) args s 0 0 A) 9 58 [(0, .ref (g.2.1 635)), (1, .int l1), (2, .int l2), (3, .int l3), (4, .int l4), (5, .int l5), (6, .int l6)] [] st := by
  obtain ⟨hx, hb, hml, hr, hlk, hts, hown, hK⟩ := id hM
  intro ls H locs hl hP hS
  unfold zf_MO_pass_58_s at h
  refine lv_iload hx hb dMO_pass_58 (lv_at hl 6 rfl) ?_
  refine lv_bipush (v := 16) hx hb dMO_pass_60 (by decide) ?_
  refine lv_icmp_ge (tgt := 273) hx hb dMO_pass_62 rfl (fun hc => ?_) (fun hc => ?_)
  · have h := h.1 hc
    clear hc
    refine lv_iload_n hx hb dMO_pass_273 rfl (lv_at hl 2 rfl) ?_
    refine lv_iconst (v := 1) hx hb dMO_pass_274 (by decide) ?_
    refine lv_icmp_ne (tgt := 291) hx hb dMO_pass_275 rfl (fun hc => ?_) (fun hc => ?_)
    · have h := h.1 hc
      clear hc
      exact zw_MO_pass_291 hM  l1 l2 l3 l4 st h ls H locs (lv_sub hl [0, 1, 2, 3, 4] rfl) hP hS
    · have h := h.2 hc
      clear hc
      refine lv_iload hx hb dMO_pass_278 (lv_at hl 5 rfl) ?_
      refine lv_if_ne (tgt := 291) hx hb dMO_pass_280 rfl (fun hc => ?_) (fun hc => ?_)
      · have h := h.1 hc
        clear hc
        exact zw_MO_pass_291 hM  l1 l2 l3 l4 st h ls H locs (lv_sub hl [0, 1, 2, 3, 4] rfl) hP hS
      · have h := h.2 hc
        clear hc
        refine lv_aload_n hx hb dMO_pass_283 rfl (lv_at hl 0 rfl) ?_
        refine lv_iload_n hx hb dMO_pass_284 rfl (lv_at hl 1 rfl) ?_
        refine lv_iload_n hx hb dMO_pass_285 rfl (lv_at hl 3 rfl) ?_
        refine lv_iload hx hb dMO_pass_286 (lv_at hl 4 rfl) ?_
        refine zr_callv (va_runV (As := [.int l1, .int l3, .int l4]) (rest := []) ⟨hx, hb, hml, hown, hts⟩ (zc_MO_passMove l g A  h) (cwV 3 hts (zs_gV zq_905 zq_907 zp_48 zq_8 zq_908) rfl rfl rfl ⟨rfl, by decide, by decide, by decide +kernel⟩ ⟨Nat.le_of_ble_eq_true rfl, Nat.le_of_ble_eq_true rfl⟩) (zs_preV zs_nwk hK hP zl_635.1 zl_635.2 rfl) rfl rfl hl.1 rfl (lv_room (Nat.le_of_ble_eq_true rfl)) dMO_pass_288 ⟨Nat.le_refl _, Nat.le_refl _⟩) hS (fun u301 H locs h hP hS => ?_)
        exact zw_MO_pass_291 hM  l1 l2 l3 l4 u301 h ls H locs (lv_sub hl [0, 1, 2, 3, 4] rfl) hP hS
  · have h := h.2 hc
    clear hc
    refine lv_iconst (v := 0) hx hb dMO_pass_65 (by decide) ?_
    refine lv_istore hx hb dMO_pass_66 hl (by decide) rfl (fun ls hl => ?_)
    have hl : lv_has ls 9 [(7, .int 0), (0, .ref (g.2.1 635)), (1, .int l1), (2, .int l2), (3, .int l3), (4, .int l4), (5, .int l5), (6, .int l6)] := hl
    obtain ⟨n, h⟩ := h
    exact zw_MO_pass_68 hM hB58 n l1 l2 l3 l4 l5 l6 0 st h ls H locs (lv_sub hl [1, 2, 3, 4, 5, 6, 7, 0] rfl) hP hS
theorem zw_MO_pass_58 (hM : zs_M p c cMO_pass 9 s m meth args "ThriftyStoresModel" none g)   {K : zs_T → Prop}   : ∀ (n : Nat) (l1 : Int32) (l2 : Int32) (l3 : Int32) (l4 : Int32) (l5 : Int32) (l6 : Int32) (st : zs_T), zf_MO_pass_58 K n l1 l2 l3 l4 l5 l6 st → zs_Go p l e (zs_rm 2 48) s m args below meth c g A (MQ below (zs_Qv g zs_ly zs_N A K) args s 0 0 A) 9 58 [(0, .ref (g.2.1 635)), (1, .int l1), (2, .int l2), (3, .int l3), (4, .int l4), (5, .int l5), (6, .int l6)] [] st := by
  intro n
  induction n with
  | zero => intro l1 l2 l3 l4 l5 l6 st h; exact False.elim h
  | succ n ih => intro l1 l2 l3 l4 l5 l6 st h; exact zw_MO_pass_58_s hM  ih l1 l2 l3 l4 l5 l6 st h
set_option maxHeartbeats 4000000 in
set_option maxRecDepth 100000 in
theorem zw_MO_pass_53 (hM : zs_M p c cMO_pass 9 s m meth args "ThriftyStoresModel" none g)   {K : zs_T → Prop}   (l1 : Int32) (l2 : Int32) (l3 : Int32) (l4 : Int32) (s0 : Int32) (st : zs_T) (h : zf_MO_pass_53 K l1 l2 l3 l4 s0 st) : zs_Go p l e (zs_rm 2 48) s m args below meth c g A (MQ below (zs_Qv g zs_ly zs_N A K) args s 0 0 A) 9 53 [(0, .ref (g.2.1 635)), (1, .int l1), (2, .int l2), (3, .int l3), (4, .int l4)] [.int s0] st := by
  obtain ⟨hx, hb, hml, hr, hlk, hts, hown, hK⟩ := id hM
  intro ls H locs hl hP hS
  unfold zf_MO_pass_53 at h
  refine lv_istore hx hb dMO_pass_53 hl (by decide) rfl (fun ls hl => ?_)
  have hl : lv_has ls 9 [(5, .int s0), (0, .ref (g.2.1 635)), (1, .int l1), (2, .int l2), (3, .int l3), (4, .int l4)] := hl
  refine lv_iconst (v := 0) hx hb dMO_pass_55 (by decide) ?_
  refine lv_istore hx hb dMO_pass_56 hl (by decide) rfl (fun ls hl => ?_)
  have hl : lv_has ls 9 [(6, .int 0), (5, .int s0), (0, .ref (g.2.1 635)), (1, .int l1), (2, .int l2), (3, .int l3), (4, .int l4)] := hl
  obtain ⟨n, h⟩ := h
  exact zw_MO_pass_58 hM  n l1 l2 l3 l4 s0 0 st h ls H locs (lv_sub hl [2, 3, 4, 5, 6, 1, 0] rfl) hP hS
set_option maxHeartbeats 4000000 in
set_option maxRecDepth 100000 in
theorem zw_MO_pass_52 (hM : zs_M p c cMO_pass 9 s m meth args "ThriftyStoresModel" none g)   {K : zs_T → Prop}   (l1 : Int32) (l2 : Int32) (l3 : Int32) (l4 : Int32) (st : zs_T) (h : zf_MO_pass_52 K l1 l2 l3 l4 st) : zs_Go p l e (zs_rm 2 48) s m args below meth c g A (MQ below (zs_Qv g zs_ly zs_N A K) args s 0 0 A) 9 52 [(0, .ref (g.2.1 635)), (1, .int l1), (2, .int l2), (3, .int l3), (4, .int l4)] [] st := by
  obtain ⟨hx, hb, hml, hr, hlk, hts, hown, hK⟩ := id hM
  intro ls H locs hl hP hS
  unfold zf_MO_pass_52 at h
  refine lv_iconst (v := 0) hx hb dMO_pass_52 (by decide) ?_
  exact zw_MO_pass_53 hM  l1 l2 l3 l4 0 st h ls H locs (lv_sub hl [0, 1, 2, 3, 4] rfl) hP hS
set_option maxHeartbeats 4000000 in
set_option maxRecDepth 100000 in
theorem zc_MO_pass (l : Launch) (g : zs_G) (A : Nat → Prop) {l1 : Int32}  {st : zs_T} {K : zs_T → Prop} (h : zf_MO_pass l1 st K) : Met l yMO_pass (.code yMO_pass cMO_pass 9 none :: zs_tb) (zs_rm 2 48) (zs_Pc zs_nl g zs_ly zs_N A [.ref (g.2.1 635), .int l1] st) (zs_Qv g zs_ly zs_N A K) 0 0 A := by
  refine zs_met (cc := cMO_pass) (maxL := 9) (ret := none) (by decide) (Nat.le_of_ble_eq_true rfl) (fun p e s m below meth c hM => ?_)
  have hM : zs_M p c cMO_pass 9 s m meth [.ref (g.2.1 635), .int l1].toArray "ThriftyStoresModel" none g := hM
  obtain ⟨hx, hb, hml, hr, hlk, hts, hown, hK⟩ := id hM
  intro ls H locs hl hP hS
  have hl : lv_has ls 9 [(0, .ref (g.2.1 635)), (1, .int l1)] := hl
  unfold zf_MO_pass at h
  refine lv_aload_n hx hb dMO_pass_0 rfl (lv_at hl 0 rfl) ?_
  refine zr_getr (b := 636) hx hb hts zi_MO hown hK.1 hP zl_635.1 zl_635.2 rfl 1 (by decide) rfl (hts _ zq_734) dMO_pass_1 ?_
  refine lv_aload_n hx hb dMO_pass_4 rfl (lv_at hl 0 rfl) ?_
  refine zr_geti hx hb hts zi_MO hown hK.1 hP zl_635.1 zl_635.2 rfl 9 (by decide) rfl (hts _ zq_742) dMO_pass_5 ?_
  refine lv_iload_n hx hb dMO_pass_8 rfl (lv_at hl 1 rfl) ?_
  refine lv_iadd hx hb dMO_pass_9 ?_
  obtain ⟨hi1, h⟩ := h
  refine zr_iald hx hb hK.1 hP zl_636.1 zl_636.2 hi1 dMO_pass_10 ?_
  refine lv_istore_n hx hb dMO_pass_11 rfl hl (by decide) rfl (fun ls hl => ?_)
  have hl : lv_has ls 9 [(2, .int (st.1 636 ((st.1 635 9) + l1).toNatClampNeg)), (0, .ref (g.2.1 635)), (1, .int l1)] := hl
  refine lv_aload_n hx hb dMO_pass_12 rfl (lv_at hl 1 rfl) ?_
  refine zr_getr (b := 637) hx hb hts zi_MO hown hK.1 hP zl_635.1 zl_635.2 rfl 2 (by decide) rfl (hts _ zq_735) dMO_pass_13 ?_
  refine lv_aload_n hx hb dMO_pass_16 rfl (lv_at hl 1 rfl) ?_
  refine zr_geti hx hb hts zi_MO hown hK.1 hP zl_635.1 zl_635.2 rfl 9 (by decide) rfl (hts _ zq_742) dMO_pass_17 ?_
  refine lv_iload_n hx hb dMO_pass_20 rfl (lv_at hl 2 rfl) ?_
  refine lv_iadd hx hb dMO_pass_21 ?_
  obtain ⟨hi2, h⟩ := h
  refine zr_iald hx hb hK.1 hP zl_637.1 zl_637.2 hi2 dMO_pass_22 ?_
  refine lv_istore_n hx hb dMO_pass_23 rfl hl (by decide) rfl (fun ls hl => ?_)
  have hl : lv_has ls 9 [(3, .int (st.1 637 ((st.1 635 9) + l1).toNatClampNeg)), (2, .int (st.1 636 ((st.1 635 9) + l1).toNatClampNeg)), (0, .ref (g.2.1 635)), (1, .int l1)] := hl
  refine lv_aload_n hx hb dMO_pass_24 rfl (lv_at hl 2 rfl) ?_
  refine zr_getr (b := 638) hx hb hts zi_MO hown hK.1 hP zl_635.1 zl_635.2 rfl 3 (by decide) rfl (hts _ zq_736) dMO_pass_25 ?_
  refine lv_aload_n hx hb dMO_pass_28 rfl (lv_at hl 2 rfl) ?_
  refine zr_geti hx hb hts zi_MO hown hK.1 hP zl_635.1 zl_635.2 rfl 9 (by decide) rfl (hts _ zq_742) dMO_pass_29 ?_
  refine lv_iload_n hx hb dMO_pass_32 rfl (lv_at hl 3 rfl) ?_
  refine lv_iadd hx hb dMO_pass_33 ?_
  obtain ⟨hi3, h⟩ := h
  refine zr_iald hx hb hK.1 hP zl_638.1 zl_638.2 hi3 dMO_pass_34 ?_
  refine lv_istore hx hb dMO_pass_35 hl (by decide) rfl (fun ls hl => ?_)
  have hl : lv_has ls 9 [(4, .int (st.1 638 ((st.1 635 9) + l1).toNatClampNeg)), (3, .int (st.1 637 ((st.1 635 9) + l1).toNatClampNeg)), (2, .int (st.1 636 ((st.1 635 9) + l1).toNatClampNeg)), (0, .ref (g.2.1 635)), (1, .int l1)] := hl
  refine lv_iload_n hx hb dMO_pass_37 rfl (lv_at hl 2 rfl) ?_
  refine lv_iconst (v := 1) hx hb dMO_pass_38 (by decide) ?_
  refine lv_icmp_ne (tgt := 52) hx hb dMO_pass_39 rfl (fun hc => ?_) (fun hc => ?_)
  · have h := h.1 hc
    clear hc
    exact zw_MO_pass_52 hM  l1 (st.1 636 ((st.1 635 9) + l1).toNatClampNeg) (st.1 637 ((st.1 635 9) + l1).toNatClampNeg) (st.1 638 ((st.1 635 9) + l1).toNatClampNeg) st h ls H locs (lv_sub hl [3, 4, 2, 1, 0] rfl) hP hS
  · have h := h.2 hc
    clear hc
    refine lv_iload_n hx hb dMO_pass_42 rfl (lv_at hl 1 rfl) ?_
    refine lv_iload hx hb dMO_pass_43 (lv_at hl 0 rfl) ?_
    refine lv_icmp_ne (tgt := 52) hx hb dMO_pass_45 rfl (fun hc => ?_) (fun hc => ?_)
    · have h := h.1 hc
      clear hc
      exact zw_MO_pass_52 hM  l1 (st.1 636 ((st.1 635 9) + l1).toNatClampNeg) (st.1 637 ((st.1 635 9) + l1).toNatClampNeg) (st.1 638 ((st.1 635 9) + l1).toNatClampNeg) st h ls H locs (lv_sub hl [3, 4, 2, 1, 0] rfl) hP hS
    · have h := h.2 hc
      clear hc
      refine lv_iconst (v := 1) hx hb dMO_pass_48 (by decide) ?_
      refine lv_goto (tgt := 53) hx hb dMO_pass_49 rfl ?_
      exact zw_MO_pass_53 hM  l1 (st.1 636 ((st.1 635 9) + l1).toNatClampNeg) (st.1 637 ((st.1 635 9) + l1).toNatClampNeg) (st.1 638 ((st.1 635 9) + l1).toNatClampNeg) 1 st h ls H locs (lv_sub hl [3, 4, 2, 1, 0] rfl) hP hS
set_option maxHeartbeats 4000000 in
set_option maxRecDepth 100000 in
theorem zw_MO_meets_150 (hM : zs_M p c cMO_meets 4 s m meth args "ThriftyStoresModel" (some .boolean) g)   {K : Int32 → zs_T → Prop} {B4 : Int32 → Int32 → Int32 → zs_T → Prop} (hB4 : ∀ (l1 : Int32) (l2 : Int32) (l3 : Int32) (st : zs_T), B4 l1 l2 l3 st → zs_Go p l e (zs_rm 0 0) s m args below meth c g A (MQ below (zs_Qi g zs_ly zs_N A K) args s 0 0 A) 4 4 [(0, .ref (g.2.1 635)), (1, .int l1), (2, .int l2), (3, .int l3)] [] st) (l1 : Int32) (l2 : Int32) (l3 : Int32) (s0 : Int32) (s1 : Int32) (st : zs_T) (h : zf_MO_meets_150 K B4 l1 l2 l3 s0 s1 st) : zs_Go p l e (zs_rm 0 0) s m args below meth c g A (MQ below (zs_Qi g zs_ly zs_N A K) args s 0 0 A) 4 150 [(0, .ref (g.2.1 635)), (1, .int l1), (2, .int l2), (3, .int l3)] [.int s0, .int s1, .ref (g.2.1 645)] st := by
  obtain ⟨hx, hb, hml, hr, hlk, hts, hown, hK⟩ := id hM
  intro ls H locs hl hP hS
  unfold zf_MO_meets_150 at h
  obtain ⟨hi1501, h⟩ := h
  refine zr_zast hx hb hK.1 hP hS zl_645.1 zl_645.2 hi1501 dMO_meets_150 (fun H locs hP hS => ?_)
  obtain ⟨t1502, ez⟩ : ∃ tz : zs_T, tz = zs_i st 645 s1.toNatClampNeg (vp_nar .boolean s0) := ⟨_, rfl⟩
  have h := h t1502 ez
  have hP : zs_P g zs_ly zs_N A t1502 H := by rw [ez]; exact hP
  clear ez
  refine lv_iinc (k := 3) (v := l3 + 1) hx hb dMO_meets_151 hl rfl (by rw [show Int32.ofInt (1) = 1 from by decide]) (by decide) rfl (fun ls hl => ?_)
  have hl : lv_has ls 4 [(3, .int (l3 + 1)), (0, .ref (g.2.1 635)), (1, .int l1), (2, .int l2)] := hl
  refine lv_goto (tgt := 4) hx hb dMO_meets_154 rfl ?_
  exact hB4 l1 l2 (l3 + 1) t1502 h ls H locs (lv_sub hl [1, 2, 3, 0] rfl) hP hS
set_option maxHeartbeats 4000000 in
set_option maxRecDepth 100000 in
theorem zw_MO_meets_149 (hM : zs_M p c cMO_meets 4 s m meth args "ThriftyStoresModel" (some .boolean) g)   {K : Int32 → zs_T → Prop} {B4 : Int32 → Int32 → Int32 → zs_T → Prop} (hB4 : ∀ (l1 : Int32) (l2 : Int32) (l3 : Int32) (st : zs_T), B4 l1 l2 l3 st → zs_Go p l e (zs_rm 0 0) s m args below meth c g A (MQ below (zs_Qi g zs_ly zs_N A K) args s 0 0 A) 4 4 [(0, .ref (g.2.1 635)), (1, .int l1), (2, .int l2), (3, .int l3)] [] st) (l1 : Int32) (l2 : Int32) (l3 : Int32) (s0 : Int32) (st : zs_T) (h : zf_MO_meets_149 K B4 l1 l2 l3 s0 st) : zs_Go p l e (zs_rm 0 0) s m args below meth c g A (MQ below (zs_Qi g zs_ly zs_N A K) args s 0 0 A) 4 149 [(0, .ref (g.2.1 635)), (1, .int l1), (2, .int l2), (3, .int l3)] [.int s0, .ref (g.2.1 645)] st := by
  obtain ⟨hx, hb, hml, hr, hlk, hts, hown, hK⟩ := id hM
  intro ls H locs hl hP hS
  unfold zf_MO_meets_149 at h
  refine lv_iconst (v := 0) hx hb dMO_meets_149 (by decide) ?_
  exact zw_MO_meets_150 hM hB4 l1 l2 l3 0 s0 st h ls H locs (lv_sub hl [0, 1, 2, 3] rfl) hP hS
set_option maxHeartbeats 4000000 in
set_option maxRecDepth 100000 in
theorem zw_MO_meets_109 (hM : zs_M p c cMO_meets 4 s m meth args "ThriftyStoresModel" (some .boolean) g)   {K : Int32 → zs_T → Prop} {B4 : Int32 → Int32 → Int32 → zs_T → Prop} (hB4 : ∀ (l1 : Int32) (l2 : Int32) (l3 : Int32) (st : zs_T), B4 l1 l2 l3 st → zs_Go p l e (zs_rm 0 0) s m args below meth c g A (MQ below (zs_Qi g zs_ly zs_N A K) args s 0 0 A) 4 4 [(0, .ref (g.2.1 635)), (1, .int l1), (2, .int l2), (3, .int l3)] [] st) (l1 : Int32) (l2 : Int32) (l3 : Int32) (s0 : Int32) (s1 : Int32) (st : zs_T) (h : zf_MO_meets_109 K B4 l1 l2 l3 s0 s1 st) : zs_Go p l e (zs_rm 0 0) s m args below meth c g A (MQ below (zs_Qi g zs_ly zs_N A K) args s 0 0 A) 4 109 [(0, .ref (g.2.1 635)), (1, .int l1), (2, .int l2), (3, .int l3)] [.int s0, .int s1, .ref (g.2.1 644)] st := by
  obtain ⟨hx, hb, hml, hr, hlk, hts, hown, hK⟩ := id hM
  intro ls H locs hl hP hS
  unfold zf_MO_meets_109 at h
  obtain ⟨hi1101, h⟩ := h
  refine zr_zast hx hb hK.1 hP hS zl_644.1 zl_644.2 hi1101 dMO_meets_109 (fun H locs hP hS => ?_)
  obtain ⟨t1102, ez⟩ : ∃ tz : zs_T, tz = zs_i st 644 s1.toNatClampNeg (vp_nar .boolean s0) := ⟨_, rfl⟩
  have h := h t1102 ez
  have hP : zs_P g zs_ly zs_N A t1102 H := by rw [ez]; exact hP
  clear ez
  refine lv_aload_n hx hb dMO_meets_110 rfl (lv_at hl 0 rfl) ?_
  refine zr_getr (b := 645) hx hb hts zi_MO hown hK.1 hP zl_635.1 zl_635.2 rfl 14 (by decide) rfl (hts _ zq_747) dMO_meets_111 ?_
  refine lv_sipush (v := 256) hx hb dMO_meets_114 (by decide) ?_
  refine lv_iload_n hx hb dMO_meets_117 rfl (lv_at hl 1 rfl) ?_
  refine lv_imul hx hb dMO_meets_118 ?_
  refine lv_iload_n hx hb dMO_meets_119 rfl (lv_at hl 3 rfl) ?_
  refine lv_iadd hx hb dMO_meets_120 ?_
  refine lv_aload_n hx hb dMO_meets_121 rfl (lv_at hl 0 rfl) ?_
  refine zr_getr (b := 645) hx hb hts zi_MO hown hK.1 hP zl_635.1 zl_635.2 rfl 14 (by decide) rfl (hts _ zq_747) dMO_meets_122 ?_
  refine lv_sipush (v := 256) hx hb dMO_meets_125 (by decide) ?_
  refine lv_iload_n hx hb dMO_meets_128 rfl (lv_at hl 1 rfl) ?_
  refine lv_imul hx hb dMO_meets_129 ?_
  refine lv_iload_n hx hb dMO_meets_130 rfl (lv_at hl 3 rfl) ?_
  refine lv_iadd hx hb dMO_meets_131 ?_
  obtain ⟨hi1103, h⟩ := h
  refine zr_zald hx hb hK.1 hP zl_645.1 zl_645.2 hi1103 dMO_meets_132 ?_
  refine lv_if_eq (tgt := 149) hx hb dMO_meets_133 rfl (fun hc => ?_) (fun hc => ?_)
  · have h := h.1 hc
    clear hc
    exact zw_MO_meets_149 hM hB4 l1 l2 l3 ((256 * l1) + l3) t1102 h ls H locs (lv_sub hl [0, 1, 2, 3] rfl) hP hS
  · have h := h.2 hc
    clear hc
    refine lv_aload_n hx hb dMO_meets_136 rfl (lv_at hl 0 rfl) ?_
    refine zr_getr (b := 649) hx hb hts zi_MO hown hK.1 hP zl_635.1 zl_635.2 rfl 18 (by decide) rfl (hts _ zq_751) dMO_meets_137 ?_
    refine lv_iload_n hx hb dMO_meets_140 rfl (lv_at hl 3 rfl) ?_
    obtain ⟨hi1104, h⟩ := h
    refine zr_zald hx hb hK.1 hP zl_649.1 zl_649.2 hi1104 dMO_meets_141 ?_
    refine lv_if_eq (tgt := 149) hx hb dMO_meets_142 rfl (fun hc => ?_) (fun hc => ?_)
    · have h := h.1 hc
      clear hc
      exact zw_MO_meets_149 hM hB4 l1 l2 l3 ((256 * l1) + l3) t1102 h ls H locs (lv_sub hl [0, 1, 2, 3] rfl) hP hS
    · have h := h.2 hc
      clear hc
      refine lv_iconst (v := 1) hx hb dMO_meets_145 (by decide) ?_
      refine lv_goto (tgt := 150) hx hb dMO_meets_146 rfl ?_
      exact zw_MO_meets_150 hM hB4 l1 l2 l3 1 ((256 * l1) + l3) t1102 h ls H locs (lv_sub hl [0, 1, 2, 3] rfl) hP hS
set_option maxHeartbeats 4000000 in
set_option maxRecDepth 100000 in
theorem zw_MO_meets_108 (hM : zs_M p c cMO_meets 4 s m meth args "ThriftyStoresModel" (some .boolean) g)   {K : Int32 → zs_T → Prop} {B4 : Int32 → Int32 → Int32 → zs_T → Prop} (hB4 : ∀ (l1 : Int32) (l2 : Int32) (l3 : Int32) (st : zs_T), B4 l1 l2 l3 st → zs_Go p l e (zs_rm 0 0) s m args below meth c g A (MQ below (zs_Qi g zs_ly zs_N A K) args s 0 0 A) 4 4 [(0, .ref (g.2.1 635)), (1, .int l1), (2, .int l2), (3, .int l3)] [] st) (l1 : Int32) (l2 : Int32) (l3 : Int32) (s0 : Int32) (st : zs_T) (h : zf_MO_meets_108 K B4 l1 l2 l3 s0 st) : zs_Go p l e (zs_rm 0 0) s m args below meth c g A (MQ below (zs_Qi g zs_ly zs_N A K) args s 0 0 A) 4 108 [(0, .ref (g.2.1 635)), (1, .int l1), (2, .int l2), (3, .int l3)] [.int s0, .ref (g.2.1 644)] st := by
  obtain ⟨hx, hb, hml, hr, hlk, hts, hown, hK⟩ := id hM
  intro ls H locs hl hP hS
  unfold zf_MO_meets_108 at h
  refine lv_iconst (v := 0) hx hb dMO_meets_108 (by decide) ?_
  exact zw_MO_meets_109 hM hB4 l1 l2 l3 0 s0 st h ls H locs (lv_sub hl [0, 1, 2, 3] rfl) hP hS
set_option maxHeartbeats 4000000 in
set_option maxRecDepth 100000 in
theorem zw_MO_meets_68 (hM : zs_M p c cMO_meets 4 s m meth args "ThriftyStoresModel" (some .boolean) g)   {K : Int32 → zs_T → Prop} {B4 : Int32 → Int32 → Int32 → zs_T → Prop} (hB4 : ∀ (l1 : Int32) (l2 : Int32) (l3 : Int32) (st : zs_T), B4 l1 l2 l3 st → zs_Go p l e (zs_rm 0 0) s m args below meth c g A (MQ below (zs_Qi g zs_ly zs_N A K) args s 0 0 A) 4 4 [(0, .ref (g.2.1 635)), (1, .int l1), (2, .int l2), (3, .int l3)] [] st) (l1 : Int32) (l3 : Int32) (s0 : Int32) (st : zs_T) (h : zf_MO_meets_68 K B4 l1 l3 s0 st) : zs_Go p l e (zs_rm 0 0) s m args below meth c g A (MQ below (zs_Qi g zs_ly zs_N A K) args s 0 0 A) 4 68 [(0, .ref (g.2.1 635)), (1, .int l1), (3, .int l3)] [.int s0] st := by
  obtain ⟨hx, hb, hml, hr, hlk, hts, hown, hK⟩ := id hM
  intro ls H locs hl hP hS
  unfold zf_MO_meets_68 at h
  refine lv_istore_n hx hb dMO_meets_68 rfl hl (by decide) rfl (fun ls hl => ?_)
  have hl : lv_has ls 4 [(2, .int s0), (0, .ref (g.2.1 635)), (1, .int l1), (3, .int l3)] := hl
  refine lv_aload_n hx hb dMO_meets_69 rfl (lv_at hl 1 rfl) ?_
  refine zr_getr (b := 644) hx hb hts zi_MO hown hK.1 hP zl_635.1 zl_635.2 rfl 13 (by decide) rfl (hts _ zq_746) dMO_meets_70 ?_
  refine lv_sipush (v := 256) hx hb dMO_meets_73 (by decide) ?_
  refine lv_iload_n hx hb dMO_meets_76 rfl (lv_at hl 2 rfl) ?_
  refine lv_imul hx hb dMO_meets_77 ?_
  refine lv_iload_n hx hb dMO_meets_78 rfl (lv_at hl 3 rfl) ?_
  refine lv_iadd hx hb dMO_meets_79 ?_
  refine lv_aload_n hx hb dMO_meets_80 rfl (lv_at hl 1 rfl) ?_
  refine zr_getr (b := 644) hx hb hts zi_MO hown hK.1 hP zl_635.1 zl_635.2 rfl 13 (by decide) rfl (hts _ zq_746) dMO_meets_81 ?_
  refine lv_sipush (v := 256) hx hb dMO_meets_84 (by decide) ?_
  refine lv_iload_n hx hb dMO_meets_87 rfl (lv_at hl 2 rfl) ?_
  refine lv_imul hx hb dMO_meets_88 ?_
  refine lv_iload_n hx hb dMO_meets_89 rfl (lv_at hl 3 rfl) ?_
  refine lv_iadd hx hb dMO_meets_90 ?_
  obtain ⟨hi701, h⟩ := h
  refine zr_zald hx hb hK.1 hP zl_644.1 zl_644.2 hi701 dMO_meets_91 ?_
  refine lv_if_eq (tgt := 108) hx hb dMO_meets_92 rfl (fun hc => ?_) (fun hc => ?_)
  · have h := h.1 hc
    clear hc
    exact zw_MO_meets_108 hM hB4 l1 s0 l3 ((256 * l1) + l3) st h ls H locs (lv_sub hl [1, 2, 0, 3] rfl) hP hS
  · have h := h.2 hc
    clear hc
    refine lv_aload_n hx hb dMO_meets_95 rfl (lv_at hl 1 rfl) ?_
    refine zr_getr (b := 648) hx hb hts zi_MO hown hK.1 hP zl_635.1 zl_635.2 rfl 17 (by decide) rfl (hts _ zq_750) dMO_meets_96 ?_
    refine lv_iload_n hx hb dMO_meets_99 rfl (lv_at hl 3 rfl) ?_
    obtain ⟨hi702, h⟩ := h
    refine zr_zald hx hb hK.1 hP zl_648.1 zl_648.2 hi702 dMO_meets_100 ?_
    refine lv_if_eq (tgt := 108) hx hb dMO_meets_101 rfl (fun hc => ?_) (fun hc => ?_)
    · have h := h.1 hc
      clear hc
      exact zw_MO_meets_108 hM hB4 l1 s0 l3 ((256 * l1) + l3) st h ls H locs (lv_sub hl [1, 2, 0, 3] rfl) hP hS
    · have h := h.2 hc
      clear hc
      refine lv_iconst (v := 1) hx hb dMO_meets_104 (by decide) ?_
      refine lv_goto (tgt := 109) hx hb dMO_meets_105 rfl ?_
      exact zw_MO_meets_109 hM hB4 l1 s0 l3 1 ((256 * l1) + l3) st h ls H locs (lv_sub hl [1, 2, 0, 3] rfl) hP hS
set_option maxHeartbeats 4000000 in
set_option maxRecDepth 100000 in
theorem zw_MO_meets_63 (hM : zs_M p c cMO_meets 4 s m meth args "ThriftyStoresModel" (some .boolean) g)   {K : Int32 → zs_T → Prop} {B4 : Int32 → Int32 → Int32 → zs_T → Prop} (hB4 : ∀ (l1 : Int32) (l2 : Int32) (l3 : Int32) (st : zs_T), B4 l1 l2 l3 st → zs_Go p l e (zs_rm 0 0) s m args below meth c g A (MQ below (zs_Qi g zs_ly zs_N A K) args s 0 0 A) 4 4 [(0, .ref (g.2.1 635)), (1, .int l1), (2, .int l2), (3, .int l3)] [] st) (l1 : Int32) (l3 : Int32) (st : zs_T) (h : zf_MO_meets_63 K B4 l1 l3 st) : zs_Go p l e (zs_rm 0 0) s m args below meth c g A (MQ below (zs_Qi g zs_ly zs_N A K) args s 0 0 A) 4 63 [(0, .ref (g.2.1 635)), (1, .int l1), (3, .int l3)] [] st := by
  obtain ⟨hx, hb, hml, hr, hlk, hts, hown, hK⟩ := id hM
  intro ls H locs hl hP hS
  unfold zf_MO_meets_63 at h
  refine lv_iconst (v := 1) hx hb dMO_meets_63 (by decide) ?_
  refine lv_goto (tgt := 68) hx hb dMO_meets_64 rfl ?_
  exact zw_MO_meets_68 hM hB4 l1 l3 1 st h ls H locs (lv_sub hl [0, 1, 2] rfl) hP hS
set_option maxHeartbeats 4000000 in
set_option maxRecDepth 100000 in
theorem zw_MO_meets_67 (hM : zs_M p c cMO_meets 4 s m meth args "ThriftyStoresModel" (some .boolean) g)   {K : Int32 → zs_T → Prop} {B4 : Int32 → Int32 → Int32 → zs_T → Prop} (hB4 : ∀ (l1 : Int32) (l2 : Int32) (l3 : Int32) (st : zs_T), B4 l1 l2 l3 st → zs_Go p l e (zs_rm 0 0) s m args below meth c g A (MQ below (zs_Qi g zs_ly zs_N A K) args s 0 0 A) 4 4 [(0, .ref (g.2.1 635)), (1, .int l1), (2, .int l2), (3, .int l3)] [] st) (l1 : Int32) (l3 : Int32) (st : zs_T) (h : zf_MO_meets_67 K B4 l1 l3 st) : zs_Go p l e (zs_rm 0 0) s m args below meth c g A (MQ below (zs_Qi g zs_ly zs_N A K) args s 0 0 A) 4 67 [(0, .ref (g.2.1 635)), (1, .int l1), (3, .int l3)] [] st := by
  obtain ⟨hx, hb, hml, hr, hlk, hts, hown, hK⟩ := id hM
  intro ls H locs hl hP hS
  unfold zf_MO_meets_67 at h
  refine lv_iconst (v := 0) hx hb dMO_meets_67 (by decide) ?_
  exact zw_MO_meets_68 hM hB4 l1 l3 0 st h ls H locs (lv_sub hl [0, 1, 2] rfl) hP hS
set_option maxHeartbeats 4000000 in
set_option maxRecDepth 100000 in
theorem zw_MO_meets_39 (hM : zs_M p c cMO_meets 4 s m meth args "ThriftyStoresModel" (some .boolean) g)   {K : Int32 → zs_T → Prop} {B4 : Int32 → Int32 → Int32 → zs_T → Prop} (hB4 : ∀ (l1 : Int32) (l2 : Int32) (l3 : Int32) (st : zs_T), B4 l1 l2 l3 st → zs_Go p l e (zs_rm 0 0) s m args below meth c g A (MQ below (zs_Qi g zs_ly zs_N A K) args s 0 0 A) 4 4 [(0, .ref (g.2.1 635)), (1, .int l1), (2, .int l2), (3, .int l3)] [] st) (l1 : Int32) (l3 : Int32) (st : zs_T) (h : zf_MO_meets_39 K B4 l1 l3 st) : zs_Go p l e (zs_rm 0 0) s m args below meth c g A (MQ below (zs_Qi g zs_ly zs_N A K) args s 0 0 A) 4 39 [(0, .ref (g.2.1 635)), (1, .int l1), (3, .int l3)] [] st := by
  obtain ⟨hx, hb, hml, hr, hlk, hts, hown, hK⟩ := id hM
  intro ls H locs hl hP hS
  unfold zf_MO_meets_39 at h
  refine lv_aload_n hx hb dMO_meets_39 rfl (lv_at hl 0 rfl) ?_
  refine zr_getr (b := 645) hx hb hts zi_MO hown hK.1 hP zl_635.1 zl_635.2 rfl 14 (by decide) rfl (hts _ zq_747) dMO_meets_40 ?_
  refine lv_sipush (v := 256) hx hb dMO_meets_43 (by decide) ?_
  refine lv_iload_n hx hb dMO_meets_46 rfl (lv_at hl 1 rfl) ?_
  refine lv_imul hx hb dMO_meets_47 ?_
  refine lv_iload_n hx hb dMO_meets_48 rfl (lv_at hl 2 rfl) ?_
  refine lv_iadd hx hb dMO_meets_49 ?_
  obtain ⟨hi401, h⟩ := h
  refine zr_zald hx hb hK.1 hP zl_645.1 zl_645.2 hi401 dMO_meets_50 ?_
  refine lv_if_eq (tgt := 67) hx hb dMO_meets_51 rfl (fun hc => ?_) (fun hc => ?_)
  · have h := h.1 hc
    clear hc
    exact zw_MO_meets_67 hM hB4 l1 l3 st h ls H locs (lv_sub hl [0, 1, 2] rfl) hP hS
  · have h := h.2 hc
    clear hc
    refine lv_aload_n hx hb dMO_meets_54 rfl (lv_at hl 0 rfl) ?_
    refine zr_getr (b := 649) hx hb hts zi_MO hown hK.1 hP zl_635.1 zl_635.2 rfl 18 (by decide) rfl (hts _ zq_751) dMO_meets_55 ?_
    refine lv_iload_n hx hb dMO_meets_58 rfl (lv_at hl 2 rfl) ?_
    obtain ⟨hi402, h⟩ := h
    refine zr_zald hx hb hK.1 hP zl_649.1 zl_649.2 hi402 dMO_meets_59 ?_
    refine lv_if_ne (tgt := 67) hx hb dMO_meets_60 rfl (fun hc => ?_) (fun hc => ?_)
    · have h := h.1 hc
      clear hc
      exact zw_MO_meets_67 hM hB4 l1 l3 st h ls H locs (lv_sub hl [0, 1, 2] rfl) hP hS
    · have h := h.2 hc
      clear hc
      exact zw_MO_meets_63 hM hB4 l1 l3 st h ls H locs (lv_sub hl [0, 1, 2] rfl) hP hS
set_option maxHeartbeats 4000000 in
set_option maxRecDepth 100000 in
theorem zw_MO_meets_236 (hM : zs_M p c cMO_meets 4 s m meth args "ThriftyStoresModel" (some .boolean) g)   {K : Int32 → zs_T → Prop} {B159 : Int32 → Int32 → Int32 → zs_T → Prop} (hB159 : ∀ (l1 : Int32) (l2 : Int32) (l3 : Int32) (st : zs_T), B159 l1 l2 l3 st → zs_Go p l e (zs_rm 0 0) s m args below meth c g A (MQ below (zs_Qi g zs_ly zs_N A K) args s 0 0 A) 4 159 [(0, .ref (g.2.1 635)), (1, .int l1), (2, .int l2), (3, .int l3)] [] st) (l1 : Int32) (l2 : Int32) (l3 : Int32) (s0 : Int32) (s1 : Int32) (st : zs_T) (h : zf_MO_meets_236 K B159 l1 l2 l3 s0 s1 st) : zs_Go p l e (zs_rm 0 0) s m args below meth c g A (MQ below (zs_Qi g zs_ly zs_N A K) args s 0 0 A) 4 236 [(0, .ref (g.2.1 635)), (1, .int l1), (2, .int l2), (3, .int l3)] [.int s0, .int s1, .ref (g.2.1 646)] st := by
  obtain ⟨hx, hb, hml, hr, hlk, hts, hown, hK⟩ := id hM
  intro ls H locs hl hP hS
  unfold zf_MO_meets_236 at h
  obtain ⟨hi1301, h⟩ := h
  refine zr_zast hx hb hK.1 hP hS zl_646.1 zl_646.2 hi1301 dMO_meets_236 (fun H locs hP hS => ?_)
  obtain ⟨t1302, ez⟩ : ∃ tz : zs_T, tz = zs_i st 646 s1.toNatClampNeg (vp_nar .boolean s0) := ⟨_, rfl⟩
  have h := h t1302 ez
  have hP : zs_P g zs_ly zs_N A t1302 H := by rw [ez]; exact hP
  clear ez
  refine lv_iinc (k := 3) (v := l3 + 1) hx hb dMO_meets_237 hl rfl (by rw [show Int32.ofInt (1) = 1 from by decide]) (by decide) rfl (fun ls hl => ?_)
  have hl : lv_has ls 4 [(3, .int (l3 + 1)), (0, .ref (g.2.1 635)), (1, .int l1), (2, .int l2)] := hl
  refine lv_goto (tgt := 159) hx hb dMO_meets_240 rfl ?_
  exact hB159 l1 l2 (l3 + 1) t1302 h ls H locs (lv_sub hl [1, 2, 3, 0] rfl) hP hS
set_option maxHeartbeats 4000000 in
set_option maxRecDepth 100000 in
theorem zw_MO_meets_235 (hM : zs_M p c cMO_meets 4 s m meth args "ThriftyStoresModel" (some .boolean) g)   {K : Int32 → zs_T → Prop} {B159 : Int32 → Int32 → Int32 → zs_T → Prop} (hB159 : ∀ (l1 : Int32) (l2 : Int32) (l3 : Int32) (st : zs_T), B159 l1 l2 l3 st → zs_Go p l e (zs_rm 0 0) s m args below meth c g A (MQ below (zs_Qi g zs_ly zs_N A K) args s 0 0 A) 4 159 [(0, .ref (g.2.1 635)), (1, .int l1), (2, .int l2), (3, .int l3)] [] st) (l1 : Int32) (l2 : Int32) (l3 : Int32) (s0 : Int32) (st : zs_T) (h : zf_MO_meets_235 K B159 l1 l2 l3 s0 st) : zs_Go p l e (zs_rm 0 0) s m args below meth c g A (MQ below (zs_Qi g zs_ly zs_N A K) args s 0 0 A) 4 235 [(0, .ref (g.2.1 635)), (1, .int l1), (2, .int l2), (3, .int l3)] [.int s0, .ref (g.2.1 646)] st := by
  obtain ⟨hx, hb, hml, hr, hlk, hts, hown, hK⟩ := id hM
  intro ls H locs hl hP hS
  unfold zf_MO_meets_235 at h
  refine lv_iconst (v := 0) hx hb dMO_meets_235 (by decide) ?_
  exact zw_MO_meets_236 hM hB159 l1 l2 l3 0 s0 st h ls H locs (lv_sub hl [0, 1, 2, 3] rfl) hP hS
set_option maxHeartbeats 4000000 in
set_option maxRecDepth 100000 in
theorem zw_MO_meets_197 (hM : zs_M p c cMO_meets 4 s m meth args "ThriftyStoresModel" (some .boolean) g)   {K : Int32 → zs_T → Prop} {B159 : Int32 → Int32 → Int32 → zs_T → Prop} (hB159 : ∀ (l1 : Int32) (l2 : Int32) (l3 : Int32) (st : zs_T), B159 l1 l2 l3 st → zs_Go p l e (zs_rm 0 0) s m args below meth c g A (MQ below (zs_Qi g zs_ly zs_N A K) args s 0 0 A) 4 159 [(0, .ref (g.2.1 635)), (1, .int l1), (2, .int l2), (3, .int l3)] [] st) (l1 : Int32) (l3 : Int32) (s0 : Int32) (st : zs_T) (h : zf_MO_meets_197 K B159 l1 l3 s0 st) : zs_Go p l e (zs_rm 0 0) s m args below meth c g A (MQ below (zs_Qi g zs_ly zs_N A K) args s 0 0 A) 4 197 [(0, .ref (g.2.1 635)), (1, .int l1), (3, .int l3)] [.int s0] st := by
  obtain ⟨hx, hb, hml, hr, hlk, hts, hown, hK⟩ := id hM
  intro ls H locs hl hP hS
  unfold zf_MO_meets_197 at h
  refine lv_istore_n hx hb dMO_meets_197 rfl hl (by decide) rfl (fun ls hl => ?_)
  have hl : lv_has ls 4 [(2, .int s0), (0, .ref (g.2.1 635)), (1, .int l1), (3, .int l3)] := hl
  refine lv_aload_n hx hb dMO_meets_198 rfl (lv_at hl 1 rfl) ?_
  refine zr_getr (b := 646) hx hb hts zi_MO hown hK.1 hP zl_635.1 zl_635.2 rfl 15 (by decide) rfl (hts _ zq_748) dMO_meets_199 ?_
  refine lv_bipush (v := 16) hx hb dMO_meets_202 (by decide) ?_
  refine lv_iload_n hx hb dMO_meets_204 rfl (lv_at hl 2 rfl) ?_
  refine lv_imul hx hb dMO_meets_205 ?_
  refine lv_iload_n hx hb dMO_meets_206 rfl (lv_at hl 3 rfl) ?_
  refine lv_iadd hx hb dMO_meets_207 ?_
  refine lv_aload_n hx hb dMO_meets_208 rfl (lv_at hl 1 rfl) ?_
  refine zr_getr (b := 646) hx hb hts zi_MO hown hK.1 hP zl_635.1 zl_635.2 rfl 15 (by decide) rfl (hts _ zq_748) dMO_meets_209 ?_
  refine lv_bipush (v := 16) hx hb dMO_meets_212 (by decide) ?_
  refine lv_iload_n hx hb dMO_meets_214 rfl (lv_at hl 2 rfl) ?_
  refine lv_imul hx hb dMO_meets_215 ?_
  refine lv_iload_n hx hb dMO_meets_216 rfl (lv_at hl 3 rfl) ?_
  refine lv_iadd hx hb dMO_meets_217 ?_
  obtain ⟨hi901, h⟩ := h
  refine zr_zald hx hb hK.1 hP zl_646.1 zl_646.2 hi901 dMO_meets_218 ?_
  refine lv_if_eq (tgt := 235) hx hb dMO_meets_219 rfl (fun hc => ?_) (fun hc => ?_)
  · have h := h.1 hc
    clear hc
    exact zw_MO_meets_235 hM hB159 l1 s0 l3 ((16 * l1) + l3) st h ls H locs (lv_sub hl [1, 2, 0, 3] rfl) hP hS
  · have h := h.2 hc
    clear hc
    refine lv_aload_n hx hb dMO_meets_222 rfl (lv_at hl 1 rfl) ?_
    refine zr_getr (b := 650) hx hb hts zi_MO hown hK.1 hP zl_635.1 zl_635.2 rfl 19 (by decide) rfl (hts _ zq_752) dMO_meets_223 ?_
    refine lv_iload_n hx hb dMO_meets_226 rfl (lv_at hl 3 rfl) ?_
    obtain ⟨hi902, h⟩ := h
    refine zr_zald hx hb hK.1 hP zl_650.1 zl_650.2 hi902 dMO_meets_227 ?_
    refine lv_if_eq (tgt := 235) hx hb dMO_meets_228 rfl (fun hc => ?_) (fun hc => ?_)
    · have h := h.1 hc
      clear hc
      exact zw_MO_meets_235 hM hB159 l1 s0 l3 ((16 * l1) + l3) st h ls H locs (lv_sub hl [1, 2, 0, 3] rfl) hP hS
    · have h := h.2 hc
      clear hc
      refine lv_iconst (v := 1) hx hb dMO_meets_231 (by decide) ?_
      refine lv_goto (tgt := 236) hx hb dMO_meets_232 rfl ?_
      exact zw_MO_meets_236 hM hB159 l1 s0 l3 1 ((16 * l1) + l3) st h ls H locs (lv_sub hl [1, 2, 0, 3] rfl) hP hS
set_option maxHeartbeats 4000000 in
set_option maxRecDepth 100000 in
theorem zw_MO_meets_192 (hM : zs_M p c cMO_meets 4 s m meth args "ThriftyStoresModel" (some .boolean) g)   {K : Int32 → zs_T → Prop} {B159 : Int32 → Int32 → Int32 → zs_T → Prop} (hB159 : ∀ (l1 : Int32) (l2 : Int32) (l3 : Int32) (st : zs_T), B159 l1 l2 l3 st → zs_Go p l e (zs_rm 0 0) s m args below meth c g A (MQ below (zs_Qi g zs_ly zs_N A K) args s 0 0 A) 4 159 [(0, .ref (g.2.1 635)), (1, .int l1), (2, .int l2), (3, .int l3)] [] st) (l1 : Int32) (l3 : Int32) (st : zs_T) (h : zf_MO_meets_192 K B159 l1 l3 st) : zs_Go p l e (zs_rm 0 0) s m args below meth c g A (MQ below (zs_Qi g zs_ly zs_N A K) args s 0 0 A) 4 192 [(0, .ref (g.2.1 635)), (1, .int l1), (3, .int l3)] [] st := by
  obtain ⟨hx, hb, hml, hr, hlk, hts, hown, hK⟩ := id hM
  intro ls H locs hl hP hS
  unfold zf_MO_meets_192 at h
  refine lv_iconst (v := 1) hx hb dMO_meets_192 (by decide) ?_
  refine lv_goto (tgt := 197) hx hb dMO_meets_193 rfl ?_
  exact zw_MO_meets_197 hM hB159 l1 l3 1 st h ls H locs (lv_sub hl [0, 1, 2] rfl) hP hS
set_option maxHeartbeats 4000000 in
set_option maxRecDepth 100000 in
theorem zw_MO_meets_196 (hM : zs_M p c cMO_meets 4 s m meth args "ThriftyStoresModel" (some .boolean) g)   {K : Int32 → zs_T → Prop} {B159 : Int32 → Int32 → Int32 → zs_T → Prop} (hB159 : ∀ (l1 : Int32) (l2 : Int32) (l3 : Int32) (st : zs_T), B159 l1 l2 l3 st → zs_Go p l e (zs_rm 0 0) s m args below meth c g A (MQ below (zs_Qi g zs_ly zs_N A K) args s 0 0 A) 4 159 [(0, .ref (g.2.1 635)), (1, .int l1), (2, .int l2), (3, .int l3)] [] st) (l1 : Int32) (l3 : Int32) (st : zs_T) (h : zf_MO_meets_196 K B159 l1 l3 st) : zs_Go p l e (zs_rm 0 0) s m args below meth c g A (MQ below (zs_Qi g zs_ly zs_N A K) args s 0 0 A) 4 196 [(0, .ref (g.2.1 635)), (1, .int l1), (3, .int l3)] [] st := by
  obtain ⟨hx, hb, hml, hr, hlk, hts, hown, hK⟩ := id hM
  intro ls H locs hl hP hS
  unfold zf_MO_meets_196 at h
  refine lv_iconst (v := 0) hx hb dMO_meets_196 (by decide) ?_
  exact zw_MO_meets_197 hM hB159 l1 l3 0 st h ls H locs (lv_sub hl [0, 1, 2] rfl) hP hS
set_option maxHeartbeats 4000000 in
set_option maxRecDepth 100000 in
theorem zw_MO_meets_159_s (hM : zs_M p c cMO_meets 4 s m meth args "ThriftyStoresModel" (some .boolean) g)   {K : Int32 → zs_T → Prop}  {B159 : Int32 → Int32 → Int32 → zs_T → Prop}  (hB159 : ∀ (l1 : Int32) (l2 : Int32) (l3 : Int32) (st : zs_T), B159 l1 l2 l3 st → zs_Go p l e (zs_rm 0 0) s m args below meth c g A (MQ below (zs_Qi g zs_ly zs_N A K) args s 0 0 A) 4 159 [(0, .ref (g.2.1 635)), (1, .int l1), (2, .int l2), (3, .int l3)] [] st) (l1 : Int32) (l2 : Int32) (l3 : Int32) (st : zs_T) (h : zf_MO_meets_159_s K B159 l1 l2 l3 st) : zs_Go p l e (zs_rm 0 0) s m args below meth c g A (MQ below (zs_Qi g zs_ly zs_N A K) args s 0 0 A) 4 159 [(0, .ref (g.2.1 635)), (1, .int l1), (2, .int l2), (3, .int l3)] [] st := by
  obtain ⟨hx, hb, hml, hr, hlk, hts, hown, hK⟩ := id hM
  intro ls H locs hl hP hS
  unfold zf_MO_meets_159_s at h
  refine lv_iload_n hx hb dMO_meets_159 rfl (lv_at hl 3 rfl) ?_
  refine lv_bipush (v := 16) hx hb dMO_meets_160 (by decide) ?_
  refine lv_icmp_ge (tgt := 243) hx hb dMO_meets_162 rfl (fun hc => ?_) (fun hc => ?_)
  · have h := h.1 hc
    clear hc
    refine lv_iload_n hx hb dMO_meets_243 rfl (lv_at hl 2 rfl) ?_
    exact zr_zret hx hb hr hlk hP hS (zs_bn h.1) h.2 dMO_meets_244
  · have h := h.2 hc
    clear hc
    refine lv_iload_n hx hb dMO_meets_165 rfl (lv_at hl 2 rfl) ?_
    refine lv_if_ne (tgt := 192) hx hb dMO_meets_166 rfl (fun hc => ?_) (fun hc => ?_)
    · have h := h.1 hc
      clear hc
      exact zw_MO_meets_192 hM hB159 l1 l3 st h ls H locs (lv_sub hl [0, 1, 3] rfl) hP hS
    · have h := h.2 hc
      clear hc
      refine lv_aload_n hx hb dMO_meets_169 rfl (lv_at hl 0 rfl) ?_
      refine zr_getr (b := 646) hx hb hts zi_MO hown hK.1 hP zl_635.1 zl_635.2 rfl 15 (by decide) rfl (hts _ zq_748) dMO_meets_170 ?_
      refine lv_bipush (v := 16) hx hb dMO_meets_173 (by decide) ?_
      refine lv_iload_n hx hb dMO_meets_175 rfl (lv_at hl 1 rfl) ?_
      refine lv_imul hx hb dMO_meets_176 ?_
      refine lv_iload_n hx hb dMO_meets_177 rfl (lv_at hl 3 rfl) ?_
      refine lv_iadd hx hb dMO_meets_178 ?_
      obtain ⟨hi202, h⟩ := h
      refine zr_zald hx hb hK.1 hP zl_646.1 zl_646.2 hi202 dMO_meets_179 ?_
      refine lv_if_eq (tgt := 196) hx hb dMO_meets_180 rfl (fun hc => ?_) (fun hc => ?_)
      · have h := h.1 hc
        clear hc
        exact zw_MO_meets_196 hM hB159 l1 l3 st h ls H locs (lv_sub hl [0, 1, 3] rfl) hP hS
      · have h := h.2 hc
        clear hc
        refine lv_aload_n hx hb dMO_meets_183 rfl (lv_at hl 0 rfl) ?_
        refine zr_getr (b := 650) hx hb hts zi_MO hown hK.1 hP zl_635.1 zl_635.2 rfl 19 (by decide) rfl (hts _ zq_752) dMO_meets_184 ?_
        refine lv_iload_n hx hb dMO_meets_187 rfl (lv_at hl 3 rfl) ?_
        obtain ⟨hi203, h⟩ := h
        refine zr_zald hx hb hK.1 hP zl_650.1 zl_650.2 hi203 dMO_meets_188 ?_
        refine lv_if_ne (tgt := 196) hx hb dMO_meets_189 rfl (fun hc => ?_) (fun hc => ?_)
        · have h := h.1 hc
          clear hc
          exact zw_MO_meets_196 hM hB159 l1 l3 st h ls H locs (lv_sub hl [0, 1, 3] rfl) hP hS
        · have h := h.2 hc
          clear hc
          exact zw_MO_meets_192 hM hB159 l1 l3 st h ls H locs (lv_sub hl [0, 1, 3] rfl) hP hS
theorem zw_MO_meets_159 (hM : zs_M p c cMO_meets 4 s m meth args "ThriftyStoresModel" (some .boolean) g)   {K : Int32 → zs_T → Prop}   : ∀ (n : Nat) (l1 : Int32) (l2 : Int32) (l3 : Int32) (st : zs_T), zf_MO_meets_159 K n l1 l2 l3 st → zs_Go p l e (zs_rm 0 0) s m args below meth c g A (MQ below (zs_Qi g zs_ly zs_N A K) args s 0 0 A) 4 159 [(0, .ref (g.2.1 635)), (1, .int l1), (2, .int l2), (3, .int l3)] [] st := by
  intro n
  induction n with
  | zero => intro l1 l2 l3 st h; exact False.elim h
  | succ n ih => intro l1 l2 l3 st h; exact zw_MO_meets_159_s hM  ih l1 l2 l3 st h
set_option maxHeartbeats 4000000 in
set_option maxRecDepth 100000 in
theorem zw_MO_meets_4_s (hM : zs_M p c cMO_meets 4 s m meth args "ThriftyStoresModel" (some .boolean) g)   {K : Int32 → zs_T → Prop}  {B4 : Int32 → Int32 → Int32 → zs_T → Prop}  (hB4 : ∀ (l1 : Int32) (l2 : Int32) (l3 : Int32) (st : zs_T), B4 l1 l2 l3 st → zs_Go p l e (zs_rm 0 0) s m args below meth c g A (MQ below (zs_Qi g zs_ly zs_N A K) args s 0 0 A) 4 4 [(0, .ref (g.2.1 635)), (1, .int l1), (2, .int l2), (3, .int l3)] [] st) (l1 : Int32) (l2 : Int32) (l3 : Int32) (st : zs_T) (h : zf_MO_meets_4_s K B4 l1 l2 l3 st) : zs_Go p l e (zs_rm 0 0) s m args below meth c g A (MQ below (zs_Qi g zs_ly zs_N A K) args s 0 0 A) 4 4 [(0, .ref (g.2.1 635)), (1, .int l1), (2, .int l2), (3, .int l3)] [] st := by
  obtain ⟨hx, hb, hml, hr, hlk, hts, hown, hK⟩ := id hM
  intro ls H locs hl hP hS
  unfold zf_MO_meets_4_s at h
  refine lv_iload_n hx hb dMO_meets_4 rfl (lv_at hl 3 rfl) ?_
  refine lv_sipush (v := 256) hx hb dMO_meets_5 (by decide) ?_
  refine lv_icmp_ge (tgt := 157) hx hb dMO_meets_8 rfl (fun hc => ?_) (fun hc => ?_)
  · have h := h.1 hc
    clear hc
    refine lv_iconst (v := 0) hx hb dMO_meets_157 (by decide) ?_
    refine lv_istore_n hx hb dMO_meets_158 rfl hl (by decide) rfl (fun ls hl => ?_)
    have hl : lv_has ls 4 [(3, .int 0), (0, .ref (g.2.1 635)), (1, .int l1), (2, .int l2)] := hl
    obtain ⟨n, h⟩ := h
    exact zw_MO_meets_159 hM  n l1 l2 0 st h ls H locs (lv_sub hl [1, 2, 3, 0] rfl) hP hS
  · have h := h.2 hc
    clear hc
    refine lv_iload_n hx hb dMO_meets_11 rfl (lv_at hl 2 rfl) ?_
    refine lv_if_ne (tgt := 63) hx hb dMO_meets_12 rfl (fun hc => ?_) (fun hc => ?_)
    · have h := h.1 hc
      clear hc
      exact zw_MO_meets_63 hM hB4 l1 l3 st h ls H locs (lv_sub hl [0, 1, 3] rfl) hP hS
    · have h := h.2 hc
      clear hc
      refine lv_aload_n hx hb dMO_meets_15 rfl (lv_at hl 0 rfl) ?_
      refine zr_getr (b := 644) hx hb hts zi_MO hown hK.1 hP zl_635.1 zl_635.2 rfl 13 (by decide) rfl (hts _ zq_746) dMO_meets_16 ?_
      refine lv_sipush (v := 256) hx hb dMO_meets_19 (by decide) ?_
      refine lv_iload_n hx hb dMO_meets_22 rfl (lv_at hl 1 rfl) ?_
      refine lv_imul hx hb dMO_meets_23 ?_
      refine lv_iload_n hx hb dMO_meets_24 rfl (lv_at hl 3 rfl) ?_
      refine lv_iadd hx hb dMO_meets_25 ?_
      obtain ⟨hi101, h⟩ := h
      refine zr_zald hx hb hK.1 hP zl_644.1 zl_644.2 hi101 dMO_meets_26 ?_
      refine lv_if_eq (tgt := 39) hx hb dMO_meets_27 rfl (fun hc => ?_) (fun hc => ?_)
      · have h := h.1 hc
        clear hc
        exact zw_MO_meets_39 hM hB4 l1 l3 st h ls H locs (lv_sub hl [0, 1, 3] rfl) hP hS
      · have h := h.2 hc
        clear hc
        refine lv_aload_n hx hb dMO_meets_30 rfl (lv_at hl 0 rfl) ?_
        refine zr_getr (b := 648) hx hb hts zi_MO hown hK.1 hP zl_635.1 zl_635.2 rfl 17 (by decide) rfl (hts _ zq_750) dMO_meets_31 ?_
        refine lv_iload_n hx hb dMO_meets_34 rfl (lv_at hl 3 rfl) ?_
        obtain ⟨hi102, h⟩ := h
        refine zr_zald hx hb hK.1 hP zl_648.1 zl_648.2 hi102 dMO_meets_35 ?_
        refine lv_if_eq (tgt := 63) hx hb dMO_meets_36 rfl (fun hc => ?_) (fun hc => ?_)
        · have h := h.1 hc
          clear hc
          exact zw_MO_meets_63 hM hB4 l1 l3 st h ls H locs (lv_sub hl [0, 1, 3] rfl) hP hS
        · have h := h.2 hc
          clear hc
          exact zw_MO_meets_39 hM hB4 l1 l3 st h ls H locs (lv_sub hl [0, 1, 3] rfl) hP hS
theorem zw_MO_meets_4 (hM : zs_M p c cMO_meets 4 s m meth args "ThriftyStoresModel" (some .boolean) g)   {K : Int32 → zs_T → Prop}   : ∀ (n : Nat) (l1 : Int32) (l2 : Int32) (l3 : Int32) (st : zs_T), zf_MO_meets_4 K n l1 l2 l3 st → zs_Go p l e (zs_rm 0 0) s m args below meth c g A (MQ below (zs_Qi g zs_ly zs_N A K) args s 0 0 A) 4 4 [(0, .ref (g.2.1 635)), (1, .int l1), (2, .int l2), (3, .int l3)] [] st := by
  intro n
  induction n with
  | zero => intro l1 l2 l3 st h; exact False.elim h
  | succ n ih => intro l1 l2 l3 st h; exact zw_MO_meets_4_s hM  ih l1 l2 l3 st h
set_option maxHeartbeats 4000000 in
set_option maxRecDepth 100000 in
theorem zc_MO_meets (l : Launch) (g : zs_G) (A : Nat → Prop) {l1 : Int32}  {st : zs_T} {K : Int32 → zs_T → Prop} (h : zf_MO_meets l1 st K) : Met l yMO_meets (.code yMO_meets cMO_meets 4 (some .boolean) :: zs_tb) (zs_rm 0 0) (zs_Pc zs_nl g zs_ly zs_N A [.ref (g.2.1 635), .int l1] st) (zs_Qi g zs_ly zs_N A K) 0 0 A := by
  refine zs_met (cc := cMO_meets) (maxL := 4) (ret := (some .boolean)) (by decide) (Nat.le_of_ble_eq_true rfl) (fun p e s m below meth c hM => ?_)
  have hM : zs_M p c cMO_meets 4 s m meth [.ref (g.2.1 635), .int l1].toArray "ThriftyStoresModel" (some .boolean) g := hM
  obtain ⟨hx, hb, hml, hr, hlk, hts, hown, hK⟩ := id hM
  intro ls H locs hl hP hS
  have hl : lv_has ls 4 [(0, .ref (g.2.1 635)), (1, .int l1)] := hl
  unfold zf_MO_meets at h
  refine lv_iconst (v := 0) hx hb dMO_meets_0 (by decide) ?_
  refine lv_istore_n hx hb dMO_meets_1 rfl hl (by decide) rfl (fun ls hl => ?_)
  have hl : lv_has ls 4 [(2, .int 0), (0, .ref (g.2.1 635)), (1, .int l1)] := hl
  refine lv_iconst (v := 0) hx hb dMO_meets_2 (by decide) ?_
  refine lv_istore_n hx hb dMO_meets_3 rfl hl (by decide) rfl (fun ls hl => ?_)
  have hl : lv_has ls 4 [(3, .int 0), (2, .int 0), (0, .ref (g.2.1 635)), (1, .int l1)] := hl
  obtain ⟨n, h⟩ := h
  exact zw_MO_meets_4 hM  n l1 0 0 st h ls H locs (lv_sub hl [2, 3, 1, 0] rfl) hP hS
set_option maxHeartbeats 4000000 in
set_option maxRecDepth 100000 in
theorem zw_MO_findFacts_96 (hM : zs_M p c cMO_findFacts 4 s m meth args "ThriftyStoresModel" none g)   {K : zs_T → Prop} {B2 : Int32 → zs_T → Prop} {B12 : Int32 → Int32 → zs_T → Prop} {B20 : Int32 → Int32 → Int32 → zs_T → Prop} (hB2 : ∀ (l1 : Int32) (st : zs_T), B2 l1 st → zs_Go p l e (zs_rm 3 76) s m args below meth c g A (MQ below (zs_Qv g zs_ly zs_N A K) args s 0 0 A) 4 2 [(0, .ref (g.2.1 635)), (1, .int l1)] [] st) (hB12 : ∀ (l1 : Int32) (l2 : Int32) (st : zs_T), B12 l1 l2 st → zs_Go p l e (zs_rm 3 76) s m args below meth c g A (MQ below (zs_Qv g zs_ly zs_N A K) args s 0 0 A) 4 12 [(0, .ref (g.2.1 635)), (1, .int l1), (2, .int l2)] [] st) (hB20 : ∀ (l1 : Int32) (l2 : Int32) (l3 : Int32) (st : zs_T), B20 l1 l2 l3 st → zs_Go p l e (zs_rm 3 76) s m args below meth c g A (MQ below (zs_Qv g zs_ly zs_N A K) args s 0 0 A) 4 20 [(0, .ref (g.2.1 635)), (1, .int l1), (2, .int l2), (3, .int l3)] [] st) (l1 : Int32) (l2 : Int32) (l3 : Int32) (s0 : Int32) (s1 : Int32) (st : zs_T) (h : zf_MO_findFacts_96 K B2 B12 B20 l1 l2 l3 s0 s1 st) : zs_Go p l e (zs_rm 3 76) s m args below meth c g A (MQ below (zs_Qv g zs_ly zs_N A K) args s 0 0 A) 4 96 [(0, .ref (g.2.1 635)), (1, .int l1), (2, .int l2), (3, .int l3)] [.int s0, .int s1, .ref (g.2.1 645)] st := by
  obtain ⟨hx, hb, hml, hr, hlk, hts, hown, hK⟩ := id hM
  intro ls H locs hl hP hS
  unfold zf_MO_findFacts_96 at h
  obtain ⟨hi1601, h⟩ := h
  refine zr_zast hx hb hK.1 hP hS zl_645.1 zl_645.2 hi1601 dMO_findFacts_96 (fun H locs hP hS => ?_)
  obtain ⟨t1602, ez⟩ : ∃ tz : zs_T, tz = zs_i st 645 s1.toNatClampNeg (vp_nar .boolean s0) := ⟨_, rfl⟩
  have h := h t1602 ez
  have hP : zs_P g zs_ly zs_N A t1602 H := by rw [ez]; exact hP
  clear ez
  refine lv_iinc (k := 3) (v := l3 + 1) hx hb dMO_findFacts_97 hl rfl (by rw [show Int32.ofInt (1) = 1 from by decide]) (by decide) rfl (fun ls hl => ?_)
  have hl : lv_has ls 4 [(3, .int (l3 + 1)), (0, .ref (g.2.1 635)), (1, .int l1), (2, .int l2)] := hl
  refine lv_goto (tgt := 20) hx hb dMO_findFacts_100 rfl ?_
  exact hB20 l1 l2 (l3 + 1) t1602 h ls H locs (lv_sub hl [1, 2, 3, 0] rfl) hP hS
set_option maxHeartbeats 4000000 in
set_option maxRecDepth 100000 in
theorem zw_MO_findFacts_95 (hM : zs_M p c cMO_findFacts 4 s m meth args "ThriftyStoresModel" none g)   {K : zs_T → Prop} {B2 : Int32 → zs_T → Prop} {B12 : Int32 → Int32 → zs_T → Prop} {B20 : Int32 → Int32 → Int32 → zs_T → Prop} (hB2 : ∀ (l1 : Int32) (st : zs_T), B2 l1 st → zs_Go p l e (zs_rm 3 76) s m args below meth c g A (MQ below (zs_Qv g zs_ly zs_N A K) args s 0 0 A) 4 2 [(0, .ref (g.2.1 635)), (1, .int l1)] [] st) (hB12 : ∀ (l1 : Int32) (l2 : Int32) (st : zs_T), B12 l1 l2 st → zs_Go p l e (zs_rm 3 76) s m args below meth c g A (MQ below (zs_Qv g zs_ly zs_N A K) args s 0 0 A) 4 12 [(0, .ref (g.2.1 635)), (1, .int l1), (2, .int l2)] [] st) (hB20 : ∀ (l1 : Int32) (l2 : Int32) (l3 : Int32) (st : zs_T), B20 l1 l2 l3 st → zs_Go p l e (zs_rm 3 76) s m args below meth c g A (MQ below (zs_Qv g zs_ly zs_N A K) args s 0 0 A) 4 20 [(0, .ref (g.2.1 635)), (1, .int l1), (2, .int l2), (3, .int l3)] [] st) (l1 : Int32) (l2 : Int32) (l3 : Int32) (s0 : Int32) (st : zs_T) (h : zf_MO_findFacts_95 K B2 B12 B20 l1 l2 l3 s0 st) : zs_Go p l e (zs_rm 3 76) s m args below meth c g A (MQ below (zs_Qv g zs_ly zs_N A K) args s 0 0 A) 4 95 [(0, .ref (g.2.1 635)), (1, .int l1), (2, .int l2), (3, .int l3)] [.int s0, .ref (g.2.1 645)] st := by
  obtain ⟨hx, hb, hml, hr, hlk, hts, hown, hK⟩ := id hM
  intro ls H locs hl hP hS
  unfold zf_MO_findFacts_95 at h
  refine lv_iconst (v := 0) hx hb dMO_findFacts_95 (by decide) ?_
  exact zw_MO_findFacts_96 hM hB2 hB12 hB20 l1 l2 l3 0 s0 st h ls H locs (lv_sub hl [0, 1, 2, 3] rfl) hP hS
set_option maxHeartbeats 4000000 in
set_option maxRecDepth 100000 in
theorem zw_MO_findFacts_61 (hM : zs_M p c cMO_findFacts 4 s m meth args "ThriftyStoresModel" none g)   {K : zs_T → Prop} {B2 : Int32 → zs_T → Prop} {B12 : Int32 → Int32 → zs_T → Prop} {B20 : Int32 → Int32 → Int32 → zs_T → Prop} (hB2 : ∀ (l1 : Int32) (st : zs_T), B2 l1 st → zs_Go p l e (zs_rm 3 76) s m args below meth c g A (MQ below (zs_Qv g zs_ly zs_N A K) args s 0 0 A) 4 2 [(0, .ref (g.2.1 635)), (1, .int l1)] [] st) (hB12 : ∀ (l1 : Int32) (l2 : Int32) (st : zs_T), B12 l1 l2 st → zs_Go p l e (zs_rm 3 76) s m args below meth c g A (MQ below (zs_Qv g zs_ly zs_N A K) args s 0 0 A) 4 12 [(0, .ref (g.2.1 635)), (1, .int l1), (2, .int l2)] [] st) (hB20 : ∀ (l1 : Int32) (l2 : Int32) (l3 : Int32) (st : zs_T), B20 l1 l2 l3 st → zs_Go p l e (zs_rm 3 76) s m args below meth c g A (MQ below (zs_Qv g zs_ly zs_N A K) args s 0 0 A) 4 20 [(0, .ref (g.2.1 635)), (1, .int l1), (2, .int l2), (3, .int l3)] [] st) (l1 : Int32) (l2 : Int32) (l3 : Int32) (s0 : Int32) (s1 : Int32) (st : zs_T) (h : zf_MO_findFacts_61 K B2 B12 B20 l1 l2 l3 s0 s1 st) : zs_Go p l e (zs_rm 3 76) s m args below meth c g A (MQ below (zs_Qv g zs_ly zs_N A K) args s 0 0 A) 4 61 [(0, .ref (g.2.1 635)), (1, .int l1), (2, .int l2), (3, .int l3)] [.int s0, .int s1, .ref (g.2.1 644)] st := by
  obtain ⟨hx, hb, hml, hr, hlk, hts, hown, hK⟩ := id hM
  intro ls H locs hl hP hS
  unfold zf_MO_findFacts_61 at h
  obtain ⟨hi1101, h⟩ := h
  refine zr_zast hx hb hK.1 hP hS zl_644.1 zl_644.2 hi1101 dMO_findFacts_61 (fun H locs hP hS => ?_)
  obtain ⟨t1102, ez⟩ : ∃ tz : zs_T, tz = zs_i st 644 s1.toNatClampNeg (vp_nar .boolean s0) := ⟨_, rfl⟩
  have h := h t1102 ez
  have hP : zs_P g zs_ly zs_N A t1102 H := by rw [ez]; exact hP
  clear ez
  refine lv_aload_n hx hb dMO_findFacts_62 rfl (lv_at hl 0 rfl) ?_
  refine zr_getr (b := 645) hx hb hts zi_MO hown hK.1 hP zl_635.1 zl_635.2 rfl 14 (by decide) rfl (hts _ zq_747) dMO_findFacts_63 ?_
  refine lv_sipush (v := 256) hx hb dMO_findFacts_66 (by decide) ?_
  refine lv_iload_n hx hb dMO_findFacts_69 rfl (lv_at hl 1 rfl) ?_
  refine lv_imul hx hb dMO_findFacts_70 ?_
  refine lv_bipush (v := 16) hx hb dMO_findFacts_71 (by decide) ?_
  refine lv_iload_n hx hb dMO_findFacts_73 rfl (lv_at hl 2 rfl) ?_
  refine lv_imul hx hb dMO_findFacts_74 ?_
  refine lv_iadd hx hb dMO_findFacts_75 ?_
  refine lv_iload_n hx hb dMO_findFacts_76 rfl (lv_at hl 3 rfl) ?_
  refine lv_iadd hx hb dMO_findFacts_77 ?_
  refine lv_aload_n hx hb dMO_findFacts_78 rfl (lv_at hl 0 rfl) ?_
  refine zr_getr (b := 643) hx hb hts zi_MO hown hK.1 hP zl_635.1 zl_635.2 rfl 12 (by decide) rfl (hts _ zq_745) dMO_findFacts_79 ?_
  refine lv_iload_n hx hb dMO_findFacts_82 rfl (lv_at hl 1 rfl) ?_
  obtain ⟨hi1103, h⟩ := h
  refine zr_zald hx hb hK.1 hP zl_643.1 zl_643.2 hi1103 dMO_findFacts_83 ?_
  refine lv_if_eq (tgt := 95) hx hb dMO_findFacts_84 rfl (fun hc => ?_) (fun hc => ?_)
  · have h := h.1 hc
    clear hc
    exact zw_MO_findFacts_95 hM hB2 hB12 hB20 l1 l2 l3 (((256 * l1) + (16 * l2)) + l3) t1102 h ls H locs (lv_sub hl [0, 1, 2, 3] rfl) hP hS
  · have h := h.2 hc
    clear hc
    refine lv_iload_n hx hb dMO_findFacts_87 rfl (lv_at hl 1 rfl) ?_
    refine lv_if_le (tgt := 95) hx hb dMO_findFacts_88 rfl (fun hc => ?_) (fun hc => ?_)
    · have h := h.1 hc
      clear hc
      exact zw_MO_findFacts_95 hM hB2 hB12 hB20 l1 l2 l3 (((256 * l1) + (16 * l2)) + l3) t1102 h ls H locs (lv_sub hl [0, 1, 2, 3] rfl) hP hS
    · have h := h.2 hc
      clear hc
      refine lv_iconst (v := 1) hx hb dMO_findFacts_91 (by decide) ?_
      refine lv_goto (tgt := 96) hx hb dMO_findFacts_92 rfl ?_
      exact zw_MO_findFacts_96 hM hB2 hB12 hB20 l1 l2 l3 1 (((256 * l1) + (16 * l2)) + l3) t1102 h ls H locs (lv_sub hl [0, 1, 2, 3] rfl) hP hS
set_option maxHeartbeats 4000000 in
set_option maxRecDepth 100000 in
theorem zw_MO_findFacts_60 (hM : zs_M p c cMO_findFacts 4 s m meth args "ThriftyStoresModel" none g)   {K : zs_T → Prop} {B2 : Int32 → zs_T → Prop} {B12 : Int32 → Int32 → zs_T → Prop} {B20 : Int32 → Int32 → Int32 → zs_T → Prop} (hB2 : ∀ (l1 : Int32) (st : zs_T), B2 l1 st → zs_Go p l e (zs_rm 3 76) s m args below meth c g A (MQ below (zs_Qv g zs_ly zs_N A K) args s 0 0 A) 4 2 [(0, .ref (g.2.1 635)), (1, .int l1)] [] st) (hB12 : ∀ (l1 : Int32) (l2 : Int32) (st : zs_T), B12 l1 l2 st → zs_Go p l e (zs_rm 3 76) s m args below meth c g A (MQ below (zs_Qv g zs_ly zs_N A K) args s 0 0 A) 4 12 [(0, .ref (g.2.1 635)), (1, .int l1), (2, .int l2)] [] st) (hB20 : ∀ (l1 : Int32) (l2 : Int32) (l3 : Int32) (st : zs_T), B20 l1 l2 l3 st → zs_Go p l e (zs_rm 3 76) s m args below meth c g A (MQ below (zs_Qv g zs_ly zs_N A K) args s 0 0 A) 4 20 [(0, .ref (g.2.1 635)), (1, .int l1), (2, .int l2), (3, .int l3)] [] st) (l1 : Int32) (l2 : Int32) (l3 : Int32) (s0 : Int32) (st : zs_T) (h : zf_MO_findFacts_60 K B2 B12 B20 l1 l2 l3 s0 st) : zs_Go p l e (zs_rm 3 76) s m args below meth c g A (MQ below (zs_Qv g zs_ly zs_N A K) args s 0 0 A) 4 60 [(0, .ref (g.2.1 635)), (1, .int l1), (2, .int l2), (3, .int l3)] [.int s0, .ref (g.2.1 644)] st := by
  obtain ⟨hx, hb, hml, hr, hlk, hts, hown, hK⟩ := id hM
  intro ls H locs hl hP hS
  unfold zf_MO_findFacts_60 at h
  refine lv_iconst (v := 0) hx hb dMO_findFacts_60 (by decide) ?_
  exact zw_MO_findFacts_61 hM hB2 hB12 hB20 l1 l2 l3 0 s0 st h ls H locs (lv_sub hl [0, 1, 2, 3] rfl) hP hS
set_option maxHeartbeats 4000000 in
set_option maxRecDepth 100000 in
theorem zw_MO_findFacts_131 (hM : zs_M p c cMO_findFacts 4 s m meth args "ThriftyStoresModel" none g)   {K : zs_T → Prop} {B2 : Int32 → zs_T → Prop} {B12 : Int32 → Int32 → zs_T → Prop} (hB2 : ∀ (l1 : Int32) (st : zs_T), B2 l1 st → zs_Go p l e (zs_rm 3 76) s m args below meth c g A (MQ below (zs_Qv g zs_ly zs_N A K) args s 0 0 A) 4 2 [(0, .ref (g.2.1 635)), (1, .int l1)] [] st) (hB12 : ∀ (l1 : Int32) (l2 : Int32) (st : zs_T), B12 l1 l2 st → zs_Go p l e (zs_rm 3 76) s m args below meth c g A (MQ below (zs_Qv g zs_ly zs_N A K) args s 0 0 A) 4 12 [(0, .ref (g.2.1 635)), (1, .int l1), (2, .int l2)] [] st) (l1 : Int32) (l2 : Int32) (s0 : Int32) (s1 : Int32) (st : zs_T) (h : zf_MO_findFacts_131 K B2 B12 l1 l2 s0 s1 st) : zs_Go p l e (zs_rm 3 76) s m args below meth c g A (MQ below (zs_Qv g zs_ly zs_N A K) args s 0 0 A) 4 131 [(0, .ref (g.2.1 635)), (1, .int l1), (2, .int l2)] [.int s0, .int s1, .ref (g.2.1 646)] st := by
  obtain ⟨hx, hb, hml, hr, hlk, hts, hown, hK⟩ := id hM
  intro ls H locs hl hP hS
  unfold zf_MO_findFacts_131 at h
  obtain ⟨hi901, h⟩ := h
  refine zr_zast hx hb hK.1 hP hS zl_646.1 zl_646.2 hi901 dMO_findFacts_131 (fun H locs hP hS => ?_)
  obtain ⟨t902, ez⟩ : ∃ tz : zs_T, tz = zs_i st 646 s1.toNatClampNeg (vp_nar .boolean s0) := ⟨_, rfl⟩
  have h := h t902 ez
  have hP : zs_P g zs_ly zs_N A t902 H := by rw [ez]; exact hP
  clear ez
  refine lv_iinc (k := 2) (v := l2 + 1) hx hb dMO_findFacts_132 hl rfl (by rw [show Int32.ofInt (1) = 1 from by decide]) (by decide) rfl (fun ls hl => ?_)
  have hl : lv_has ls 4 [(2, .int (l2 + 1)), (0, .ref (g.2.1 635)), (1, .int l1)] := hl
  refine lv_goto (tgt := 12) hx hb dMO_findFacts_135 rfl ?_
  exact hB12 l1 (l2 + 1) t902 h ls H locs (lv_sub hl [1, 2, 0] rfl) hP hS
set_option maxHeartbeats 4000000 in
set_option maxRecDepth 100000 in
theorem zw_MO_findFacts_130 (hM : zs_M p c cMO_findFacts 4 s m meth args "ThriftyStoresModel" none g)   {K : zs_T → Prop} {B2 : Int32 → zs_T → Prop} {B12 : Int32 → Int32 → zs_T → Prop} (hB2 : ∀ (l1 : Int32) (st : zs_T), B2 l1 st → zs_Go p l e (zs_rm 3 76) s m args below meth c g A (MQ below (zs_Qv g zs_ly zs_N A K) args s 0 0 A) 4 2 [(0, .ref (g.2.1 635)), (1, .int l1)] [] st) (hB12 : ∀ (l1 : Int32) (l2 : Int32) (st : zs_T), B12 l1 l2 st → zs_Go p l e (zs_rm 3 76) s m args below meth c g A (MQ below (zs_Qv g zs_ly zs_N A K) args s 0 0 A) 4 12 [(0, .ref (g.2.1 635)), (1, .int l1), (2, .int l2)] [] st) (l1 : Int32) (l2 : Int32) (s0 : Int32) (st : zs_T) (h : zf_MO_findFacts_130 K B2 B12 l1 l2 s0 st) : zs_Go p l e (zs_rm 3 76) s m args below meth c g A (MQ below (zs_Qv g zs_ly zs_N A K) args s 0 0 A) 4 130 [(0, .ref (g.2.1 635)), (1, .int l1), (2, .int l2)] [.int s0, .ref (g.2.1 646)] st := by
  obtain ⟨hx, hb, hml, hr, hlk, hts, hown, hK⟩ := id hM
  intro ls H locs hl hP hS
  unfold zf_MO_findFacts_130 at h
  refine lv_iconst (v := 0) hx hb dMO_findFacts_130 (by decide) ?_
  exact zw_MO_findFacts_131 hM hB2 hB12 l1 l2 0 s0 st h ls H locs (lv_sub hl [0, 1, 2] rfl) hP hS
set_option maxHeartbeats 4000000 in
set_option maxRecDepth 100000 in
theorem zw_MO_findFacts_20_s (hM : zs_M p c cMO_findFacts 4 s m meth args "ThriftyStoresModel" none g)   {K : zs_T → Prop} {B2 : Int32 → zs_T → Prop} {B12 : Int32 → Int32 → zs_T → Prop} {B20 : Int32 → Int32 → Int32 → zs_T → Prop} (hB2 : ∀ (l1 : Int32) (st : zs_T), B2 l1 st → zs_Go p l e (zs_rm 3 76) s m args below meth c g A (MQ below (zs_Qv g zs_ly zs_N A K) args s 0 0 A) 4 2 [(0, .ref (g.2.1 635)), (1, .int l1)] [] st) (hB12 : ∀ (l1 : Int32) (l2 : Int32) (st : zs_T), B12 l1 l2 st → zs_Go p l e (zs_rm 3 76) s m args below meth c g A (MQ below (zs_Qv g zs_ly zs_N A K) args s 0 0 A) 4 12 [(0, .ref (g.2.1 635)), (1, .int l1), (2, .int l2)] [] st) (hB20 : ∀ (l1 : Int32) (l2 : Int32) (l3 : Int32) (st : zs_T), B20 l1 l2 l3 st → zs_Go p l e (zs_rm 3 76) s m args below meth c g A (MQ below (zs_Qv g zs_ly zs_N A K) args s 0 0 A) 4 20 [(0, .ref (g.2.1 635)), (1, .int l1), (2, .int l2), (3, .int l3)] [] st) (l1 : Int32) (l2 : Int32) (l3 : Int32) (st : zs_T) (h : zf_MO_findFacts_20_s K B2 B12 B20 l1 l2 l3 st) : zs_Go p l e (zs_rm 3 76) s m args below meth c g A (MQ below (zs_Qv g zs_ly zs_N A K) args s 0 0 A) 4 20 [(0, .ref (g.2.1 635)), (1, .int l1), (2, .int l2), (3, .int l3)] [] st := by
  obtain ⟨hx, hb, hml, hr, hlk, hts, hown, hK⟩ := id hM
  intro ls H locs hl hP hS
  unfold zf_MO_findFacts_20_s at h
  refine lv_iload_n hx hb dMO_findFacts_20 rfl (lv_at hl 3 rfl) ?_
  refine lv_bipush (v := 16) hx hb dMO_findFacts_21 (by decide) ?_
  refine lv_icmp_ge (tgt := 103) hx hb dMO_findFacts_23 rfl (fun hc => ?_) (fun hc => ?_)
  · have h := h.1 hc
    clear hc
    refine lv_aload_n hx hb dMO_findFacts_103 rfl (lv_at hl 0 rfl) ?_
    refine zr_getr (b := 646) hx hb hts zi_MO hown hK.1 hP zl_635.1 zl_635.2 rfl 15 (by decide) rfl (hts _ zq_748) dMO_findFacts_104 ?_
    refine lv_bipush (v := 16) hx hb dMO_findFacts_107 (by decide) ?_
    refine lv_iload_n hx hb dMO_findFacts_109 rfl (lv_at hl 1 rfl) ?_
    refine lv_imul hx hb dMO_findFacts_110 ?_
    refine lv_iload_n hx hb dMO_findFacts_111 rfl (lv_at hl 2 rfl) ?_
    refine lv_iadd hx hb dMO_findFacts_112 ?_
    refine lv_aload_n hx hb dMO_findFacts_113 rfl (lv_at hl 0 rfl) ?_
    refine zr_getr (b := 643) hx hb hts zi_MO hown hK.1 hP zl_635.1 zl_635.2 rfl 12 (by decide) rfl (hts _ zq_745) dMO_findFacts_114 ?_
    refine lv_iload_n hx hb dMO_findFacts_117 rfl (lv_at hl 1 rfl) ?_
    obtain ⟨hi501, h⟩ := h
    refine zr_zald hx hb hK.1 hP zl_643.1 zl_643.2 hi501 dMO_findFacts_118 ?_
    refine lv_if_eq (tgt := 130) hx hb dMO_findFacts_119 rfl (fun hc => ?_) (fun hc => ?_)
    · have h := h.1 hc
      clear hc
      exact zw_MO_findFacts_130 hM hB2 hB12 l1 l2 ((16 * l1) + l2) st h ls H locs (lv_sub hl [0, 1, 2] rfl) hP hS
    · have h := h.2 hc
      clear hc
      refine lv_iload_n hx hb dMO_findFacts_122 rfl (lv_at hl 1 rfl) ?_
      refine lv_if_le (tgt := 130) hx hb dMO_findFacts_123 rfl (fun hc => ?_) (fun hc => ?_)
      · have h := h.1 hc
        clear hc
        exact zw_MO_findFacts_130 hM hB2 hB12 l1 l2 ((16 * l1) + l2) st h ls H locs (lv_sub hl [0, 1, 2] rfl) hP hS
      · have h := h.2 hc
        clear hc
        refine lv_iconst (v := 1) hx hb dMO_findFacts_126 (by decide) ?_
        refine lv_goto (tgt := 131) hx hb dMO_findFacts_127 rfl ?_
        exact zw_MO_findFacts_131 hM hB2 hB12 l1 l2 1 ((16 * l1) + l2) st h ls H locs (lv_sub hl [0, 1, 2] rfl) hP hS
  · have h := h.2 hc
    clear hc
    refine lv_aload_n hx hb dMO_findFacts_26 rfl (lv_at hl 0 rfl) ?_
    refine zr_getr (b := 644) hx hb hts zi_MO hown hK.1 hP zl_635.1 zl_635.2 rfl 13 (by decide) rfl (hts _ zq_746) dMO_findFacts_27 ?_
    refine lv_sipush (v := 256) hx hb dMO_findFacts_30 (by decide) ?_
    refine lv_iload_n hx hb dMO_findFacts_33 rfl (lv_at hl 1 rfl) ?_
    refine lv_imul hx hb dMO_findFacts_34 ?_
    refine lv_bipush (v := 16) hx hb dMO_findFacts_35 (by decide) ?_
    refine lv_iload_n hx hb dMO_findFacts_37 rfl (lv_at hl 2 rfl) ?_
    refine lv_imul hx hb dMO_findFacts_38 ?_
    refine lv_iadd hx hb dMO_findFacts_39 ?_
    refine lv_iload_n hx hb dMO_findFacts_40 rfl (lv_at hl 3 rfl) ?_
    refine lv_iadd hx hb dMO_findFacts_41 ?_
    refine lv_aload_n hx hb dMO_findFacts_42 rfl (lv_at hl 0 rfl) ?_
    refine zr_getr (b := 643) hx hb hts zi_MO hown hK.1 hP zl_635.1 zl_635.2 rfl 12 (by decide) rfl (hts _ zq_745) dMO_findFacts_43 ?_
    refine lv_iload_n hx hb dMO_findFacts_46 rfl (lv_at hl 1 rfl) ?_
    obtain ⟨hi502, h⟩ := h
    refine zr_zald hx hb hK.1 hP zl_643.1 zl_643.2 hi502 dMO_findFacts_47 ?_
    refine lv_if_eq (tgt := 60) hx hb dMO_findFacts_48 rfl (fun hc => ?_) (fun hc => ?_)
    · have h := h.1 hc
      clear hc
      exact zw_MO_findFacts_60 hM hB2 hB12 hB20 l1 l2 l3 (((256 * l1) + (16 * l2)) + l3) st h ls H locs (lv_sub hl [0, 1, 2, 3] rfl) hP hS
    · have h := h.2 hc
      clear hc
      refine lv_iload_n hx hb dMO_findFacts_51 rfl (lv_at hl 2 rfl) ?_
      refine lv_iload_n hx hb dMO_findFacts_52 rfl (lv_at hl 3 rfl) ?_
      refine lv_icmp_eq (tgt := 60) hx hb dMO_findFacts_53 rfl (fun hc => ?_) (fun hc => ?_)
      · have h := h.1 hc
        clear hc
        exact zw_MO_findFacts_60 hM hB2 hB12 hB20 l1 l2 l3 (((256 * l1) + (16 * l2)) + l3) st h ls H locs (lv_sub hl [0, 1, 2, 3] rfl) hP hS
      · have h := h.2 hc
        clear hc
        refine lv_iconst (v := 1) hx hb dMO_findFacts_56 (by decide) ?_
        refine lv_goto (tgt := 61) hx hb dMO_findFacts_57 rfl ?_
        exact zw_MO_findFacts_61 hM hB2 hB12 hB20 l1 l2 l3 1 (((256 * l1) + (16 * l2)) + l3) st h ls H locs (lv_sub hl [0, 1, 2, 3] rfl) hP hS
theorem zw_MO_findFacts_20 (hM : zs_M p c cMO_findFacts 4 s m meth args "ThriftyStoresModel" none g)   {K : zs_T → Prop} {B2 : Int32 → zs_T → Prop} {B12 : Int32 → Int32 → zs_T → Prop} (hB2 : ∀ (l1 : Int32) (st : zs_T), B2 l1 st → zs_Go p l e (zs_rm 3 76) s m args below meth c g A (MQ below (zs_Qv g zs_ly zs_N A K) args s 0 0 A) 4 2 [(0, .ref (g.2.1 635)), (1, .int l1)] [] st) (hB12 : ∀ (l1 : Int32) (l2 : Int32) (st : zs_T), B12 l1 l2 st → zs_Go p l e (zs_rm 3 76) s m args below meth c g A (MQ below (zs_Qv g zs_ly zs_N A K) args s 0 0 A) 4 12 [(0, .ref (g.2.1 635)), (1, .int l1), (2, .int l2)] [] st) : ∀ (n : Nat) (l1 : Int32) (l2 : Int32) (l3 : Int32) (st : zs_T), zf_MO_findFacts_20 K B2 B12 n l1 l2 l3 st → zs_Go p l e (zs_rm 3 76) s m args below meth c g A (MQ below (zs_Qv g zs_ly zs_N A K) args s 0 0 A) 4 20 [(0, .ref (g.2.1 635)), (1, .int l1), (2, .int l2), (3, .int l3)] [] st := by
  intro n
  induction n with
  | zero => intro l1 l2 l3 st h; exact False.elim h
  | succ n ih => intro l1 l2 l3 st h; exact zw_MO_findFacts_20_s hM hB2 hB12 ih l1 l2 l3 st h
set_option maxHeartbeats 4000000 in
set_option maxRecDepth 100000 in
theorem zw_MO_findFacts_12_s (hM : zs_M p c cMO_findFacts 4 s m meth args "ThriftyStoresModel" none g)   {K : zs_T → Prop} {B2 : Int32 → zs_T → Prop} {B12 : Int32 → Int32 → zs_T → Prop} (hB2 : ∀ (l1 : Int32) (st : zs_T), B2 l1 st → zs_Go p l e (zs_rm 3 76) s m args below meth c g A (MQ below (zs_Qv g zs_ly zs_N A K) args s 0 0 A) 4 2 [(0, .ref (g.2.1 635)), (1, .int l1)] [] st) (hB12 : ∀ (l1 : Int32) (l2 : Int32) (st : zs_T), B12 l1 l2 st → zs_Go p l e (zs_rm 3 76) s m args below meth c g A (MQ below (zs_Qv g zs_ly zs_N A K) args s 0 0 A) 4 12 [(0, .ref (g.2.1 635)), (1, .int l1), (2, .int l2)] [] st) (l1 : Int32) (l2 : Int32) (st : zs_T) (h : zf_MO_findFacts_12_s K B2 B12 l1 l2 st) : zs_Go p l e (zs_rm 3 76) s m args below meth c g A (MQ below (zs_Qv g zs_ly zs_N A K) args s 0 0 A) 4 12 [(0, .ref (g.2.1 635)), (1, .int l1), (2, .int l2)] [] st := by
  obtain ⟨hx, hb, hml, hr, hlk, hts, hown, hK⟩ := id hM
  intro ls H locs hl hP hS
  unfold zf_MO_findFacts_12_s at h
  refine lv_iload_n hx hb dMO_findFacts_12 rfl (lv_at hl 2 rfl) ?_
  refine lv_bipush (v := 16) hx hb dMO_findFacts_13 (by decide) ?_
  refine lv_icmp_ge (tgt := 138) hx hb dMO_findFacts_15 rfl (fun hc => ?_) (fun hc => ?_)
  · have h := h.1 hc
    clear hc
    refine lv_iinc (k := 1) (v := l1 + 1) hx hb dMO_findFacts_138 hl rfl (by rw [show Int32.ofInt (1) = 1 from by decide]) (by decide) rfl (fun ls hl => ?_)
    have hl : lv_has ls 4 [(1, .int (l1 + 1)), (0, .ref (g.2.1 635)), (2, .int l2)] := hl
    refine lv_goto (tgt := 2) hx hb dMO_findFacts_141 rfl ?_
    exact hB2 (l1 + 1) st h ls H locs (lv_sub hl [1, 0] rfl) hP hS
  · have h := h.2 hc
    clear hc
    refine lv_iconst (v := 0) hx hb dMO_findFacts_18 (by decide) ?_
    refine lv_istore_n hx hb dMO_findFacts_19 rfl hl (by decide) rfl (fun ls hl => ?_)
    have hl : lv_has ls 4 [(3, .int 0), (0, .ref (g.2.1 635)), (1, .int l1), (2, .int l2)] := hl
    obtain ⟨n, h⟩ := h
    exact zw_MO_findFacts_20 hM hB2 hB12 n l1 l2 0 st h ls H locs (lv_sub hl [1, 2, 3, 0] rfl) hP hS
theorem zw_MO_findFacts_12 (hM : zs_M p c cMO_findFacts 4 s m meth args "ThriftyStoresModel" none g)   {K : zs_T → Prop} {B2 : Int32 → zs_T → Prop} (hB2 : ∀ (l1 : Int32) (st : zs_T), B2 l1 st → zs_Go p l e (zs_rm 3 76) s m args below meth c g A (MQ below (zs_Qv g zs_ly zs_N A K) args s 0 0 A) 4 2 [(0, .ref (g.2.1 635)), (1, .int l1)] [] st) : ∀ (n : Nat) (l1 : Int32) (l2 : Int32) (st : zs_T), zf_MO_findFacts_12 K B2 n l1 l2 st → zs_Go p l e (zs_rm 3 76) s m args below meth c g A (MQ below (zs_Qv g zs_ly zs_N A K) args s 0 0 A) 4 12 [(0, .ref (g.2.1 635)), (1, .int l1), (2, .int l2)] [] st := by
  intro n
  induction n with
  | zero => intro l1 l2 st h; exact False.elim h
  | succ n ih => intro l1 l2 st h; exact zw_MO_findFacts_12_s hM hB2 ih l1 l2 st h
set_option maxHeartbeats 4000000 in
set_option maxRecDepth 100000 in
theorem zw_MO_findFacts_219 (hM : zs_M p c cMO_findFacts 4 s m meth args "ThriftyStoresModel" none g)   {K : zs_T → Prop} {B146 : Int32 → zs_T → Prop} {B154 : Int32 → Int32 → zs_T → Prop} {B181 : Int32 → Int32 → Int32 → zs_T → Prop} (hB146 : ∀ (l1 : Int32) (st : zs_T), B146 l1 st → zs_Go p l e (zs_rm 3 76) s m args below meth c g A (MQ below (zs_Qv g zs_ly zs_N A K) args s 0 0 A) 4 146 [(0, .ref (g.2.1 635)), (1, .int l1)] [] st) (hB154 : ∀ (l1 : Int32) (l2 : Int32) (st : zs_T), B154 l1 l2 st → zs_Go p l e (zs_rm 3 76) s m args below meth c g A (MQ below (zs_Qv g zs_ly zs_N A K) args s 0 0 A) 4 154 [(0, .ref (g.2.1 635)), (1, .int l1), (2, .int l2)] [] st) (hB181 : ∀ (l1 : Int32) (l2 : Int32) (l3 : Int32) (st : zs_T), B181 l1 l2 l3 st → zs_Go p l e (zs_rm 3 76) s m args below meth c g A (MQ below (zs_Qv g zs_ly zs_N A K) args s 0 0 A) 4 181 [(0, .ref (g.2.1 635)), (1, .int l1), (2, .int l2), (3, .int l3)] [] st) (l1 : Int32) (l2 : Int32) (l3 : Int32) (st : zs_T) (h : zf_MO_findFacts_219 K B146 B154 B181 l1 l2 l3 st) : zs_Go p l e (zs_rm 3 76) s m args below meth c g A (MQ below (zs_Qv g zs_ly zs_N A K) args s 0 0 A) 4 219 [(0, .ref (g.2.1 635)), (1, .int l1), (2, .int l2), (3, .int l3)] [] st := by
  obtain ⟨hx, hb, hml, hr, hlk, hts, hown, hK⟩ := id hM
  intro ls H locs hl hP hS
  unfold zf_MO_findFacts_219 at h
  refine lv_iinc (k := 3) (v := l3 + 1) hx hb dMO_findFacts_219 hl rfl (by rw [show Int32.ofInt (1) = 1 from by decide]) (by decide) rfl (fun ls hl => ?_)
  have hl : lv_has ls 4 [(3, .int (l3 + 1)), (0, .ref (g.2.1 635)), (1, .int l1), (2, .int l2)] := hl
  refine lv_goto (tgt := 181) hx hb dMO_findFacts_222 rfl ?_
  exact hB181 l1 l2 (l3 + 1) st h ls H locs (lv_sub hl [1, 2, 3, 0] rfl) hP hS
set_option maxHeartbeats 4000000 in
set_option maxRecDepth 100000 in
theorem zw_MO_findFacts_218 (hM : zs_M p c cMO_findFacts 4 s m meth args "ThriftyStoresModel" none g)   {K : zs_T → Prop} {B146 : Int32 → zs_T → Prop} {B154 : Int32 → Int32 → zs_T → Prop} {B181 : Int32 → Int32 → Int32 → zs_T → Prop} (hB146 : ∀ (l1 : Int32) (st : zs_T), B146 l1 st → zs_Go p l e (zs_rm 3 76) s m args below meth c g A (MQ below (zs_Qv g zs_ly zs_N A K) args s 0 0 A) 4 146 [(0, .ref (g.2.1 635)), (1, .int l1)] [] st) (hB154 : ∀ (l1 : Int32) (l2 : Int32) (st : zs_T), B154 l1 l2 st → zs_Go p l e (zs_rm 3 76) s m args below meth c g A (MQ below (zs_Qv g zs_ly zs_N A K) args s 0 0 A) 4 154 [(0, .ref (g.2.1 635)), (1, .int l1), (2, .int l2)] [] st) (hB181 : ∀ (l1 : Int32) (l2 : Int32) (l3 : Int32) (st : zs_T), B181 l1 l2 l3 st → zs_Go p l e (zs_rm 3 76) s m args below meth c g A (MQ below (zs_Qv g zs_ly zs_N A K) args s 0 0 A) 4 181 [(0, .ref (g.2.1 635)), (1, .int l1), (2, .int l2), (3, .int l3)] [] st) (l2 : Int32) (l3 : Int32) (s0 : Int32) (st : zs_T) (h : zf_MO_findFacts_218 K B146 B154 B181 l2 l3 s0 st) : zs_Go p l e (zs_rm 3 76) s m args below meth c g A (MQ below (zs_Qv g zs_ly zs_N A K) args s 0 0 A) 4 218 [(0, .ref (g.2.1 635)), (2, .int l2), (3, .int l3)] [.int s0] st := by
  obtain ⟨hx, hb, hml, hr, hlk, hts, hown, hK⟩ := id hM
  intro ls H locs hl hP hS
  unfold zf_MO_findFacts_218 at h
  refine lv_istore_n hx hb dMO_findFacts_218 rfl hl (by decide) rfl (fun ls hl => ?_)
  have hl : lv_has ls 4 [(1, .int s0), (0, .ref (g.2.1 635)), (2, .int l2), (3, .int l3)] := hl
  exact zw_MO_findFacts_219 hM hB146 hB154 hB181 s0 l2 l3 st h ls H locs (lv_sub hl [1, 0, 2, 3] rfl) hP hS
set_option maxHeartbeats 4000000 in
set_option maxRecDepth 100000 in
theorem zw_MO_findFacts_213 (hM : zs_M p c cMO_findFacts 4 s m meth args "ThriftyStoresModel" none g)   {K : zs_T → Prop} {B146 : Int32 → zs_T → Prop} {B154 : Int32 → Int32 → zs_T → Prop} {B181 : Int32 → Int32 → Int32 → zs_T → Prop} (hB146 : ∀ (l1 : Int32) (st : zs_T), B146 l1 st → zs_Go p l e (zs_rm 3 76) s m args below meth c g A (MQ below (zs_Qv g zs_ly zs_N A K) args s 0 0 A) 4 146 [(0, .ref (g.2.1 635)), (1, .int l1)] [] st) (hB154 : ∀ (l1 : Int32) (l2 : Int32) (st : zs_T), B154 l1 l2 st → zs_Go p l e (zs_rm 3 76) s m args below meth c g A (MQ below (zs_Qv g zs_ly zs_N A K) args s 0 0 A) 4 154 [(0, .ref (g.2.1 635)), (1, .int l1), (2, .int l2)] [] st) (hB181 : ∀ (l1 : Int32) (l2 : Int32) (l3 : Int32) (st : zs_T), B181 l1 l2 l3 st → zs_Go p l e (zs_rm 3 76) s m args below meth c g A (MQ below (zs_Qv g zs_ly zs_N A K) args s 0 0 A) 4 181 [(0, .ref (g.2.1 635)), (1, .int l1), (2, .int l2), (3, .int l3)] [] st) (l2 : Int32) (l3 : Int32) (st : zs_T) (h : zf_MO_findFacts_213 K B146 B154 B181 l2 l3 st) : zs_Go p l e (zs_rm 3 76) s m args below meth c g A (MQ below (zs_Qv g zs_ly zs_N A K) args s 0 0 A) 4 213 [(0, .ref (g.2.1 635)), (2, .int l2), (3, .int l3)] [] st := by
  obtain ⟨hx, hb, hml, hr, hlk, hts, hown, hK⟩ := id hM
  intro ls H locs hl hP hS
  unfold zf_MO_findFacts_213 at h
  refine lv_iconst (v := 1) hx hb dMO_findFacts_213 (by decide) ?_
  refine lv_goto (tgt := 218) hx hb dMO_findFacts_214 rfl ?_
  exact zw_MO_findFacts_218 hM hB146 hB154 hB181 l2 l3 1 st h ls H locs (lv_sub hl [0, 1, 2] rfl) hP hS
set_option maxHeartbeats 4000000 in
set_option maxRecDepth 100000 in
theorem zw_MO_findFacts_225 (hM : zs_M p c cMO_findFacts 4 s m meth args "ThriftyStoresModel" none g)   {K : zs_T → Prop} {B146 : Int32 → zs_T → Prop} {B154 : Int32 → Int32 → zs_T → Prop} (hB146 : ∀ (l1 : Int32) (st : zs_T), B146 l1 st → zs_Go p l e (zs_rm 3 76) s m args below meth c g A (MQ below (zs_Qv g zs_ly zs_N A K) args s 0 0 A) 4 146 [(0, .ref (g.2.1 635)), (1, .int l1)] [] st) (hB154 : ∀ (l1 : Int32) (l2 : Int32) (st : zs_T), B154 l1 l2 st → zs_Go p l e (zs_rm 3 76) s m args below meth c g A (MQ below (zs_Qv g zs_ly zs_N A K) args s 0 0 A) 4 154 [(0, .ref (g.2.1 635)), (1, .int l1), (2, .int l2)] [] st) (l1 : Int32) (l2 : Int32) (st : zs_T) (h : zf_MO_findFacts_225 K B146 B154 l1 l2 st) : zs_Go p l e (zs_rm 3 76) s m args below meth c g A (MQ below (zs_Qv g zs_ly zs_N A K) args s 0 0 A) 4 225 [(0, .ref (g.2.1 635)), (1, .int l1), (2, .int l2)] [] st := by
  obtain ⟨hx, hb, hml, hr, hlk, hts, hown, hK⟩ := id hM
  intro ls H locs hl hP hS
  unfold zf_MO_findFacts_225 at h
  refine lv_iinc (k := 2) (v := l2 + 1) hx hb dMO_findFacts_225 hl rfl (by rw [show Int32.ofInt (1) = 1 from by decide]) (by decide) rfl (fun ls hl => ?_)
  have hl : lv_has ls 4 [(2, .int (l2 + 1)), (0, .ref (g.2.1 635)), (1, .int l1)] := hl
  refine lv_goto (tgt := 154) hx hb dMO_findFacts_228 rfl ?_
  exact hB154 l1 (l2 + 1) st h ls H locs (lv_sub hl [1, 2, 0] rfl) hP hS
set_option maxHeartbeats 4000000 in
set_option maxRecDepth 100000 in
theorem zw_MO_findFacts_181_s (hM : zs_M p c cMO_findFacts 4 s m meth args "ThriftyStoresModel" none g)   {K : zs_T → Prop} {B146 : Int32 → zs_T → Prop} {B154 : Int32 → Int32 → zs_T → Prop} {B181 : Int32 → Int32 → Int32 → zs_T → Prop} (hB146 : ∀ (l1 : Int32) (st : zs_T), B146 l1 st → zs_Go p l e (zs_rm 3 76) s m args below meth c g A (MQ below (zs_Qv g zs_ly zs_N A K) args s 0 0 A) 4 146 [(0, .ref (g.2.1 635)), (1, .int l1)] [] st) (hB154 : ∀ (l1 : Int32) (l2 : Int32) (st : zs_T), B154 l1 l2 st → zs_Go p l e (zs_rm 3 76) s m args below meth c g A (MQ below (zs_Qv g zs_ly zs_N A K) args s 0 0 A) 4 154 [(0, .ref (g.2.1 635)), (1, .int l1), (2, .int l2)] [] st) (hB181 : ∀ (l1 : Int32) (l2 : Int32) (l3 : Int32) (st : zs_T), B181 l1 l2 l3 st → zs_Go p l e (zs_rm 3 76) s m args below meth c g A (MQ below (zs_Qv g zs_ly zs_N A K) args s 0 0 A) 4 181 [(0, .ref (g.2.1 635)), (1, .int l1), (2, .int l2), (3, .int l3)] [] st) (l1 : Int32) (l2 : Int32) (l3 : Int32) (st : zs_T) (h : zf_MO_findFacts_181_s K B146 B154 B181 l1 l2 l3 st) : zs_Go p l e (zs_rm 3 76) s m args below meth c g A (MQ below (zs_Qv g zs_ly zs_N A K) args s 0 0 A) 4 181 [(0, .ref (g.2.1 635)), (1, .int l1), (2, .int l2), (3, .int l3)] [] st := by
  obtain ⟨hx, hb, hml, hr, hlk, hts, hown, hK⟩ := id hM
  intro ls H locs hl hP hS
  unfold zf_MO_findFacts_181_s at h
  refine lv_iload_n hx hb dMO_findFacts_181 rfl (lv_at hl 3 rfl) ?_
  refine lv_iconst (v := 2) hx hb dMO_findFacts_182 (by decide) ?_
  refine lv_icmp_ge (tgt := 225) hx hb dMO_findFacts_183 rfl (fun hc => ?_) (fun hc => ?_)
  · have h := h.1 hc
    clear hc
    exact zw_MO_findFacts_225 hM hB146 hB154 l1 l2 st h ls H locs (lv_sub hl [0, 1, 2] rfl) hP hS
  · have h := h.2 hc
    clear hc
    refine lv_aload_n hx hb dMO_findFacts_186 rfl (lv_at hl 0 rfl) ?_
    refine lv_iload_n hx hb dMO_findFacts_187 rfl (lv_at hl 2 rfl) ?_
    refine lv_iload_n hx hb dMO_findFacts_188 rfl (lv_at hl 3 rfl) ?_
    refine zr_calli (va_runV (As := [.int l2, .int l3]) (rest := []) ⟨hx, hb, hml, hown, hts⟩ (zc_MO_next l g A  h) (cwV 2 hts (zs_gV zq_877 zq_879 zp_41 zq_8 zq_880) rfl rfl rfl ⟨rfl, by decide, by decide, by decide +kernel⟩ ⟨Nat.le_of_ble_eq_true rfl, Nat.le_of_ble_eq_true rfl⟩) (zs_preV zs_nwk hK hP zl_635.1 zl_635.2 rfl) rfl rfl hl.1 rfl (lv_room (Nat.le_of_ble_eq_true rfl)) dMO_findFacts_189 ⟨Nat.le_refl _, Nat.le_refl _⟩) hS (fun r602 u601 H locs h hP hS => ?_)
    refine lv_iconst (v := (-1)) hx hb dMO_findFacts_192 (by decide) ?_
    refine lv_icmp_eq (tgt := 219) hx hb dMO_findFacts_193 rfl (fun hc => ?_) (fun hc => ?_)
    · have h := h.1 hc
      clear hc
      exact zw_MO_findFacts_219 hM hB146 hB154 hB181 l1 l2 l3 u601 h ls H locs (lv_sub hl [0, 1, 2, 3] rfl) hP hS
    · have h := h.2 hc
      clear hc
      refine lv_aload_n hx hb dMO_findFacts_196 rfl (lv_at hl 0 rfl) ?_
      refine lv_aload_n hx hb dMO_findFacts_197 rfl (lv_at hl 0 rfl) ?_
      refine lv_iload_n hx hb dMO_findFacts_198 rfl (lv_at hl 2 rfl) ?_
      refine lv_iload_n hx hb dMO_findFacts_199 rfl (lv_at hl 3 rfl) ?_
      refine zr_calli (va_runV (As := [.int l2, .int l3]) (rest := [.ref (g.2.1 635)]) ⟨hx, hb, hml, hown, hts⟩ (zc_MO_next l g A  h) (cwV 2 hts (zs_gV zq_877 zq_879 zp_41 zq_8 zq_880) rfl rfl rfl ⟨rfl, by decide, by decide, by decide +kernel⟩ ⟨Nat.le_of_ble_eq_true rfl, Nat.le_of_ble_eq_true rfl⟩) (zs_preV zs_nwk hK hP zl_635.1 zl_635.2 rfl) rfl rfl hl.1 rfl (lv_room (Nat.le_of_ble_eq_true rfl)) dMO_findFacts_200 ⟨Nat.le_refl _, Nat.le_refl _⟩) hS (fun r604 u603 H locs h hP hS => ?_)
      refine zr_calli (va_runV (As := [.int r604]) (rest := []) ⟨hx, hb, hml, hown, hts⟩ (zc_MO_meets l g A  h) (cwV 1 hts (zs_gV zq_921 zq_923 zp_52 zq_8 zq_924) rfl rfl rfl ⟨rfl, by decide, by decide, by decide +kernel⟩ ⟨Nat.le_of_ble_eq_true rfl, Nat.le_of_ble_eq_true rfl⟩) (zs_preV zs_nwk hK hP zl_635.1 zl_635.2 rfl) rfl rfl hl.1 rfl (lv_room (Nat.le_of_ble_eq_true rfl)) dMO_findFacts_203 ⟨Nat.le_refl _, Nat.le_refl _⟩) hS (fun r606 u605 H locs h hP hS => ?_)
      refine lv_if_ne (tgt := 213) hx hb dMO_findFacts_206 rfl (fun hc => ?_) (fun hc => ?_)
      · have h := h.1 hc
        clear hc
        exact zw_MO_findFacts_213 hM hB146 hB154 hB181 l2 l3 u605 h ls H locs (lv_sub hl [0, 2, 3] rfl) hP hS
      · have h := h.2 hc
        clear hc
        refine lv_iload_n hx hb dMO_findFacts_209 rfl (lv_at hl 1 rfl) ?_
        refine lv_if_eq (tgt := 217) hx hb dMO_findFacts_210 rfl (fun hc => ?_) (fun hc => ?_)
        · have h := h.1 hc
          clear hc
          refine lv_iconst (v := 0) hx hb dMO_findFacts_217 (by decide) ?_
          exact zw_MO_findFacts_218 hM hB146 hB154 hB181 l2 l3 0 u605 h ls H locs (lv_sub hl [0, 2, 3] rfl) hP hS
        · have h := h.2 hc
          clear hc
          exact zw_MO_findFacts_213 hM hB146 hB154 hB181 l2 l3 u605 h ls H locs (lv_sub hl [0, 2, 3] rfl) hP hS
theorem zw_MO_findFacts_181 (hM : zs_M p c cMO_findFacts 4 s m meth args "ThriftyStoresModel" none g)   {K : zs_T → Prop} {B146 : Int32 → zs_T → Prop} {B154 : Int32 → Int32 → zs_T → Prop} (hB146 : ∀ (l1 : Int32) (st : zs_T), B146 l1 st → zs_Go p l e (zs_rm 3 76) s m args below meth c g A (MQ below (zs_Qv g zs_ly zs_N A K) args s 0 0 A) 4 146 [(0, .ref (g.2.1 635)), (1, .int l1)] [] st) (hB154 : ∀ (l1 : Int32) (l2 : Int32) (st : zs_T), B154 l1 l2 st → zs_Go p l e (zs_rm 3 76) s m args below meth c g A (MQ below (zs_Qv g zs_ly zs_N A K) args s 0 0 A) 4 154 [(0, .ref (g.2.1 635)), (1, .int l1), (2, .int l2)] [] st) : ∀ (n : Nat) (l1 : Int32) (l2 : Int32) (l3 : Int32) (st : zs_T), zf_MO_findFacts_181 K B146 B154 n l1 l2 l3 st → zs_Go p l e (zs_rm 3 76) s m args below meth c g A (MQ below (zs_Qv g zs_ly zs_N A K) args s 0 0 A) 4 181 [(0, .ref (g.2.1 635)), (1, .int l1), (2, .int l2), (3, .int l3)] [] st := by
  intro n
  induction n with
  | zero => intro l1 l2 l3 st h; exact False.elim h
  | succ n ih => intro l1 l2 l3 st h; exact zw_MO_findFacts_181_s hM hB146 hB154 ih l1 l2 l3 st h
set_option maxHeartbeats 4000000 in
set_option maxRecDepth 100000 in
theorem zw_MO_findFacts_154_s (hM : zs_M p c cMO_findFacts 4 s m meth args "ThriftyStoresModel" none g)   {K : zs_T → Prop} {B146 : Int32 → zs_T → Prop} {B154 : Int32 → Int32 → zs_T → Prop} (hB146 : ∀ (l1 : Int32) (st : zs_T), B146 l1 st → zs_Go p l e (zs_rm 3 76) s m args below meth c g A (MQ below (zs_Qv g zs_ly zs_N A K) args s 0 0 A) 4 146 [(0, .ref (g.2.1 635)), (1, .int l1)] [] st) (hB154 : ∀ (l1 : Int32) (l2 : Int32) (st : zs_T), B154 l1 l2 st → zs_Go p l e (zs_rm 3 76) s m args below meth c g A (MQ below (zs_Qv g zs_ly zs_N A K) args s 0 0 A) 4 154 [(0, .ref (g.2.1 635)), (1, .int l1), (2, .int l2)] [] st) (l1 : Int32) (l2 : Int32) (st : zs_T) (h : zf_MO_findFacts_154_s K B146 B154 l1 l2 st) : zs_Go p l e (zs_rm 3 76) s m args below meth c g A (MQ below (zs_Qv g zs_ly zs_N A K) args s 0 0 A) 4 154 [(0, .ref (g.2.1 635)), (1, .int l1), (2, .int l2)] [] st := by
  obtain ⟨hx, hb, hml, hr, hlk, hts, hown, hK⟩ := id hM
  intro ls H locs hl hP hS
  unfold zf_MO_findFacts_154_s at h
  refine lv_iload_n hx hb dMO_findFacts_154 rfl (lv_at hl 2 rfl) ?_
  refine lv_aload_n hx hb dMO_findFacts_155 rfl (lv_at hl 0 rfl) ?_
  refine zr_geti hx hb hts zi_MO hown hK.1 hP zl_635.1 zl_635.2 rfl 5 (by decide) rfl (hts _ zq_738) dMO_findFacts_156 ?_
  refine lv_icmp_ge (tgt := 231) hx hb dMO_findFacts_159 rfl (fun hc => ?_) (fun hc => ?_)
  · have h := h.1 hc
    clear hc
    refine lv_goto (tgt := 146) hx hb dMO_findFacts_231 rfl ?_
    exact hB146 l1 st h ls H locs (lv_sub hl [0, 1] rfl) hP hS
  · have h := h.2 hc
    clear hc
    refine lv_aload_n hx hb dMO_findFacts_162 rfl (lv_at hl 0 rfl) ?_
    refine zr_getr (b := 643) hx hb hts zi_MO hown hK.1 hP zl_635.1 zl_635.2 rfl 12 (by decide) rfl (hts _ zq_745) dMO_findFacts_163 ?_
    refine lv_iload_n hx hb dMO_findFacts_166 rfl (lv_at hl 2 rfl) ?_
    obtain ⟨hi401, h⟩ := h
    refine zr_zald hx hb hK.1 hP zl_643.1 zl_643.2 hi401 dMO_findFacts_167 ?_
    refine lv_if_ne (tgt := 174) hx hb dMO_findFacts_168 rfl (fun hc => ?_) (fun hc => ?_)
    · have h := h.1 hc
      clear hc
      refine lv_aload_n hx hb dMO_findFacts_174 rfl (lv_at hl 0 rfl) ?_
      refine lv_iload_n hx hb dMO_findFacts_175 rfl (lv_at hl 2 rfl) ?_
      refine zr_callv (va_runV (As := [.int l2]) (rest := []) ⟨hx, hb, hml, hown, hts⟩ (zc_MO_pass l g A  h) (cwV 1 hts (zs_gV zq_885 zq_887 zp_43 zq_8 zq_888) rfl rfl rfl ⟨rfl, by decide, by decide, by decide +kernel⟩ ⟨Nat.le_of_ble_eq_true rfl, Nat.le_of_ble_eq_true rfl⟩) (zs_preV zs_nwk hK hP zl_635.1 zl_635.2 rfl) rfl rfl hl.1 rfl (lv_room (Nat.le_of_ble_eq_true rfl)) dMO_findFacts_176 ⟨Nat.le_refl _, Nat.le_refl _⟩) hS (fun u402 H locs h hP hS => ?_)
      refine lv_iconst (v := 0) hx hb dMO_findFacts_179 (by decide) ?_
      refine lv_istore_n hx hb dMO_findFacts_180 rfl hl (by decide) rfl (fun ls hl => ?_)
      have hl : lv_has ls 4 [(3, .int 0), (0, .ref (g.2.1 635)), (1, .int l1), (2, .int l2)] := hl
      obtain ⟨n, h⟩ := h
      exact zw_MO_findFacts_181 hM hB146 hB154 n l1 l2 0 u402 h ls H locs (lv_sub hl [1, 2, 3, 0] rfl) hP hS
    · have h := h.2 hc
      clear hc
      refine lv_goto (tgt := 225) hx hb dMO_findFacts_171 rfl ?_
      exact zw_MO_findFacts_225 hM hB146 hB154 l1 l2 st h ls H locs (lv_sub hl [0, 1, 2] rfl) hP hS
theorem zw_MO_findFacts_154 (hM : zs_M p c cMO_findFacts 4 s m meth args "ThriftyStoresModel" none g)   {K : zs_T → Prop} {B146 : Int32 → zs_T → Prop} (hB146 : ∀ (l1 : Int32) (st : zs_T), B146 l1 st → zs_Go p l e (zs_rm 3 76) s m args below meth c g A (MQ below (zs_Qv g zs_ly zs_N A K) args s 0 0 A) 4 146 [(0, .ref (g.2.1 635)), (1, .int l1)] [] st) : ∀ (n : Nat) (l1 : Int32) (l2 : Int32) (st : zs_T), zf_MO_findFacts_154 K B146 n l1 l2 st → zs_Go p l e (zs_rm 3 76) s m args below meth c g A (MQ below (zs_Qv g zs_ly zs_N A K) args s 0 0 A) 4 154 [(0, .ref (g.2.1 635)), (1, .int l1), (2, .int l2)] [] st := by
  intro n
  induction n with
  | zero => intro l1 l2 st h; exact False.elim h
  | succ n ih => intro l1 l2 st h; exact zw_MO_findFacts_154_s hM hB146 ih l1 l2 st h
set_option maxHeartbeats 4000000 in
set_option maxRecDepth 100000 in
theorem zw_MO_findFacts_146_s (hM : zs_M p c cMO_findFacts 4 s m meth args "ThriftyStoresModel" none g)   {K : zs_T → Prop}  {B146 : Int32 → zs_T → Prop}  (hB146 : ∀ (l1 : Int32) (st : zs_T), B146 l1 st → zs_Go p l e (zs_rm 3 76) s m args below meth c g A (MQ below (zs_Qv g zs_ly zs_N A K) args s 0 0 A) 4 146 [(0, .ref (g.2.1 635)), (1, .int l1)] [] st) (l1 : Int32) (st : zs_T) (h : zf_MO_findFacts_146_s K B146 l1 st) : zs_Go p l e (zs_rm 3 76) s m args below meth c g A (MQ below (zs_Qv g zs_ly zs_N A K) args s 0 0 A) 4 146 [(0, .ref (g.2.1 635)), (1, .int l1)] [] st := by
  obtain ⟨hx, hb, hml, hr, hlk, hts, hown, hK⟩ := id hM
  intro ls H locs hl hP hS
  unfold zf_MO_findFacts_146_s at h
  refine lv_iload_n hx hb dMO_findFacts_146 rfl (lv_at hl 1 rfl) ?_
  refine lv_if_eq (tgt := 234) hx hb dMO_findFacts_147 rfl (fun hc => ?_) (fun hc => ?_)
  · have h := h.1 hc
    clear hc
    exact zr_vret hx hb hr hlk hP hS h dMO_findFacts_234
  · have h := h.2 hc
    clear hc
    refine lv_iconst (v := 0) hx hb dMO_findFacts_150 (by decide) ?_
    refine lv_istore_n hx hb dMO_findFacts_151 rfl hl (by decide) rfl (fun ls hl => ?_)
    have hl : lv_has ls 4 [(1, .int 0), (0, .ref (g.2.1 635))] := hl
    refine lv_iconst (v := 0) hx hb dMO_findFacts_152 (by decide) ?_
    refine lv_istore_n hx hb dMO_findFacts_153 rfl hl (by decide) rfl (fun ls hl => ?_)
    have hl : lv_has ls 4 [(2, .int 0), (1, .int 0), (0, .ref (g.2.1 635))] := hl
    obtain ⟨n, h⟩ := h
    exact zw_MO_findFacts_154 hM hB146 n 0 0 st h ls H locs (lv_sub hl [2, 1, 0] rfl) hP hS
theorem zw_MO_findFacts_146 (hM : zs_M p c cMO_findFacts 4 s m meth args "ThriftyStoresModel" none g)   {K : zs_T → Prop}   : ∀ (n : Nat) (l1 : Int32) (st : zs_T), zf_MO_findFacts_146 K n l1 st → zs_Go p l e (zs_rm 3 76) s m args below meth c g A (MQ below (zs_Qv g zs_ly zs_N A K) args s 0 0 A) 4 146 [(0, .ref (g.2.1 635)), (1, .int l1)] [] st := by
  intro n
  induction n with
  | zero => intro l1 st h; exact False.elim h
  | succ n ih => intro l1 st h; exact zw_MO_findFacts_146_s hM  ih l1 st h
set_option maxHeartbeats 4000000 in
set_option maxRecDepth 100000 in
theorem zw_MO_findFacts_2_s (hM : zs_M p c cMO_findFacts 4 s m meth args "ThriftyStoresModel" none g)   {K : zs_T → Prop}  {B2 : Int32 → zs_T → Prop}  (hB2 : ∀ (l1 : Int32) (st : zs_T), B2 l1 st → zs_Go p l e (zs_rm 3 76) s m args below meth c g A (MQ below (zs_Qv g zs_ly zs_N A K) args s 0 0 A) 4 2 [(0, .ref (g.2.1 635)), (1, .int l1)] [] st) (l1 : Int32) (st : zs_T) (h : zf_MO_findFacts_2_s K B2 l1 st) : zs_Go p l e (zs_rm 3 76) s m args below meth c g A (MQ below (zs_Qv g zs_ly zs_N A K) args s 0 0 A) 4 2 [(0, .ref (g.2.1 635)), (1, .int l1)] [] st := by
  obtain ⟨hx, hb, hml, hr, hlk, hts, hown, hK⟩ := id hM
  intro ls H locs hl hP hS
  unfold zf_MO_findFacts_2_s at h
  refine lv_iload_n hx hb dMO_findFacts_2 rfl (lv_at hl 1 rfl) ?_
  refine lv_aload_n hx hb dMO_findFacts_3 rfl (lv_at hl 0 rfl) ?_
  refine zr_geti hx hb hts zi_MO hown hK.1 hP zl_635.1 zl_635.2 rfl 5 (by decide) rfl (hts _ zq_738) dMO_findFacts_4 ?_
  refine lv_icmp_gt (tgt := 144) hx hb dMO_findFacts_7 rfl (fun hc => ?_) (fun hc => ?_)
  · have h := h.1 hc
    clear hc
    refine lv_iconst (v := 1) hx hb dMO_findFacts_144 (by decide) ?_
    refine lv_istore_n hx hb dMO_findFacts_145 rfl hl (by decide) rfl (fun ls hl => ?_)
    have hl : lv_has ls 4 [(1, .int 1), (0, .ref (g.2.1 635))] := hl
    obtain ⟨n, h⟩ := h
    exact zw_MO_findFacts_146 hM  n 1 st h ls H locs (lv_sub hl [1, 0] rfl) hP hS
  · have h := h.2 hc
    clear hc
    refine lv_iconst (v := 0) hx hb dMO_findFacts_10 (by decide) ?_
    refine lv_istore_n hx hb dMO_findFacts_11 rfl hl (by decide) rfl (fun ls hl => ?_)
    have hl : lv_has ls 4 [(2, .int 0), (0, .ref (g.2.1 635)), (1, .int l1)] := hl
    obtain ⟨n, h⟩ := h
    exact zw_MO_findFacts_12 hM hB2 n l1 0 st h ls H locs (lv_sub hl [1, 2, 0] rfl) hP hS
theorem zw_MO_findFacts_2 (hM : zs_M p c cMO_findFacts 4 s m meth args "ThriftyStoresModel" none g)   {K : zs_T → Prop}   : ∀ (n : Nat) (l1 : Int32) (st : zs_T), zf_MO_findFacts_2 K n l1 st → zs_Go p l e (zs_rm 3 76) s m args below meth c g A (MQ below (zs_Qv g zs_ly zs_N A K) args s 0 0 A) 4 2 [(0, .ref (g.2.1 635)), (1, .int l1)] [] st := by
  intro n
  induction n with
  | zero => intro l1 st h; exact False.elim h
  | succ n ih => intro l1 st h; exact zw_MO_findFacts_2_s hM  ih l1 st h
set_option maxHeartbeats 4000000 in
set_option maxRecDepth 100000 in
theorem zc_MO_findFacts (l : Launch) (g : zs_G) (A : Nat → Prop)   {st : zs_T} {K : zs_T → Prop} (h : zf_MO_findFacts  st K) : Met l yMO_findFacts (.code yMO_findFacts cMO_findFacts 4 none :: zs_tb) (zs_rm 3 76) (zs_Pc zs_nl g zs_ly zs_N A [.ref (g.2.1 635)] st) (zs_Qv g zs_ly zs_N A K) 0 0 A := by
  refine zs_met (cc := cMO_findFacts) (maxL := 4) (ret := none) (by decide) (Nat.le_of_ble_eq_true rfl) (fun p e s m below meth c hM => ?_)
  have hM : zs_M p c cMO_findFacts 4 s m meth [.ref (g.2.1 635)].toArray "ThriftyStoresModel" none g := hM
  obtain ⟨hx, hb, hml, hr, hlk, hts, hown, hK⟩ := id hM
  intro ls H locs hl hP hS
  have hl : lv_has ls 4 [(0, .ref (g.2.1 635))] := hl
  unfold zf_MO_findFacts at h
  refine lv_iconst (v := 0) hx hb dMO_findFacts_0 (by decide) ?_
  refine lv_istore_n hx hb dMO_findFacts_1 rfl hl (by decide) rfl (fun ls hl => ?_)
  have hl : lv_has ls 4 [(1, .int 0), (0, .ref (g.2.1 635))] := hl
  obtain ⟨n, h⟩ := h
  exact zw_MO_findFacts_2 hM  n 0 st h ls H locs (lv_sub hl [1, 0] rfl) hP hS
end ZW
