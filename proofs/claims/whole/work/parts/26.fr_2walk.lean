section ZW
variable {p : Program} {l : Launch} {e : Env} {s : State} {m : MethodId} {args : Array Value} {below : List Frame} {meth : Method} {c : Code} {g : zs_G} {A : Nat → Prop}
set_option maxHeartbeats 4000000 in
set_option maxRecDepth 100000 in
theorem zw_FR_freeBefore_57 (hM : zs_M p c cFR_freeBefore 9 s m meth args "ThriftyStores$Freedom" (some .int) g) {d1 : Nat} (hd1 : zs_Pr d1) {K : Int32 → zs_T → Prop}   (l2 : Int32) (l5 : Int32) (l6 : Int32) (l7 : Int32) (s0 : Int32) (st : zs_T) (h : zf_FR_freeBefore_57 d1 K l2 l5 l6 l7 s0 st) : zs_Go p l e (zs_rm 1 21) s m args below meth c g A (MQ below (zs_Qi g zs_ly zs_N A K) args s 0 0 A) 9 57 [(1, .ref (g.2.1 d1)), (2, .int l2), (3, .ref (g.2.1 12)), (4, .ref (g.2.1 17)), (5, .int l5), (6, .int l6), (7, .int l7)] [.int s0] st := by
  obtain ⟨hx, hb, hml, hr, hlk, hts, hown, hK⟩ := id hM
  intro ls H locs hl hP hS
  unfold zf_FR_freeBefore_57 at h
  refine lv_istore hx hb dFR_freeBefore_57 hl (by decide) rfl (fun ls hl => ?_)
  have hl : lv_has ls 9 [(8, .int s0), (1, .ref (g.2.1 d1)), (2, .int l2), (3, .ref (g.2.1 12)), (4, .ref (g.2.1 17)), (5, .int l5), (6, .int l6), (7, .int l7)] := hl
  refine lv_aload_n hx hb dFR_freeBefore_59 rfl (lv_at hl 1 rfl) ?_
  refine zr_getr (b := d1 + 1) hx hb hts zi_PR hown hK.1 hP hd1.1.1 hd1.1.2 rfl 0 (by decide) rfl (hts _ zq_34) dFR_freeBefore_60 ?_
  refine lv_iload_n hx hb dFR_freeBefore_63 rfl (lv_at hl 2 rfl) ?_
  obtain ⟨hi101, h⟩ := h
  refine zr_iald hx hb hK.1 hP hd1.2.1.1 hd1.2.1.2 hi101 dFR_freeBefore_64 ?_
  by_cases hc : (st.1 (d1 + 1) l2.toNatClampNeg) = 1
  · refine lv_lookup (tgt := 100) (off := 35) hx hb dFR_freeBefore_65 (by decide) (by rw [hc]; decide) rfl ?_
    have h := h.1 hc
    clear hc
    refine lv_iload hx hb dFR_freeBefore_100 (lv_at hl 6 rfl) ?_
    refine lv_iload hx hb dFR_freeBefore_102 (lv_at hl 7 rfl) ?_
    refine lv_icmp_ne (tgt := 112) hx hb dFR_freeBefore_104 rfl (fun hc => ?_) (fun hc => ?_)
    · have h := h.1 hc
      clear hc
      refine lv_iload hx hb dFR_freeBefore_112 (lv_at hl 0 rfl) ?_
      refine lv_iload hx hb dFR_freeBefore_114 (lv_at hl 5 rfl) ?_
      refine lv_iload hx hb dFR_freeBefore_116 (lv_at hl 6 rfl) ?_
      refine lv_ishr hx hb dFR_freeBefore_118 ?_
      refine lv_iconst (v := 1) hx hb dFR_freeBefore_119 (by decide) ?_
      refine lv_iand hx hb dFR_freeBefore_120 ?_
      refine lv_iload hx hb dFR_freeBefore_121 (lv_at hl 7 rfl) ?_
      refine lv_ishl hx hb dFR_freeBefore_123 ?_
      refine lv_ior hx hb dFR_freeBefore_124 ?_
      exact zr_iret hx hb hr hlk hP hS h dFR_freeBefore_125
    · have h := h.2 hc
      clear hc
      refine lv_iload hx hb dFR_freeBefore_107 (lv_at hl 0 rfl) ?_
      refine lv_goto (tgt := 125) hx hb dFR_freeBefore_109 rfl ?_
      exact zr_iret hx hb hr hlk hP hS h dFR_freeBefore_125
  · have h := h.2 hc
    have hn0 := hc
    clear hc
    by_cases hc : (st.1 (d1 + 1) l2.toNatClampNeg) = 9
    · refine lv_lookup (tgt := 126) (off := 61) hx hb dFR_freeBefore_65 (by decide) (by rw [hc]; decide) rfl ?_
      have h := h.1 hc
      clear hc
      refine lv_iload hx hb dFR_freeBefore_126 (lv_at hl 0 rfl) ?_
      refine lv_aload_n hx hb dFR_freeBefore_128 rfl (lv_at hl 3 rfl) ?_
      refine zr_getr (b := 16) hx hb hts zi_AD hown hK.1 hP zl_12.1 zl_12.2 rfl 4 (by decide) rfl (hts _ zq_84) dFR_freeBefore_129 ?_
      refine lv_iload hx hb dFR_freeBefore_132 (lv_at hl 7 rfl) ?_
      obtain ⟨hi102, h⟩ := h
      refine zr_iald hx hb hK.1 hP zl_16.1 zl_16.2 hi102 dFR_freeBefore_134 ?_
      refine lv_iconst (v := (-1)) hx hb dFR_freeBefore_135 (by decide) ?_
      refine lv_ixor hx hb dFR_freeBefore_136 ?_
      refine lv_iand hx hb dFR_freeBefore_137 ?_
      exact zr_iret hx hb hr hlk hP hS h dFR_freeBefore_138
    · have h := h.2 hc
      have hn1 := hc
      clear hc
      by_cases hc : (st.1 (d1 + 1) l2.toNatClampNeg) = 10
      · refine lv_lookup (tgt := 139) (off := 74) hx hb dFR_freeBefore_65 (by decide) (by rw [hc]; decide) rfl ?_
        have h := h.1 hc
        clear hc
        refine lv_iload hx hb dFR_freeBefore_139 (lv_at hl 0 rfl) ?_
        refine lv_aload hx hb dFR_freeBefore_141 (lv_at hl 4 rfl) ?_
        refine zr_getr (b := 18) hx hb hts zi_KN hown hK.1 hP zl_17.1 zl_17.2 rfl 0 (by decide) rfl (hts _ zq_132) dFR_freeBefore_143 ?_
        refine lv_iload_n hx hb dFR_freeBefore_146 rfl (lv_at hl 2 rfl) ?_
        obtain ⟨hi103, hk104, h⟩ := h
        refine zr_aald hx hb hK.1 hP zl_18.1 zl_18.2 hi103 hk104 dFR_freeBefore_147 ?_
        refine zr_getr (b := 24 + 3 * l2.toNatClampNeg + 1) hx hb hts zi_FA hown hK.1 hP (zs_Fa_b hk104).1.1 (zs_Fa_b hk104).1.2 rfl 0 (by decide) rfl (hts _ zq_116) dFR_freeBefore_148 ?_
        refine lv_iload hx hb dFR_freeBefore_151 (lv_at hl 6 rfl) ?_
        obtain ⟨hi105, h⟩ := h
        refine zr_iald hx hb hK.1 hP (zs_Fa_b hk104).2.1.1 (zs_Fa_b hk104).2.1.2 hi105 dFR_freeBefore_153 ?_
        refine lv_ior hx hb dFR_freeBefore_154 ?_
        refine lv_iconst (v := 1) hx hb dFR_freeBefore_155 (by decide) ?_
        refine lv_iload hx hb dFR_freeBefore_156 (lv_at hl 6 rfl) ?_
        refine lv_ishl hx hb dFR_freeBefore_158 ?_
        refine lv_ior hx hb dFR_freeBefore_159 ?_
        exact zr_iret hx hb hr hlk hP hS h dFR_freeBefore_160
      · have h := h.2 hc
        have hn2 := hc
        clear hc
        refine lv_lookup (tgt := 161) hx hb dFR_freeBefore_65 (by decide) ((lv_osw hn0 (by decide)).trans ((lv_osw hn1 (by decide)).trans ((lv_osw hn2 (by decide)).trans (rfl)))) rfl ?_
        refine lv_iload hx hb dFR_freeBefore_161 (lv_at hl 0 rfl) ?_
        exact zr_iret hx hb hr hlk hP hS h dFR_freeBefore_163
set_option maxHeartbeats 4000000 in
set_option maxRecDepth 100000 in
theorem zc_FR_freeBefore (l : Launch) (g : zs_G) (A : Nat → Prop) {d1 : Nat} {l2 : Int32} (hd1 : zs_Pr d1) {st : zs_T} {K : Int32 → zs_T → Prop} (h : zf_FR_freeBefore d1 l2 st K) : Met l yFR_freeBefore (.code yFR_freeBefore cFR_freeBefore 9 (some .int) :: zs_tb) (zs_rm 1 21) (zs_Pc zs_nl g zs_ly zs_N A [.ref (g.2.1 627), .ref (g.2.1 d1), .int l2, .ref (g.2.1 12), .ref (g.2.1 17)] st) (zs_Qi g zs_ly zs_N A K) 0 0 A := by
  refine zs_met (cc := cFR_freeBefore) (maxL := 9) (ret := (some .int)) (by decide) (Nat.le_of_ble_eq_true rfl) (fun p e s m below meth c hM => ?_)
  have hM : zs_M p c cFR_freeBefore 9 s m meth [.ref (g.2.1 627), .ref (g.2.1 d1), .int l2, .ref (g.2.1 12), .ref (g.2.1 17)].toArray "ThriftyStores$Freedom" (some .int) g := hM
  obtain ⟨hx, hb, hml, hr, hlk, hts, hown, hK⟩ := id hM
  intro ls H locs hl hP hS
  have hl : lv_has ls 9 [(0, .ref (g.2.1 627)), (1, .ref (g.2.1 d1)), (2, .int l2), (3, .ref (g.2.1 12)), (4, .ref (g.2.1 17))] := hl
  unfold zf_FR_freeBefore at h
  refine lv_aload_n hx hb dFR_freeBefore_0 rfl (lv_at hl 0 rfl) ?_
  refine zr_getr (b := 628) hx hb hts zi_FR hown hK.1 hP zl_627.1 zl_627.2 rfl 0 (by decide) rfl (hts _ zq_154) dFR_freeBefore_1 ?_
  refine lv_iload_n hx hb dFR_freeBefore_4 rfl (lv_at hl 2 rfl) ?_
  obtain ⟨hi1, h⟩ := h
  refine zr_iald hx hb hK.1 hP zl_628.1 zl_628.2 hi1 dFR_freeBefore_5 ?_
  refine lv_istore hx hb dFR_freeBefore_6 hl (by decide) rfl (fun ls hl => ?_)
  have hl : lv_has ls 9 [(5, .int (st.1 628 l2.toNatClampNeg)), (0, .ref (g.2.1 627)), (1, .ref (g.2.1 d1)), (2, .int l2), (3, .ref (g.2.1 12)), (4, .ref (g.2.1 17))] := hl
  refine lv_iload_n hx hb dFR_freeBefore_8 rfl (lv_at hl 3 rfl) ?_
  refine lv_aload_n hx hb dFR_freeBefore_9 rfl (lv_at hl 2 rfl) ?_
  refine zr_geti hx hb hts zi_PR hown hK.1 hP hd1.1.1 hd1.1.2 rfl 4 (by decide) rfl (hts _ zq_55) dFR_freeBefore_10 ?_
  refine lv_icmp_ne (tgt := 19) hx hb dFR_freeBefore_13 rfl (fun hc => ?_) (fun hc => ?_)
  · have h := h.1 hc
    clear hc
    refine lv_aload_n hx hb dFR_freeBefore_19 rfl (lv_at hl 2 rfl) ?_
    refine zr_getr (b := d1 + 2) hx hb hts zi_PR hown hK.1 hP hd1.1.1 hd1.1.2 rfl 1 (by decide) rfl (hts _ zq_41) dFR_freeBefore_20 ?_
    refine lv_iload_n hx hb dFR_freeBefore_23 rfl (lv_at hl 3 rfl) ?_
    obtain ⟨hi2, h⟩ := h
    refine zr_iald hx hb hK.1 hP hd1.2.2.1.1 hd1.2.2.1.2 hi2 dFR_freeBefore_24 ?_
    refine lv_istore hx hb dFR_freeBefore_25 hl (by decide) rfl (fun ls hl => ?_)
    have hl : lv_has ls 9 [(6, .int (st.1 (d1 + 2) l2.toNatClampNeg)), (5, .int (st.1 628 l2.toNatClampNeg)), (0, .ref (g.2.1 627)), (1, .ref (g.2.1 d1)), (2, .int l2), (3, .ref (g.2.1 12)), (4, .ref (g.2.1 17))] := hl
    refine lv_aload_n hx hb dFR_freeBefore_27 rfl (lv_at hl 3 rfl) ?_
    refine zr_getr (b := d1 + 3) hx hb hts zi_PR hown hK.1 hP hd1.1.1 hd1.1.2 rfl 2 (by decide) rfl (hts _ zq_47) dFR_freeBefore_28 ?_
    refine lv_iload_n hx hb dFR_freeBefore_31 rfl (lv_at hl 4 rfl) ?_
    obtain ⟨hi3, h⟩ := h
    refine zr_iald hx hb hK.1 hP hd1.2.2.2.1.1 hd1.2.2.2.1.2 hi3 dFR_freeBefore_32 ?_
    refine lv_istore hx hb dFR_freeBefore_33 hl (by decide) rfl (fun ls hl => ?_)
    have hl : lv_has ls 9 [(7, .int (st.1 (d1 + 3) l2.toNatClampNeg)), (6, .int (st.1 (d1 + 2) l2.toNatClampNeg)), (5, .int (st.1 628 l2.toNatClampNeg)), (0, .ref (g.2.1 627)), (1, .ref (g.2.1 d1)), (2, .int l2), (3, .ref (g.2.1 12)), (4, .ref (g.2.1 17))] := hl
    refine lv_aload_n hx hb dFR_freeBefore_35 rfl (lv_at hl 4 rfl) ?_
    refine lv_iload_n hx hb dFR_freeBefore_36 rfl (lv_at hl 5 rfl) ?_
    refine zr_calli (va_runV (As := [.int l2]) (rest := []) ⟨hx, hb, hml, hown, hts⟩ (zc_PR_setsFirst l g A hd1 h) (cwV 1 hts (zs_gV zq_513 zq_476 zq_477 zq_2 zq_478) rfl rfl rfl ⟨rfl, by decide, by decide, by decide +kernel⟩ ⟨Nat.le_of_ble_eq_true rfl, Nat.le_of_ble_eq_true rfl⟩) (zs_preV zs_nwk hK hP hd1.1.1 hd1.1.2 rfl) rfl rfl hl.1 rfl (lv_room (Nat.le_of_ble_eq_true rfl)) dFR_freeBefore_37 ⟨Nat.le_refl _, Nat.le_refl _⟩) hS (fun r5 u4 H locs h hP hS => ?_)
    refine lv_if_eq (tgt := 55) hx hb dFR_freeBefore_40 rfl (fun hc => ?_) (fun hc => ?_)
    · have h := h.1 hc
      clear hc
      refine lv_iload hx hb dFR_freeBefore_55 (lv_at hl 2 rfl) ?_
      exact zw_FR_freeBefore_57 hM hd1 l2 (st.1 628 l2.toNatClampNeg) (st.1 (d1 + 2) l2.toNatClampNeg) (st.1 (d1 + 3) l2.toNatClampNeg) (st.1 628 l2.toNatClampNeg) u4 h ls H locs (lv_sub hl [4, 5, 6, 7, 2, 1, 0] rfl) hP hS
    · have h := h.2 hc
      clear hc
      refine lv_iload hx hb dFR_freeBefore_43 (lv_at hl 2 rfl) ?_
      refine lv_iconst (v := 1) hx hb dFR_freeBefore_45 (by decide) ?_
      refine lv_iload hx hb dFR_freeBefore_46 (lv_at hl 1 rfl) ?_
      refine lv_ishl hx hb dFR_freeBefore_48 ?_
      refine lv_iconst (v := (-1)) hx hb dFR_freeBefore_49 (by decide) ?_
      refine lv_ixor hx hb dFR_freeBefore_50 ?_
      refine lv_iand hx hb dFR_freeBefore_51 ?_
      refine lv_goto (tgt := 57) hx hb dFR_freeBefore_52 rfl ?_
      exact zw_FR_freeBefore_57 hM hd1 l2 (st.1 628 l2.toNatClampNeg) (st.1 (d1 + 2) l2.toNatClampNeg) (st.1 (d1 + 3) l2.toNatClampNeg) ((st.1 628 l2.toNatClampNeg) &&& (((1 : Int32) <<< ((st.1 (d1 + 2) l2.toNatClampNeg) &&& 31)) ^^^ (-1))) u4 h ls H locs (lv_sub hl [4, 5, 6, 7, 2, 1, 0] rfl) hP hS
  · have h := h.2 hc
    clear hc
    refine lv_iload hx hb dFR_freeBefore_16 (lv_at hl 0 rfl) ?_
    exact zr_iret hx hb hr hlk hP hS h dFR_freeBefore_18
set_option maxHeartbeats 4000000 in
set_option maxRecDepth 100000 in
theorem zw_FR_freeBeforeNext_32 (hM : zs_M p c cFR_freeBeforeNext 8 s m meth args "ThriftyStores$Freedom" (some .int) g) {d1 : Nat} (hd1 : zs_Pr d1) {K : Int32 → zs_T → Prop}   (l2 : Int32) (l5 : Int32) (st : zs_T) (h : zf_FR_freeBeforeNext_32 d1 K l2 l5 st) : zs_Go p l e (zs_rm 2 49) s m args below meth c g A (MQ below (zs_Qi g zs_ly zs_N A K) args s 0 0 A) 8 32 [(0, .ref (g.2.1 627)), (1, .ref (g.2.1 d1)), (2, .int l2), (3, .ref (g.2.1 12)), (4, .ref (g.2.1 17)), (5, .int l5)] [] st := by
  obtain ⟨hx, hb, hml, hr, hlk, hts, hown, hK⟩ := id hM
  intro ls H locs hl hP hS
  unfold zf_FR_freeBeforeNext_32 at h
  refine lv_aload_n hx hb dFR_freeBeforeNext_32 rfl (lv_at hl 1 rfl) ?_
  refine lv_iload_n hx hb dFR_freeBeforeNext_33 rfl (lv_at hl 2 rfl) ?_
  refine zr_calli (va_runV (As := [.int l2]) (rest := []) ⟨hx, hb, hml, hown, hts⟩ (zc_PR_target l g A hd1 h) (cwV 1 hts (zs_gV zq_514 zq_492 zq_493 zq_2 zq_494) rfl rfl rfl ⟨rfl, by decide, by decide, by decide +kernel⟩ ⟨Nat.le_of_ble_eq_true rfl, Nat.le_of_ble_eq_true rfl⟩) (zs_preV zs_nwk hK hP hd1.1.1 hd1.1.2 rfl) rfl rfl hl.1 rfl (lv_room (Nat.le_of_ble_eq_true rfl)) dFR_freeBeforeNext_34 ⟨Nat.le_refl _, Nat.le_refl _⟩) hS (fun r102 u101 H locs h hP hS => ?_)
  refine lv_istore hx hb dFR_freeBeforeNext_37 hl (by decide) rfl (fun ls hl => ?_)
  have hl : lv_has ls 8 [(7, .int r102), (0, .ref (g.2.1 627)), (1, .ref (g.2.1 d1)), (2, .int l2), (3, .ref (g.2.1 12)), (4, .ref (g.2.1 17)), (5, .int l5)] := hl
  refine lv_iload hx hb dFR_freeBeforeNext_39 (lv_at hl 0 rfl) ?_
  refine lv_iconst (v := (-1)) hx hb dFR_freeBeforeNext_41 (by decide) ?_
  refine lv_icmp_eq (tgt := 60) hx hb dFR_freeBeforeNext_42 rfl (fun hc => ?_) (fun hc => ?_)
  · have h := h.1 hc
    clear hc
    refine lv_iload hx hb dFR_freeBeforeNext_60 (lv_at hl 6 rfl) ?_
    exact zr_iret hx hb hr hlk hP hS h dFR_freeBeforeNext_62
  · have h := h.2 hc
    clear hc
    refine lv_iload hx hb dFR_freeBeforeNext_45 (lv_at hl 6 rfl) ?_
    refine lv_aload_n hx hb dFR_freeBeforeNext_47 rfl (lv_at hl 1 rfl) ?_
    refine lv_aload_n hx hb dFR_freeBeforeNext_48 rfl (lv_at hl 2 rfl) ?_
    refine lv_iload hx hb dFR_freeBeforeNext_49 (lv_at hl 0 rfl) ?_
    refine lv_aload_n hx hb dFR_freeBeforeNext_51 rfl (lv_at hl 4 rfl) ?_
    refine lv_aload hx hb dFR_freeBeforeNext_52 (lv_at hl 5 rfl) ?_
    refine zr_calli (va_runV (As := [.ref (g.2.1 d1), .int r102, .ref (g.2.1 12), .ref (g.2.1 17)]) (rest := [.int l5]) ⟨hx, hb, hml, hown, hts⟩ (zc_FR_freeBefore l g A hd1 h) (cwV 4 hts (zs_gV zq_509 zq_511 zp_19 zq_6 zq_512) rfl rfl rfl ⟨rfl, by decide, by decide, by decide +kernel⟩ ⟨Nat.le_of_ble_eq_true rfl, Nat.le_of_ble_eq_true rfl⟩) (zs_preV zs_nwk hK hP zl_627.1 zl_627.2 rfl) rfl rfl hl.1 rfl (lv_room (Nat.le_of_ble_eq_true rfl)) dFR_freeBeforeNext_54 ⟨Nat.le_refl _, Nat.le_refl _⟩) hS (fun r104 u103 H locs h hP hS => ?_)
    refine lv_iand hx hb dFR_freeBeforeNext_57 ?_
    refine lv_istore hx hb dFR_freeBeforeNext_58 hl (by decide) rfl (fun ls hl => ?_)
    have hl : lv_has ls 8 [(5, .int (l5 &&& r104)), (7, .int r102), (0, .ref (g.2.1 627)), (1, .ref (g.2.1 d1)), (2, .int l2), (3, .ref (g.2.1 12)), (4, .ref (g.2.1 17))] := hl
    refine lv_iload hx hb dFR_freeBeforeNext_60 (lv_at hl 0 rfl) ?_
    exact zr_iret hx hb hr hlk hP hS h dFR_freeBeforeNext_62
set_option maxHeartbeats 4000000 in
set_option maxRecDepth 100000 in
theorem zc_FR_freeBeforeNext (l : Launch) (g : zs_G) (A : Nat → Prop) {d1 : Nat} {l2 : Int32} (hd1 : zs_Pr d1) {st : zs_T} {K : Int32 → zs_T → Prop} (h : zf_FR_freeBeforeNext d1 l2 st K) : Met l yFR_freeBeforeNext (.code yFR_freeBeforeNext cFR_freeBeforeNext 8 (some .int) :: zs_tb) (zs_rm 2 49) (zs_Pc zs_nl g zs_ly zs_N A [.ref (g.2.1 627), .ref (g.2.1 d1), .int l2, .ref (g.2.1 12), .ref (g.2.1 17)] st) (zs_Qi g zs_ly zs_N A K) 0 0 A := by
  refine zs_met (cc := cFR_freeBeforeNext) (maxL := 8) (ret := (some .int)) (by decide) (Nat.le_of_ble_eq_true rfl) (fun p e s m below meth c hM => ?_)
  have hM : zs_M p c cFR_freeBeforeNext 8 s m meth [.ref (g.2.1 627), .ref (g.2.1 d1), .int l2, .ref (g.2.1 12), .ref (g.2.1 17)].toArray "ThriftyStores$Freedom" (some .int) g := hM
  obtain ⟨hx, hb, hml, hr, hlk, hts, hown, hK⟩ := id hM
  intro ls H locs hl hP hS
  have hl : lv_has ls 8 [(0, .ref (g.2.1 627)), (1, .ref (g.2.1 d1)), (2, .int l2), (3, .ref (g.2.1 12)), (4, .ref (g.2.1 17))] := hl
  unfold zf_FR_freeBeforeNext at h
  refine lv_ldc hx hb hown (hts _ zq_502) dFR_freeBeforeNext_0 ?_
  refine lv_istore hx hb dFR_freeBeforeNext_2 hl (by decide) rfl (fun ls hl => ?_)
  have hl : lv_has ls 8 [(5, .int 65535), (0, .ref (g.2.1 627)), (1, .ref (g.2.1 d1)), (2, .int l2), (3, .ref (g.2.1 12)), (4, .ref (g.2.1 17))] := hl
  refine lv_aload_n hx hb dFR_freeBeforeNext_4 rfl (lv_at hl 2 rfl) ?_
  refine lv_iload_n hx hb dFR_freeBeforeNext_5 rfl (lv_at hl 3 rfl) ?_
  refine zr_calli (va_runV (As := [.int l2]) (rest := []) ⟨hx, hb, hml, hown, hts⟩ (zc_PR_follower l g A hd1 h) (cwV 1 hts (zs_gV zq_508 zq_480 zq_481 zq_2 zq_482) rfl rfl rfl ⟨rfl, by decide, by decide, by decide +kernel⟩ ⟨Nat.le_of_ble_eq_true rfl, Nat.le_of_ble_eq_true rfl⟩) (zs_preV zs_nwk hK hP hd1.1.1 hd1.1.2 rfl) rfl rfl hl.1 rfl (lv_room (Nat.le_of_ble_eq_true rfl)) dFR_freeBeforeNext_6 ⟨Nat.le_refl _, Nat.le_refl _⟩) hS (fun r2 u1 H locs h hP hS => ?_)
  refine lv_istore hx hb dFR_freeBeforeNext_9 hl (by decide) rfl (fun ls hl => ?_)
  have hl : lv_has ls 8 [(6, .int r2), (5, .int 65535), (0, .ref (g.2.1 627)), (1, .ref (g.2.1 d1)), (2, .int l2), (3, .ref (g.2.1 12)), (4, .ref (g.2.1 17))] := hl
  refine lv_iload hx hb dFR_freeBeforeNext_11 (lv_at hl 0 rfl) ?_
  refine lv_iconst (v := (-1)) hx hb dFR_freeBeforeNext_13 (by decide) ?_
  refine lv_icmp_eq (tgt := 32) hx hb dFR_freeBeforeNext_14 rfl (fun hc => ?_) (fun hc => ?_)
  · have h := h.1 hc
    clear hc
    exact zw_FR_freeBeforeNext_32 hM hd1 l2 65535 u1 h ls H locs (lv_sub hl [2, 3, 4, 5, 6, 1] rfl) hP hS
  · have h := h.2 hc
    clear hc
    refine lv_iload hx hb dFR_freeBeforeNext_17 (lv_at hl 1 rfl) ?_
    refine lv_aload_n hx hb dFR_freeBeforeNext_19 rfl (lv_at hl 2 rfl) ?_
    refine lv_aload_n hx hb dFR_freeBeforeNext_20 rfl (lv_at hl 3 rfl) ?_
    refine lv_iload hx hb dFR_freeBeforeNext_21 (lv_at hl 0 rfl) ?_
    refine lv_aload_n hx hb dFR_freeBeforeNext_23 rfl (lv_at hl 5 rfl) ?_
    refine lv_aload hx hb dFR_freeBeforeNext_24 (lv_at hl 6 rfl) ?_
    refine zr_calli (va_runV (As := [.ref (g.2.1 d1), .int r2, .ref (g.2.1 12), .ref (g.2.1 17)]) (rest := [.int 65535]) ⟨hx, hb, hml, hown, hts⟩ (zc_FR_freeBefore l g A hd1 h) (cwV 4 hts (zs_gV zq_509 zq_511 zp_19 zq_6 zq_512) rfl rfl rfl ⟨rfl, by decide, by decide, by decide +kernel⟩ ⟨Nat.le_of_ble_eq_true rfl, Nat.le_of_ble_eq_true rfl⟩) (zs_preV zs_nwk hK hP zl_627.1 zl_627.2 rfl) rfl rfl hl.1 rfl (lv_room (Nat.le_of_ble_eq_true rfl)) dFR_freeBeforeNext_26 ⟨Nat.le_refl _, Nat.le_refl _⟩) hS (fun r4 u3 H locs h hP hS => ?_)
    refine lv_iand hx hb dFR_freeBeforeNext_29 ?_
    refine lv_istore hx hb dFR_freeBeforeNext_30 hl (by decide) rfl (fun ls hl => ?_)
    have hl : lv_has ls 8 [(5, .int (65535 &&& r4)), (6, .int r2), (0, .ref (g.2.1 627)), (1, .ref (g.2.1 d1)), (2, .int l2), (3, .ref (g.2.1 12)), (4, .ref (g.2.1 17))] := hl
    exact zw_FR_freeBeforeNext_32 hM hd1 l2 (65535 &&& r4) u3 h ls H locs (lv_sub hl [2, 3, 4, 5, 6, 0] rfl) hP hS
set_option maxHeartbeats 4000000 in
set_option maxRecDepth 100000 in
theorem zw_FR_find_40 (hM : zs_M p c cFR_find 9 s m meth args "ThriftyStores$Freedom" none g) {d1 : Nat} (hd1 : zs_Pr d1) {K : zs_T → Prop} {B9 : Int32 → Int32 → zs_T → Prop} (hB9 : ∀ (l4 : Int32) (l5 : Int32) (st : zs_T), B9 l4 l5 st → zs_Go p l e (zs_rm 3 76) s m args below meth c g A (MQ below (zs_Qv g zs_ly zs_N A K) args s 0 0 A) 9 9 [(0, .ref (g.2.1 627)), (1, .ref (g.2.1 d1)), (2, .ref (g.2.1 12)), (3, .ref (g.2.1 17)), (4, .int l4), (5, .int l5)] [] st) (l4 : Int32) (l5 : Int32) (s0 : Int32) (s1 : Int32) (st : zs_T) (h : zf_FR_find_40 d1 K B9 l4 l5 s0 s1 st) : zs_Go p l e (zs_rm 3 76) s m args below meth c g A (MQ below (zs_Qv g zs_ly zs_N A K) args s 0 0 A) 9 40 [(0, .ref (g.2.1 627)), (1, .ref (g.2.1 d1)), (2, .ref (g.2.1 12)), (3, .ref (g.2.1 17)), (4, .int l4), (5, .int l5)] [.int s0, .int s1, .ref (g.2.1 628)] st := by
  obtain ⟨hx, hb, hml, hr, hlk, hts, hown, hK⟩ := id hM
  intro ls H locs hl hP hS
  unfold zf_FR_find_40 at h
  obtain ⟨hi301, h⟩ := h
  refine zr_iast hx hb hK.1 hP hS zl_628.1 zl_628.2 hi301 dFR_find_40 (fun H locs hP hS => ?_)
  obtain ⟨t302, ez⟩ : ∃ tz : zs_T, tz = zs_i st 628 s1.toNatClampNeg s0 := ⟨_, rfl⟩
  have h := h t302 ez
  have hP : zs_P g zs_ly zs_N A t302 H := by rw [ez]; exact hP
  clear ez
  refine lv_iinc (k := 5) (v := l5 + 1) hx hb dFR_find_41 hl rfl (by rw [show Int32.ofInt (1) = 1 from by decide]) (by decide) rfl (fun ls hl => ?_)
  have hl : lv_has ls 9 [(5, .int (l5 + 1)), (0, .ref (g.2.1 627)), (1, .ref (g.2.1 d1)), (2, .ref (g.2.1 12)), (3, .ref (g.2.1 17)), (4, .int l4)] := hl
  refine lv_goto (tgt := 9) hx hb dFR_find_44 rfl ?_
  exact hB9 l4 (l5 + 1) t302 h ls H locs (lv_sub hl [1, 2, 3, 4, 5, 0] rfl) hP hS
set_option maxHeartbeats 4000000 in
set_option maxRecDepth 100000 in
theorem zw_FR_find_184 (hM : zs_M p c cFR_find 9 s m meth args "ThriftyStores$Freedom" none g) {d1 : Nat} (hd1 : zs_Pr d1) {K : zs_T → Prop} {B80 : Int32 → Int32 → Int32 → zs_T → Prop} {B103 : Int32 → Int32 → Int32 → Int32 → zs_T → Prop} (hB80 : ∀ (l4 : Int32) (l5 : Int32) (l6 : Int32) (st : zs_T), B80 l4 l5 l6 st → zs_Go p l e (zs_rm 3 76) s m args below meth c g A (MQ below (zs_Qv g zs_ly zs_N A K) args s 0 0 A) 9 80 [(0, .ref (g.2.1 627)), (1, .ref (g.2.1 d1)), (2, .ref (g.2.1 12)), (3, .ref (g.2.1 17)), (4, .int l4), (5, .int l5), (6, .int l6)] [] st) (hB103 : ∀ (l4 : Int32) (l5 : Int32) (l6 : Int32) (l7 : Int32) (st : zs_T), B103 l4 l5 l6 l7 st → zs_Go p l e (zs_rm 3 76) s m args below meth c g A (MQ below (zs_Qv g zs_ly zs_N A K) args s 0 0 A) 9 103 [(0, .ref (g.2.1 627)), (1, .ref (g.2.1 d1)), (2, .ref (g.2.1 12)), (3, .ref (g.2.1 17)), (4, .int l4), (5, .int l5), (6, .int l6), (7, .int l7)] [] st) (l4 : Int32) (l5 : Int32) (l6 : Int32) (l7 : Int32) (st : zs_T) (h : zf_FR_find_184 d1 K B80 B103 l4 l5 l6 l7 st) : zs_Go p l e (zs_rm 3 76) s m args below meth c g A (MQ below (zs_Qv g zs_ly zs_N A K) args s 0 0 A) 9 184 [(0, .ref (g.2.1 627)), (1, .ref (g.2.1 d1)), (2, .ref (g.2.1 12)), (3, .ref (g.2.1 17)), (4, .int l4), (5, .int l5), (6, .int l6), (7, .int l7)] [] st := by
  obtain ⟨hx, hb, hml, hr, hlk, hts, hown, hK⟩ := id hM
  intro ls H locs hl hP hS
  unfold zf_FR_find_184 at h
  refine lv_iinc (k := 7) (v := l7 + (-1)) hx hb dFR_find_184 hl rfl (by rw [show Int32.ofInt (-1) = (-1) from by decide]) (by decide) rfl (fun ls hl => ?_)
  have hl : lv_has ls 9 [(7, .int (l7 + (-1))), (0, .ref (g.2.1 627)), (1, .ref (g.2.1 d1)), (2, .ref (g.2.1 12)), (3, .ref (g.2.1 17)), (4, .int l4), (5, .int l5), (6, .int l6)] := hl
  refine lv_goto (tgt := 103) hx hb dFR_find_187 rfl ?_
  exact hB103 l4 l5 l6 (l7 + (-1)) st h ls H locs (lv_sub hl [1, 2, 3, 4, 5, 6, 7, 0] rfl) hP hS
set_option maxHeartbeats 4000000 in
set_option maxRecDepth 100000 in
theorem zw_FR_find_182 (hM : zs_M p c cFR_find 9 s m meth args "ThriftyStores$Freedom" none g) {d1 : Nat} (hd1 : zs_Pr d1) {K : zs_T → Prop} {B80 : Int32 → Int32 → Int32 → zs_T → Prop} {B103 : Int32 → Int32 → Int32 → Int32 → zs_T → Prop} (hB80 : ∀ (l4 : Int32) (l5 : Int32) (l6 : Int32) (st : zs_T), B80 l4 l5 l6 st → zs_Go p l e (zs_rm 3 76) s m args below meth c g A (MQ below (zs_Qv g zs_ly zs_N A K) args s 0 0 A) 9 80 [(0, .ref (g.2.1 627)), (1, .ref (g.2.1 d1)), (2, .ref (g.2.1 12)), (3, .ref (g.2.1 17)), (4, .int l4), (5, .int l5), (6, .int l6)] [] st) (hB103 : ∀ (l4 : Int32) (l5 : Int32) (l6 : Int32) (l7 : Int32) (st : zs_T), B103 l4 l5 l6 l7 st → zs_Go p l e (zs_rm 3 76) s m args below meth c g A (MQ below (zs_Qv g zs_ly zs_N A K) args s 0 0 A) 9 103 [(0, .ref (g.2.1 627)), (1, .ref (g.2.1 d1)), (2, .ref (g.2.1 12)), (3, .ref (g.2.1 17)), (4, .int l4), (5, .int l5), (6, .int l6), (7, .int l7)] [] st) (l4 : Int32) (l6 : Int32) (l7 : Int32) (s0 : Int32) (st : zs_T) (h : zf_FR_find_182 d1 K B80 B103 l4 l6 l7 s0 st) : zs_Go p l e (zs_rm 3 76) s m args below meth c g A (MQ below (zs_Qv g zs_ly zs_N A K) args s 0 0 A) 9 182 [(0, .ref (g.2.1 627)), (1, .ref (g.2.1 d1)), (2, .ref (g.2.1 12)), (3, .ref (g.2.1 17)), (4, .int l4), (6, .int l6), (7, .int l7)] [.int s0] st := by
  obtain ⟨hx, hb, hml, hr, hlk, hts, hown, hK⟩ := id hM
  intro ls H locs hl hP hS
  unfold zf_FR_find_182 at h
  refine lv_istore hx hb dFR_find_182 hl (by decide) rfl (fun ls hl => ?_)
  have hl : lv_has ls 9 [(5, .int s0), (0, .ref (g.2.1 627)), (1, .ref (g.2.1 d1)), (2, .ref (g.2.1 12)), (3, .ref (g.2.1 17)), (4, .int l4), (6, .int l6), (7, .int l7)] := hl
  exact zw_FR_find_184 hM hd1 hB80 hB103 l4 s0 l6 l7 st h ls H locs (lv_sub hl [1, 2, 3, 4, 5, 0, 6, 7] rfl) hP hS
set_option maxHeartbeats 4000000 in
set_option maxRecDepth 100000 in
theorem zw_FR_find_177 (hM : zs_M p c cFR_find 9 s m meth args "ThriftyStores$Freedom" none g) {d1 : Nat} (hd1 : zs_Pr d1) {K : zs_T → Prop} {B80 : Int32 → Int32 → Int32 → zs_T → Prop} {B103 : Int32 → Int32 → Int32 → Int32 → zs_T → Prop} (hB80 : ∀ (l4 : Int32) (l5 : Int32) (l6 : Int32) (st : zs_T), B80 l4 l5 l6 st → zs_Go p l e (zs_rm 3 76) s m args below meth c g A (MQ below (zs_Qv g zs_ly zs_N A K) args s 0 0 A) 9 80 [(0, .ref (g.2.1 627)), (1, .ref (g.2.1 d1)), (2, .ref (g.2.1 12)), (3, .ref (g.2.1 17)), (4, .int l4), (5, .int l5), (6, .int l6)] [] st) (hB103 : ∀ (l4 : Int32) (l5 : Int32) (l6 : Int32) (l7 : Int32) (st : zs_T), B103 l4 l5 l6 l7 st → zs_Go p l e (zs_rm 3 76) s m args below meth c g A (MQ below (zs_Qv g zs_ly zs_N A K) args s 0 0 A) 9 103 [(0, .ref (g.2.1 627)), (1, .ref (g.2.1 d1)), (2, .ref (g.2.1 12)), (3, .ref (g.2.1 17)), (4, .int l4), (5, .int l5), (6, .int l6), (7, .int l7)] [] st) (l4 : Int32) (l6 : Int32) (l7 : Int32) (st : zs_T) (h : zf_FR_find_177 d1 K B80 B103 l4 l6 l7 st) : zs_Go p l e (zs_rm 3 76) s m args below meth c g A (MQ below (zs_Qv g zs_ly zs_N A K) args s 0 0 A) 9 177 [(0, .ref (g.2.1 627)), (1, .ref (g.2.1 d1)), (2, .ref (g.2.1 12)), (3, .ref (g.2.1 17)), (4, .int l4), (6, .int l6), (7, .int l7)] [] st := by
  obtain ⟨hx, hb, hml, hr, hlk, hts, hown, hK⟩ := id hM
  intro ls H locs hl hP hS
  unfold zf_FR_find_177 at h
  refine lv_iconst (v := 1) hx hb dFR_find_177 (by decide) ?_
  refine lv_goto (tgt := 182) hx hb dFR_find_178 rfl ?_
  exact zw_FR_find_182 hM hd1 hB80 hB103 l4 l6 l7 1 st h ls H locs (lv_sub hl [0, 1, 2, 3, 4, 5, 6] rfl) hP hS
set_option maxHeartbeats 4000000 in
set_option maxRecDepth 100000 in
theorem zw_FR_find_159 (hM : zs_M p c cFR_find 9 s m meth args "ThriftyStores$Freedom" none g) {d1 : Nat} (hd1 : zs_Pr d1) {K : zs_T → Prop} {B80 : Int32 → Int32 → Int32 → zs_T → Prop} {B103 : Int32 → Int32 → Int32 → Int32 → zs_T → Prop} (hB80 : ∀ (l4 : Int32) (l5 : Int32) (l6 : Int32) (st : zs_T), B80 l4 l5 l6 st → zs_Go p l e (zs_rm 3 76) s m args below meth c g A (MQ below (zs_Qv g zs_ly zs_N A K) args s 0 0 A) 9 80 [(0, .ref (g.2.1 627)), (1, .ref (g.2.1 d1)), (2, .ref (g.2.1 12)), (3, .ref (g.2.1 17)), (4, .int l4), (5, .int l5), (6, .int l6)] [] st) (hB103 : ∀ (l4 : Int32) (l5 : Int32) (l6 : Int32) (l7 : Int32) (st : zs_T), B103 l4 l5 l6 l7 st → zs_Go p l e (zs_rm 3 76) s m args below meth c g A (MQ below (zs_Qv g zs_ly zs_N A K) args s 0 0 A) 9 103 [(0, .ref (g.2.1 627)), (1, .ref (g.2.1 d1)), (2, .ref (g.2.1 12)), (3, .ref (g.2.1 17)), (4, .int l4), (5, .int l5), (6, .int l6), (7, .int l7)] [] st) (l4 : Int32) (l5 : Int32) (l6 : Int32) (l7 : Int32) (l8 : Int32) (s0 : Int32) (s1 : Int32) (st : zs_T) (h : zf_FR_find_159 d1 K B80 B103 l4 l5 l6 l7 l8 s0 s1 st) : zs_Go p l e (zs_rm 3 76) s m args below meth c g A (MQ below (zs_Qv g zs_ly zs_N A K) args s 0 0 A) 9 159 [(0, .ref (g.2.1 627)), (1, .ref (g.2.1 d1)), (2, .ref (g.2.1 12)), (3, .ref (g.2.1 17)), (4, .int l4), (5, .int l5), (6, .int l6), (7, .int l7), (8, .int l8)] [.int s0, .int s1, .ref (g.2.1 628)] st := by
  obtain ⟨hx, hb, hml, hr, hlk, hts, hown, hK⟩ := id hM
  intro ls H locs hl hP hS
  unfold zf_FR_find_159 at h
  obtain ⟨hi701, h⟩ := h
  refine zr_iast hx hb hK.1 hP hS zl_628.1 zl_628.2 hi701 dFR_find_159 (fun H locs hP hS => ?_)
  obtain ⟨t702, ez⟩ : ∃ tz : zs_T, tz = zs_i st 628 s1.toNatClampNeg s0 := ⟨_, rfl⟩
  have h := h t702 ez
  have hP : zs_P g zs_ly zs_N A t702 H := by rw [ez]; exact hP
  clear ez
  refine lv_iload hx hb dFR_find_160 (lv_at hl 5 rfl) ?_
  refine lv_if_ne (tgt := 177) hx hb dFR_find_162 rfl (fun hc => ?_) (fun hc => ?_)
  · have h := h.1 hc
    clear hc
    exact zw_FR_find_177 hM hd1 hB80 hB103 l4 l6 l7 t702 h ls H locs (lv_sub hl [0, 1, 2, 3, 4, 6, 7] rfl) hP hS
  · have h := h.2 hc
    clear hc
    refine lv_aload_n hx hb dFR_find_165 rfl (lv_at hl 0 rfl) ?_
    refine zr_getr (b := 628) hx hb hts zi_FR hown hK.1 hP zl_627.1 zl_627.2 rfl 0 (by decide) rfl (hts _ zq_154) dFR_find_166 ?_
    refine lv_iload hx hb dFR_find_169 (lv_at hl 7 rfl) ?_
    obtain ⟨hi703, h⟩ := h
    refine zr_iald hx hb hK.1 hP zl_628.1 zl_628.2 hi703 dFR_find_171 ?_
    refine lv_iload hx hb dFR_find_172 (lv_at hl 8 rfl) ?_
    refine lv_icmp_eq (tgt := 181) hx hb dFR_find_174 rfl (fun hc => ?_) (fun hc => ?_)
    · have h := h.1 hc
      clear hc
      refine lv_iconst (v := 0) hx hb dFR_find_181 (by decide) ?_
      exact zw_FR_find_182 hM hd1 hB80 hB103 l4 l6 l7 0 t702 h ls H locs (lv_sub hl [0, 1, 2, 3, 4, 6, 7] rfl) hP hS
    · have h := h.2 hc
      clear hc
      exact zw_FR_find_177 hM hd1 hB80 hB103 l4 l6 l7 t702 h ls H locs (lv_sub hl [0, 1, 2, 3, 4, 6, 7] rfl) hP hS
set_option maxHeartbeats 4000000 in
set_option maxRecDepth 100000 in
theorem zw_FR_find_103_s (hM : zs_M p c cFR_find 9 s m meth args "ThriftyStores$Freedom" none g) {d1 : Nat} (hd1 : zs_Pr d1) {K : zs_T → Prop} {B80 : Int32 → Int32 → Int32 → zs_T → Prop} {B103 : Int32 → Int32 → Int32 → Int32 → zs_T → Prop} (hB80 : ∀ (l4 : Int32) (l5 : Int32) (l6 : Int32) (st : zs_T), B80 l4 l5 l6 st → zs_Go p l e (zs_rm 3 76) s m args below meth c g A (MQ below (zs_Qv g zs_ly zs_N A K) args s 0 0 A) 9 80 [(0, .ref (g.2.1 627)), (1, .ref (g.2.1 d1)), (2, .ref (g.2.1 12)), (3, .ref (g.2.1 17)), (4, .int l4), (5, .int l5), (6, .int l6)] [] st) (hB103 : ∀ (l4 : Int32) (l5 : Int32) (l6 : Int32) (l7 : Int32) (st : zs_T), B103 l4 l5 l6 l7 st → zs_Go p l e (zs_rm 3 76) s m args below meth c g A (MQ below (zs_Qv g zs_ly zs_N A K) args s 0 0 A) 9 103 [(0, .ref (g.2.1 627)), (1, .ref (g.2.1 d1)), (2, .ref (g.2.1 12)), (3, .ref (g.2.1 17)), (4, .int l4), (5, .int l5), (6, .int l6), (7, .int l7)] [] st) (l4 : Int32) (l5 : Int32) (l6 : Int32) (l7 : Int32) (st : zs_T) (h : zf_FR_find_103_s d1 K B80 B103 l4 l5 l6 l7 st) : zs_Go p l e (zs_rm 3 76) s m args below meth c g A (MQ below (zs_Qv g zs_ly zs_N A K) args s 0 0 A) 9 103 [(0, .ref (g.2.1 627)), (1, .ref (g.2.1 d1)), (2, .ref (g.2.1 12)), (3, .ref (g.2.1 17)), (4, .int l4), (5, .int l5), (6, .int l6), (7, .int l7)] [] st := by
  obtain ⟨hx, hb, hml, hr, hlk, hts, hown, hK⟩ := id hM
  intro ls H locs hl hP hS
  unfold zf_FR_find_103_s at h
  refine lv_iload hx hb dFR_find_103 (lv_at hl 7 rfl) ?_
  refine lv_if_lt (tgt := 190) hx hb dFR_find_105 rfl (fun hc => ?_) (fun hc => ?_)
  · have h := h.1 hc
    clear hc
    refine lv_iinc (k := 6) (v := l6 + 1) hx hb dFR_find_190 hl rfl (by rw [show Int32.ofInt (1) = 1 from by decide]) (by decide) rfl (fun ls hl => ?_)
    have hl : lv_has ls 9 [(6, .int (l6 + 1)), (0, .ref (g.2.1 627)), (1, .ref (g.2.1 d1)), (2, .ref (g.2.1 12)), (3, .ref (g.2.1 17)), (4, .int l4), (5, .int l5), (7, .int l7)] := hl
    refine lv_goto (tgt := 80) hx hb dFR_find_193 rfl ?_
    exact hB80 l4 l5 (l6 + 1) st h ls H locs (lv_sub hl [1, 2, 3, 4, 5, 6, 0] rfl) hP hS
  · have h := h.2 hc
    clear hc
    refine lv_aload_n hx hb dFR_find_108 rfl (lv_at hl 3 rfl) ?_
    refine zr_getr (b := 19) hx hb hts zi_KN hown hK.1 hP zl_17.1 zl_17.2 rfl 1 (by decide) rfl (hts _ zq_135) dFR_find_109 ?_
    refine lv_iload hx hb dFR_find_112 (lv_at hl 7 rfl) ?_
    obtain ⟨hi501, h⟩ := h
    refine zr_zald hx hb hK.1 hP zl_19.1 zl_19.2 hi501 dFR_find_114 ?_
    refine lv_if_eq (tgt := 184) hx hb dFR_find_115 rfl (fun hc => ?_) (fun hc => ?_)
    · have h := h.1 hc
      clear hc
      exact zw_FR_find_184 hM hd1 hB80 hB103 l4 l5 l6 l7 st h ls H locs (lv_sub hl [0, 1, 2, 3, 4, 5, 6, 7] rfl) hP hS
    · have h := h.2 hc
      clear hc
      refine lv_aload_n hx hb dFR_find_118 rfl (lv_at hl 0 rfl) ?_
      refine zr_getr (b := 628) hx hb hts zi_FR hown hK.1 hP zl_627.1 zl_627.2 rfl 0 (by decide) rfl (hts _ zq_154) dFR_find_119 ?_
      refine lv_iload hx hb dFR_find_122 (lv_at hl 7 rfl) ?_
      obtain ⟨hi502, h⟩ := h
      refine zr_iald hx hb hK.1 hP zl_628.1 zl_628.2 hi502 dFR_find_124 ?_
      refine lv_istore hx hb dFR_find_125 hl (by decide) rfl (fun ls hl => ?_)
      have hl : lv_has ls 9 [(8, .int (st.1 628 l7.toNatClampNeg)), (0, .ref (g.2.1 627)), (1, .ref (g.2.1 d1)), (2, .ref (g.2.1 12)), (3, .ref (g.2.1 17)), (4, .int l4), (5, .int l5), (6, .int l6), (7, .int l7)] := hl
      refine lv_aload_n hx hb dFR_find_127 rfl (lv_at hl 1 rfl) ?_
      refine zr_getr (b := 628) hx hb hts zi_FR hown hK.1 hP zl_627.1 zl_627.2 rfl 0 (by decide) rfl (hts _ zq_154) dFR_find_128 ?_
      refine lv_iload hx hb dFR_find_131 (lv_at hl 8 rfl) ?_
      refine lv_aload_n hx hb dFR_find_133 rfl (lv_at hl 2 rfl) ?_
      refine zr_getr (b := d1 + 1) hx hb hts zi_PR hown hK.1 hP hd1.1.1 hd1.1.2 rfl 0 (by decide) rfl (hts _ zq_34) dFR_find_134 ?_
      refine lv_iload hx hb dFR_find_137 (lv_at hl 8 rfl) ?_
      obtain ⟨hi503, h⟩ := h
      refine zr_iald hx hb hK.1 hP hd1.2.1.1 hd1.2.1.2 hi503 dFR_find_139 ?_
      refine lv_bipush (v := 14) hx hb dFR_find_140 (by decide) ?_
      refine lv_icmp_ne (tgt := 150) hx hb dFR_find_142 rfl (fun hc => ?_) (fun hc => ?_)
      · have h := h.1 hc
        clear hc
        refine lv_aload_n hx hb dFR_find_150 rfl (lv_at hl 1 rfl) ?_
        refine lv_aload_n hx hb dFR_find_151 rfl (lv_at hl 2 rfl) ?_
        refine lv_iload hx hb dFR_find_152 (lv_at hl 8 rfl) ?_
        refine lv_aload_n hx hb dFR_find_154 rfl (lv_at hl 3 rfl) ?_
        refine lv_aload_n hx hb dFR_find_155 rfl (lv_at hl 4 rfl) ?_
        refine zr_calli (va_runV (As := [.ref (g.2.1 d1), .int l7, .ref (g.2.1 12), .ref (g.2.1 17)]) (rest := [.int l7, .ref (g.2.1 628)]) ⟨hx, hb, hml, hown, hts⟩ (zc_FR_freeBeforeNext l g A hd1 h) (cwV 4 hts (zs_gV zq_504 zq_506 zp_18 zq_6 zq_507) rfl rfl rfl ⟨rfl, by decide, by decide, by decide +kernel⟩ ⟨Nat.le_of_ble_eq_true rfl, Nat.le_of_ble_eq_true rfl⟩) (zs_preV zs_nwk hK hP zl_627.1 zl_627.2 rfl) rfl rfl hl.1 rfl (lv_room (Nat.le_of_ble_eq_true rfl)) dFR_find_156 ⟨Nat.le_refl _, Nat.le_refl _⟩) hS (fun r505 u504 H locs h hP hS => ?_)
        exact zw_FR_find_159 hM hd1 hB80 hB103 l4 l5 l6 l7 (st.1 628 l7.toNatClampNeg) r505 l7 u504 h ls H locs (lv_sub hl [1, 2, 3, 4, 5, 6, 7, 8, 0] rfl) hP hS
      · have h := h.2 hc
        clear hc
        refine lv_iload hx hb dFR_find_145 (lv_at hl 5 rfl) ?_
        refine lv_goto (tgt := 159) hx hb dFR_find_147 rfl ?_
        exact zw_FR_find_159 hM hd1 hB80 hB103 l4 l5 l6 l7 (st.1 628 l7.toNatClampNeg) l4 l7 st h ls H locs (lv_sub hl [1, 2, 3, 4, 5, 6, 7, 8, 0] rfl) hP hS
theorem zw_FR_find_103 (hM : zs_M p c cFR_find 9 s m meth args "ThriftyStores$Freedom" none g) {d1 : Nat} (hd1 : zs_Pr d1) {K : zs_T → Prop} {B80 : Int32 → Int32 → Int32 → zs_T → Prop} (hB80 : ∀ (l4 : Int32) (l5 : Int32) (l6 : Int32) (st : zs_T), B80 l4 l5 l6 st → zs_Go p l e (zs_rm 3 76) s m args below meth c g A (MQ below (zs_Qv g zs_ly zs_N A K) args s 0 0 A) 9 80 [(0, .ref (g.2.1 627)), (1, .ref (g.2.1 d1)), (2, .ref (g.2.1 12)), (3, .ref (g.2.1 17)), (4, .int l4), (5, .int l5), (6, .int l6)] [] st) : ∀ (n : Nat) (l4 : Int32) (l5 : Int32) (l6 : Int32) (l7 : Int32) (st : zs_T), zf_FR_find_103 d1 K B80 n l4 l5 l6 l7 st → zs_Go p l e (zs_rm 3 76) s m args below meth c g A (MQ below (zs_Qv g zs_ly zs_N A K) args s 0 0 A) 9 103 [(0, .ref (g.2.1 627)), (1, .ref (g.2.1 d1)), (2, .ref (g.2.1 12)), (3, .ref (g.2.1 17)), (4, .int l4), (5, .int l5), (6, .int l6), (7, .int l7)] [] st := by
  intro n
  induction n with
  | zero => intro l4 l5 l6 l7 st h; exact False.elim h
  | succ n ih => intro l4 l5 l6 l7 st h; exact zw_FR_find_103_s hM hd1 hB80 ih l4 l5 l6 l7 st h
set_option maxHeartbeats 4000000 in
set_option maxRecDepth 100000 in
theorem zw_FR_find_80_s (hM : zs_M p c cFR_find 9 s m meth args "ThriftyStores$Freedom" none g) {d1 : Nat} (hd1 : zs_Pr d1) {K : zs_T → Prop}  {B80 : Int32 → Int32 → Int32 → zs_T → Prop}  (hB80 : ∀ (l4 : Int32) (l5 : Int32) (l6 : Int32) (st : zs_T), B80 l4 l5 l6 st → zs_Go p l e (zs_rm 3 76) s m args below meth c g A (MQ below (zs_Qv g zs_ly zs_N A K) args s 0 0 A) 9 80 [(0, .ref (g.2.1 627)), (1, .ref (g.2.1 d1)), (2, .ref (g.2.1 12)), (3, .ref (g.2.1 17)), (4, .int l4), (5, .int l5), (6, .int l6)] [] st) (l4 : Int32) (l5 : Int32) (l6 : Int32) (st : zs_T) (h : zf_FR_find_80_s d1 K B80 l4 l5 l6 st) : zs_Go p l e (zs_rm 3 76) s m args below meth c g A (MQ below (zs_Qv g zs_ly zs_N A K) args s 0 0 A) 9 80 [(0, .ref (g.2.1 627)), (1, .ref (g.2.1 d1)), (2, .ref (g.2.1 12)), (3, .ref (g.2.1 17)), (4, .int l4), (5, .int l5), (6, .int l6)] [] st := by
  obtain ⟨hx, hb, hml, hr, hlk, hts, hown, hK⟩ := id hM
  intro ls H locs hl hP hS
  unfold zf_FR_find_80_s at h
  refine lv_iload hx hb dFR_find_80 (lv_at hl 5 rfl) ?_
  refine lv_if_eq (tgt := 196) hx hb dFR_find_82 rfl (fun hc => ?_) (fun hc => ?_)
  · have h := h.1 hc
    clear hc
    exact zr_vret hx hb hr hlk hP hS h dFR_find_196
  · have h := h.2 hc
    clear hc
    refine lv_iload hx hb dFR_find_85 (lv_at hl 6 rfl) ?_
    refine lv_ldc hx hb hown (hts _ zq_503) dFR_find_87 ?_
    refine lv_icmp_ge (tgt := 196) hx hb dFR_find_89 rfl (fun hc => ?_) (fun hc => ?_)
    · have h := h.1 hc
      clear hc
      exact zr_vret hx hb hr hlk hP hS h dFR_find_196
    · have h := h.2 hc
      clear hc
      refine lv_iconst (v := 0) hx hb dFR_find_92 (by decide) ?_
      refine lv_istore hx hb dFR_find_93 hl (by decide) rfl (fun ls hl => ?_)
      have hl : lv_has ls 9 [(5, .int 0), (0, .ref (g.2.1 627)), (1, .ref (g.2.1 d1)), (2, .ref (g.2.1 12)), (3, .ref (g.2.1 17)), (4, .int l4), (6, .int l6)] := hl
      refine lv_aload_n hx hb dFR_find_95 rfl (lv_at hl 2 rfl) ?_
      refine zr_geti hx hb hts zi_PR hown hK.1 hP hd1.1.1 hd1.1.2 rfl 4 (by decide) rfl (hts _ zq_55) dFR_find_96 ?_
      refine lv_iconst (v := 1) hx hb dFR_find_99 (by decide) ?_
      refine lv_isub hx hb dFR_find_100 ?_
      refine lv_istore hx hb dFR_find_101 hl (by decide) rfl (fun ls hl => ?_)
      have hl : lv_has ls 9 [(7, .int ((st.1 d1 4) - 1)), (5, .int 0), (0, .ref (g.2.1 627)), (1, .ref (g.2.1 d1)), (2, .ref (g.2.1 12)), (3, .ref (g.2.1 17)), (4, .int l4), (6, .int l6)] := hl
      obtain ⟨n, h⟩ := h
      exact zw_FR_find_103 hM hd1 hB80 n l4 0 l6 ((st.1 d1 4) - 1) st h ls H locs (lv_sub hl [2, 3, 4, 5, 6, 1, 7, 0] rfl) hP hS
theorem zw_FR_find_80 (hM : zs_M p c cFR_find 9 s m meth args "ThriftyStores$Freedom" none g) {d1 : Nat} (hd1 : zs_Pr d1) {K : zs_T → Prop}   : ∀ (n : Nat) (l4 : Int32) (l5 : Int32) (l6 : Int32) (st : zs_T), zf_FR_find_80 d1 K n l4 l5 l6 st → zs_Go p l e (zs_rm 3 76) s m args below meth c g A (MQ below (zs_Qv g zs_ly zs_N A K) args s 0 0 A) 9 80 [(0, .ref (g.2.1 627)), (1, .ref (g.2.1 d1)), (2, .ref (g.2.1 12)), (3, .ref (g.2.1 17)), (4, .int l4), (5, .int l5), (6, .int l6)] [] st := by
  intro n
  induction n with
  | zero => intro l4 l5 l6 st h; exact False.elim h
  | succ n ih => intro l4 l5 l6 st h; exact zw_FR_find_80_s hM hd1 ih l4 l5 l6 st h
set_option maxHeartbeats 4000000 in
set_option maxRecDepth 100000 in
theorem zw_FR_find_73 (hM : zs_M p c cFR_find 9 s m meth args "ThriftyStores$Freedom" none g) {d1 : Nat} (hd1 : zs_Pr d1) {K : zs_T → Prop}   (l4 : Int32) (s0 : Int32) (s1 : Int32) (st : zs_T) (h : zf_FR_find_73 d1 K l4 s0 s1 st) : zs_Go p l e (zs_rm 3 76) s m args below meth c g A (MQ below (zs_Qv g zs_ly zs_N A K) args s 0 0 A) 9 73 [(0, .ref (g.2.1 627)), (1, .ref (g.2.1 d1)), (2, .ref (g.2.1 12)), (3, .ref (g.2.1 17)), (4, .int l4)] [.int s0, .int s1, .ref (g.2.1 628)] st := by
  obtain ⟨hx, hb, hml, hr, hlk, hts, hown, hK⟩ := id hM
  intro ls H locs hl hP hS
  unfold zf_FR_find_73 at h
  obtain ⟨hi201, h⟩ := h
  refine zr_iast hx hb hK.1 hP hS zl_628.1 zl_628.2 hi201 dFR_find_73 (fun H locs hP hS => ?_)
  obtain ⟨t202, ez⟩ : ∃ tz : zs_T, tz = zs_i st 628 s1.toNatClampNeg s0 := ⟨_, rfl⟩
  have h := h t202 ez
  have hP : zs_P g zs_ly zs_N A t202 H := by rw [ez]; exact hP
  clear ez
  refine lv_iconst (v := 1) hx hb dFR_find_74 (by decide) ?_
  refine lv_istore hx hb dFR_find_75 hl (by decide) rfl (fun ls hl => ?_)
  have hl : lv_has ls 9 [(5, .int 1), (0, .ref (g.2.1 627)), (1, .ref (g.2.1 d1)), (2, .ref (g.2.1 12)), (3, .ref (g.2.1 17)), (4, .int l4)] := hl
  refine lv_iconst (v := 0) hx hb dFR_find_77 (by decide) ?_
  refine lv_istore hx hb dFR_find_78 hl (by decide) rfl (fun ls hl => ?_)
  have hl : lv_has ls 9 [(6, .int 0), (5, .int 1), (0, .ref (g.2.1 627)), (1, .ref (g.2.1 d1)), (2, .ref (g.2.1 12)), (3, .ref (g.2.1 17)), (4, .int l4)] := hl
  obtain ⟨n, h⟩ := h
  exact zw_FR_find_80 hM hd1 n l4 1 0 t202 h ls H locs (lv_sub hl [2, 3, 4, 5, 6, 1, 0] rfl) hP hS
set_option maxHeartbeats 4000000 in
set_option maxRecDepth 100000 in
theorem zw_FR_find_9_s (hM : zs_M p c cFR_find 9 s m meth args "ThriftyStores$Freedom" none g) {d1 : Nat} (hd1 : zs_Pr d1) {K : zs_T → Prop}  {B9 : Int32 → Int32 → zs_T → Prop}  (hB9 : ∀ (l4 : Int32) (l5 : Int32) (st : zs_T), B9 l4 l5 st → zs_Go p l e (zs_rm 3 76) s m args below meth c g A (MQ below (zs_Qv g zs_ly zs_N A K) args s 0 0 A) 9 9 [(0, .ref (g.2.1 627)), (1, .ref (g.2.1 d1)), (2, .ref (g.2.1 12)), (3, .ref (g.2.1 17)), (4, .int l4), (5, .int l5)] [] st) (l4 : Int32) (l5 : Int32) (st : zs_T) (h : zf_FR_find_9_s d1 K B9 l4 l5 st) : zs_Go p l e (zs_rm 3 76) s m args below meth c g A (MQ below (zs_Qv g zs_ly zs_N A K) args s 0 0 A) 9 9 [(0, .ref (g.2.1 627)), (1, .ref (g.2.1 d1)), (2, .ref (g.2.1 12)), (3, .ref (g.2.1 17)), (4, .int l4), (5, .int l5)] [] st := by
  obtain ⟨hx, hb, hml, hr, hlk, hts, hown, hK⟩ := id hM
  intro ls H locs hl hP hS
  unfold zf_FR_find_9_s at h
  refine lv_iload hx hb dFR_find_9 (lv_at hl 5 rfl) ?_
  refine lv_aload_n hx hb dFR_find_11 rfl (lv_at hl 1 rfl) ?_
  refine zr_geti hx hb hts zi_PR hown hK.1 hP hd1.1.1 hd1.1.2 rfl 4 (by decide) rfl (hts _ zq_55) dFR_find_12 ?_
  refine lv_icmp_ge (tgt := 47) hx hb dFR_find_15 rfl (fun hc => ?_) (fun hc => ?_)
  · have h := h.1 hc
    clear hc
    refine lv_aload_n hx hb dFR_find_47 rfl (lv_at hl 0 rfl) ?_
    refine zr_getr (b := 628) hx hb hts zi_FR hown hK.1 hP zl_627.1 zl_627.2 rfl 0 (by decide) rfl (hts _ zq_154) dFR_find_48 ?_
    refine lv_aload_n hx hb dFR_find_51 rfl (lv_at hl 1 rfl) ?_
    refine zr_geti hx hb hts zi_PR hown hK.1 hP hd1.1.1 hd1.1.2 rfl 4 (by decide) rfl (hts _ zq_55) dFR_find_52 ?_
    refine lv_aload_n hx hb dFR_find_55 rfl (lv_at hl 3 rfl) ?_
    refine zr_getr (b := 19) hx hb hts zi_KN hown hK.1 hP zl_17.1 zl_17.2 rfl 1 (by decide) rfl (hts _ zq_135) dFR_find_56 ?_
    refine lv_aload_n hx hb dFR_find_59 rfl (lv_at hl 1 rfl) ?_
    refine zr_geti hx hb hts zi_PR hown hK.1 hP hd1.1.1 hd1.1.2 rfl 4 (by decide) rfl (hts _ zq_55) dFR_find_60 ?_
    obtain ⟨hi101, h⟩ := h
    refine zr_zald hx hb hK.1 hP zl_19.1 zl_19.2 hi101 dFR_find_63 ?_
    refine lv_if_eq (tgt := 72) hx hb dFR_find_64 rfl (fun hc => ?_) (fun hc => ?_)
    · have h := h.1 hc
      clear hc
      refine lv_iconst (v := 0) hx hb dFR_find_72 (by decide) ?_
      exact zw_FR_find_73 hM hd1 l4 0 (st.1 d1 4) st h ls H locs (lv_sub hl [0, 1, 2, 3, 4] rfl) hP hS
    · have h := h.2 hc
      clear hc
      refine lv_iload hx hb dFR_find_67 (lv_at hl 4 rfl) ?_
      refine lv_goto (tgt := 73) hx hb dFR_find_69 rfl ?_
      exact zw_FR_find_73 hM hd1 l4 l4 (st.1 d1 4) st h ls H locs (lv_sub hl [0, 1, 2, 3, 4] rfl) hP hS
  · have h := h.2 hc
    clear hc
    refine lv_aload_n hx hb dFR_find_18 rfl (lv_at hl 0 rfl) ?_
    refine zr_getr (b := 628) hx hb hts zi_FR hown hK.1 hP zl_627.1 zl_627.2 rfl 0 (by decide) rfl (hts _ zq_154) dFR_find_19 ?_
    refine lv_iload hx hb dFR_find_22 (lv_at hl 5 rfl) ?_
    refine lv_aload_n hx hb dFR_find_24 rfl (lv_at hl 3 rfl) ?_
    refine zr_getr (b := 19) hx hb hts zi_KN hown hK.1 hP zl_17.1 zl_17.2 rfl 1 (by decide) rfl (hts _ zq_135) dFR_find_25 ?_
    refine lv_iload hx hb dFR_find_28 (lv_at hl 5 rfl) ?_
    obtain ⟨hi102, h⟩ := h
    refine zr_zald hx hb hK.1 hP zl_19.1 zl_19.2 hi102 dFR_find_30 ?_
    refine lv_if_eq (tgt := 39) hx hb dFR_find_31 rfl (fun hc => ?_) (fun hc => ?_)
    · have h := h.1 hc
      clear hc
      refine lv_iconst (v := 0) hx hb dFR_find_39 (by decide) ?_
      exact zw_FR_find_40 hM hd1 hB9 l4 l5 0 l5 st h ls H locs (lv_sub hl [0, 1, 2, 3, 4, 5] rfl) hP hS
    · have h := h.2 hc
      clear hc
      refine lv_ldc hx hb hown (hts _ zq_502) dFR_find_34 ?_
      refine lv_goto (tgt := 40) hx hb dFR_find_36 rfl ?_
      exact zw_FR_find_40 hM hd1 hB9 l4 l5 65535 l5 st h ls H locs (lv_sub hl [0, 1, 2, 3, 4, 5] rfl) hP hS
theorem zw_FR_find_9 (hM : zs_M p c cFR_find 9 s m meth args "ThriftyStores$Freedom" none g) {d1 : Nat} (hd1 : zs_Pr d1) {K : zs_T → Prop}   : ∀ (n : Nat) (l4 : Int32) (l5 : Int32) (st : zs_T), zf_FR_find_9 d1 K n l4 l5 st → zs_Go p l e (zs_rm 3 76) s m args below meth c g A (MQ below (zs_Qv g zs_ly zs_N A K) args s 0 0 A) 9 9 [(0, .ref (g.2.1 627)), (1, .ref (g.2.1 d1)), (2, .ref (g.2.1 12)), (3, .ref (g.2.1 17)), (4, .int l4), (5, .int l5)] [] st := by
  intro n
  induction n with
  | zero => intro l4 l5 st h; exact False.elim h
  | succ n ih => intro l4 l5 st h; exact zw_FR_find_9_s hM hd1 ih l4 l5 st h
set_option maxHeartbeats 4000000 in
set_option maxRecDepth 100000 in
theorem zc_FR_find (l : Launch) (g : zs_G) (A : Nat → Prop) {d1 : Nat} (hd1 : zs_Pr d1) {st : zs_T} {K : zs_T → Prop} (h : zf_FR_find d1 st K) : Met l yFR_find (.code yFR_find cFR_find 9 none :: zs_tb) (zs_rm 3 76) (zs_Pc zs_nl g zs_ly zs_N A [.ref (g.2.1 627), .ref (g.2.1 d1), .ref (g.2.1 12), .ref (g.2.1 17)] st) (zs_Qv g zs_ly zs_N A K) 0 0 A := by
  refine zs_met (cc := cFR_find) (maxL := 9) (ret := none) (by decide) (Nat.le_of_ble_eq_true rfl) (fun p e s m below meth c hM => ?_)
  have hM : zs_M p c cFR_find 9 s m meth [.ref (g.2.1 627), .ref (g.2.1 d1), .ref (g.2.1 12), .ref (g.2.1 17)].toArray "ThriftyStores$Freedom" none g := hM
  obtain ⟨hx, hb, hml, hr, hlk, hts, hown, hK⟩ := id hM
  intro ls H locs hl hP hS
  have hl : lv_has ls 9 [(0, .ref (g.2.1 627)), (1, .ref (g.2.1 d1)), (2, .ref (g.2.1 12)), (3, .ref (g.2.1 17))] := hl
  unfold zf_FR_find at h
  refine lv_aload_n hx hb dFR_find_0 rfl (lv_at hl 2 rfl) ?_
  refine zr_geti hx hb hts zi_AD hown hK.1 hP zl_12.1 zl_12.2 rfl 5 (by decide) rfl (hts _ zq_86) dFR_find_1 ?_
  refine lv_istore hx hb dFR_find_4 hl (by decide) rfl (fun ls hl => ?_)
  have hl : lv_has ls 9 [(4, .int (st.1 12 5)), (0, .ref (g.2.1 627)), (1, .ref (g.2.1 d1)), (2, .ref (g.2.1 12)), (3, .ref (g.2.1 17))] := hl
  refine lv_iconst (v := 0) hx hb dFR_find_6 (by decide) ?_
  refine lv_istore hx hb dFR_find_7 hl (by decide) rfl (fun ls hl => ?_)
  have hl : lv_has ls 9 [(5, .int 0), (4, .int (st.1 12 5)), (0, .ref (g.2.1 627)), (1, .ref (g.2.1 d1)), (2, .ref (g.2.1 12)), (3, .ref (g.2.1 17))] := hl
  obtain ⟨n, h⟩ := h
  exact zw_FR_find_9 hM hd1 n (st.1 12 5) 0 st h ls H locs (lv_sub hl [2, 3, 4, 5, 1, 0] rfl) hP hS
set_option maxHeartbeats 4000000 in
set_option maxRecDepth 100000 in
theorem zc_FR_isFreeBehind (l : Launch) (g : zs_G) (A : Nat → Prop) {l1 : Int32} {l2 : Int32}  {st : zs_T} {K : Int32 → zs_T → Prop} (h : zf_FR_isFreeBehind l1 l2 st K) : Met l yFR_isFreeBehind (.code yFR_isFreeBehind cFR_isFreeBehind 3 (some .boolean) :: zs_tb) (zs_rm 0 0) (zs_Pc zs_nl g zs_ly zs_N A [.ref (g.2.1 627), .int l1, .int l2] st) (zs_Qi g zs_ly zs_N A K) 0 0 A := by
  refine zs_met (cc := cFR_isFreeBehind) (maxL := 3) (ret := (some .boolean)) (by decide) (Nat.le_of_ble_eq_true rfl) (fun p e s m below meth c hM => ?_)
  have hM : zs_M p c cFR_isFreeBehind 3 s m meth [.ref (g.2.1 627), .int l1, .int l2].toArray "ThriftyStores$Freedom" (some .boolean) g := hM
  obtain ⟨hx, hb, hml, hr, hlk, hts, hown, hK⟩ := id hM
  intro ls H locs hl hP hS
  have hl : lv_has ls 3 [(0, .ref (g.2.1 627)), (1, .int l1), (2, .int l2)] := hl
  unfold zf_FR_isFreeBehind at h
  refine lv_aload_n hx hb dFR_isFreeBehind_0 rfl (lv_at hl 0 rfl) ?_
  refine zr_getr (b := 628) hx hb hts zi_FR hown hK.1 hP zl_627.1 zl_627.2 rfl 0 (by decide) rfl (hts _ zq_154) dFR_isFreeBehind_1 ?_
  refine lv_iload_n hx hb dFR_isFreeBehind_4 rfl (lv_at hl 1 rfl) ?_
  obtain ⟨hi1, h⟩ := h
  refine zr_iald hx hb hK.1 hP zl_628.1 zl_628.2 hi1 dFR_isFreeBehind_5 ?_
  refine lv_iload_n hx hb dFR_isFreeBehind_6 rfl (lv_at hl 2 rfl) ?_
  refine lv_ishr hx hb dFR_isFreeBehind_7 ?_
  refine lv_iconst (v := 1) hx hb dFR_isFreeBehind_8 (by decide) ?_
  refine lv_iand hx hb dFR_isFreeBehind_9 ?_
  refine lv_if_eq (tgt := 17) hx hb dFR_isFreeBehind_10 rfl (fun hc => ?_) (fun hc => ?_)
  · have h := h.1 hc
    clear hc
    refine lv_iconst (v := 0) hx hb dFR_isFreeBehind_17 (by decide) ?_
    exact zr_zret hx hb hr hlk hP hS rfl h dFR_isFreeBehind_18
  · have h := h.2 hc
    clear hc
    refine lv_iconst (v := 1) hx hb dFR_isFreeBehind_13 (by decide) ?_
    refine lv_goto (tgt := 18) hx hb dFR_isFreeBehind_14 rfl ?_
    exact zr_zret hx hb hr hlk hP hS rfl h dFR_isFreeBehind_18
end ZW
