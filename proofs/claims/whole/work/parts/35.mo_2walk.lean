section ZW
variable {p : Program} {l : Launch} {e : Env} {s : State} {m : MethodId} {args : Array Value} {below : List Frame} {meth : Method} {c : Code} {g : zs_G} {A : Nat → Prop}
set_option maxHeartbeats 4000000 in
set_option maxRecDepth 100000 in
theorem zw_MO_freeBefore_159 (hM : zs_M p c cMO_freeBefore 5 s m meth args "ThriftyStoresModel" (some .boolean) g)   {K : Int32 → zs_T → Prop}   (l1 : Int32) (l2 : Int32) (l3 : Int32) (l4 : Int32) (st : zs_T) (h : zf_MO_freeBefore_159 K l1 l2 l3 l4 st) : zs_Go p l e (zs_rm 1 24) s m args below meth c g A (MQ below (zs_Qi g zs_ly zs_N A K) args s 0 0 A) 5 159 [(0, .ref (g.2.1 635)), (1, .int l1), (2, .int l2), (3, .int l3), (4, .int l4)] [] st := by
  obtain ⟨hx, hb, hml, hr, hlk, hts, hown, hK⟩ := id hM
  intro ls H locs hl hP hS
  unfold zf_MO_freeBefore_159 at h
  refine lv_iload_n hx hb dMO_freeBefore_159 rfl (lv_at hl 3 rfl) ?_
  refine lv_if_ne (tgt := 190) hx hb dMO_freeBefore_160 rfl (fun hc => ?_) (fun hc => ?_)
  · have h := h.1 hc
    clear hc
    refine lv_iconst (v := 1) hx hb dMO_freeBefore_190 (by decide) ?_
    refine lv_goto (tgt := 195) hx hb dMO_freeBefore_191 rfl ?_
    exact zr_zret hx hb hr hlk hP hS rfl h dMO_freeBefore_195
  · have h := h.2 hc
    clear hc
    refine lv_iload hx hb dMO_freeBefore_163 (lv_at hl 4 rfl) ?_
    refine lv_bipush (v := 10) hx hb dMO_freeBefore_165 (by decide) ?_
    refine lv_icmp_ne (tgt := 194) hx hb dMO_freeBefore_167 rfl (fun hc => ?_) (fun hc => ?_)
    · have h := h.1 hc
      clear hc
      refine lv_iconst (v := 0) hx hb dMO_freeBefore_194 (by decide) ?_
      exact zr_zret hx hb hr hlk hP hS rfl h dMO_freeBefore_195
    · have h := h.2 hc
      clear hc
      refine lv_aload_n hx hb dMO_freeBefore_170 rfl (lv_at hl 0 rfl) ?_
      refine lv_iload_n hx hb dMO_freeBefore_171 rfl (lv_at hl 1 rfl) ?_
      refine lv_iload_n hx hb dMO_freeBefore_172 rfl (lv_at hl 2 rfl) ?_
      refine lv_aload_n hx hb dMO_freeBefore_173 rfl (lv_at hl 0 rfl) ?_
      refine zr_getr (b := 637) hx hb hts zi_MO hown hK.1 hP zl_635.1 zl_635.2 rfl 2 (by decide) rfl (hts _ zq_735) dMO_freeBefore_174 ?_
      refine lv_aload_n hx hb dMO_freeBefore_177 rfl (lv_at hl 0 rfl) ?_
      refine zr_geti hx hb hts zi_MO hown hK.1 hP zl_635.1 zl_635.2 rfl 9 (by decide) rfl (hts _ zq_742) dMO_freeBefore_178 ?_
      refine lv_iload_n hx hb dMO_freeBefore_181 rfl (lv_at hl 1 rfl) ?_
      refine lv_iadd hx hb dMO_freeBefore_182 ?_
      obtain ⟨hi501, h⟩ := h
      refine zr_iald hx hb hK.1 hP zl_637.1 zl_637.2 hi501 dMO_freeBefore_183 ?_
      refine zr_calli (va_runV (As := [.int l1, .int l2, .int (st.1 637 ((st.1 635 9) + l1).toNatClampNeg)]) (rest := []) ⟨hx, hb, hml, hown, hts⟩ (zc_MO_one l g A  h) (cwV 3 hts (zs_gV zq_901 zq_903 zp_47 zq_8 zq_904) rfl rfl rfl ⟨rfl, by decide, by decide, by decide +kernel⟩ ⟨Nat.le_of_ble_eq_true rfl, Nat.le_of_ble_eq_true rfl⟩) (zs_preV zs_nwk hK hP zl_635.1 zl_635.2 rfl) rfl rfl hl.1 rfl (lv_room (Nat.le_of_ble_eq_true rfl)) dMO_freeBefore_184 ⟨Nat.le_refl _, Nat.le_refl _⟩) hS (fun r503 u502 H locs h hP hS => ?_)
      refine lv_if_eq (tgt := 194) hx hb dMO_freeBefore_187 rfl (fun hc => ?_) (fun hc => ?_)
      · have h := h.1 hc
        clear hc
        refine lv_iconst (v := 0) hx hb dMO_freeBefore_194 (by decide) ?_
        exact zr_zret hx hb hr hlk hP hS rfl h dMO_freeBefore_195
      · have h := h.2 hc
        clear hc
        refine lv_iconst (v := 1) hx hb dMO_freeBefore_190 (by decide) ?_
        refine lv_goto (tgt := 195) hx hb dMO_freeBefore_191 rfl ?_
        exact zr_zret hx hb hr hlk hP hS rfl h dMO_freeBefore_195
set_option maxHeartbeats 4000000 in
set_option maxRecDepth 100000 in
theorem zw_MO_freeBefore_131 (hM : zs_M p c cMO_freeBefore 5 s m meth args "ThriftyStoresModel" (some .boolean) g)   {K : Int32 → zs_T → Prop}   (l1 : Int32) (l2 : Int32) (l3 : Int32) (l4 : Int32) (st : zs_T) (h : zf_MO_freeBefore_131 K l1 l2 l3 l4 st) : zs_Go p l e (zs_rm 1 24) s m args below meth c g A (MQ below (zs_Qi g zs_ly zs_N A K) args s 0 0 A) 5 131 [(0, .ref (g.2.1 635)), (1, .int l1), (2, .int l2), (3, .int l3), (4, .int l4)] [] st := by
  obtain ⟨hx, hb, hml, hr, hlk, hts, hown, hK⟩ := id hM
  intro ls H locs hl hP hS
  unfold zf_MO_freeBefore_131 at h
  refine lv_iload hx hb dMO_freeBefore_131 (lv_at hl 4 rfl) ?_
  refine lv_bipush (v := 9) hx hb dMO_freeBefore_133 (by decide) ?_
  refine lv_icmp_ne (tgt := 159) hx hb dMO_freeBefore_135 rfl (fun hc => ?_) (fun hc => ?_)
  · have h := h.1 hc
    clear hc
    exact zw_MO_freeBefore_159 hM  l1 l2 l3 l4 st h ls H locs (lv_sub hl [0, 1, 2, 3, 4] rfl) hP hS
  · have h := h.2 hc
    clear hc
    refine lv_aload_n hx hb dMO_freeBefore_138 rfl (lv_at hl 0 rfl) ?_
    refine lv_iload_n hx hb dMO_freeBefore_139 rfl (lv_at hl 2 rfl) ?_
    refine lv_aload_n hx hb dMO_freeBefore_140 rfl (lv_at hl 0 rfl) ?_
    refine zr_getr (b := 638) hx hb hts zi_MO hown hK.1 hP zl_635.1 zl_635.2 rfl 3 (by decide) rfl (hts _ zq_736) dMO_freeBefore_141 ?_
    refine lv_aload_n hx hb dMO_freeBefore_144 rfl (lv_at hl 0 rfl) ?_
    refine zr_geti hx hb hts zi_MO hown hK.1 hP zl_635.1 zl_635.2 rfl 9 (by decide) rfl (hts _ zq_742) dMO_freeBefore_145 ?_
    refine lv_iload_n hx hb dMO_freeBefore_148 rfl (lv_at hl 1 rfl) ?_
    refine lv_iadd hx hb dMO_freeBefore_149 ?_
    obtain ⟨hi201, h⟩ := h
    refine zr_iald hx hb hK.1 hP zl_638.1 zl_638.2 hi201 dMO_freeBefore_150 ?_
    refine zr_calli (va_runV (As := [.int l2, .int (st.1 638 ((st.1 635 9) + l1).toNatClampNeg)]) (rest := []) ⟨hx, hb, hml, hown, hts⟩ (zc_MO_meet l g A  h) (cwV 2 hts (zs_gV zq_897 zq_899 zp_46 zq_8 zq_900) rfl rfl rfl ⟨rfl, by decide, by decide, by decide +kernel⟩ ⟨Nat.le_of_ble_eq_true rfl, Nat.le_of_ble_eq_true rfl⟩) (zs_preV zs_nwk hK hP zl_635.1 zl_635.2 rfl) rfl rfl hl.1 rfl (lv_room (Nat.le_of_ble_eq_true rfl)) dMO_freeBefore_151 ⟨Nat.le_refl _, Nat.le_refl _⟩) hS (fun r203 u202 H locs h hP hS => ?_)
    refine lv_if_eq (tgt := 159) hx hb dMO_freeBefore_154 rfl (fun hc => ?_) (fun hc => ?_)
    · have h := h.1 hc
      clear hc
      exact zw_MO_freeBefore_159 hM  l1 l2 l3 l4 u202 h ls H locs (lv_sub hl [0, 1, 2, 3, 4] rfl) hP hS
    · have h := h.2 hc
      clear hc
      refine lv_iconst (v := 0) hx hb dMO_freeBefore_157 (by decide) ?_
      refine lv_istore_n hx hb dMO_freeBefore_158 rfl hl (by decide) rfl (fun ls hl => ?_)
      have hl : lv_has ls 5 [(3, .int 0), (0, .ref (g.2.1 635)), (1, .int l1), (2, .int l2), (4, .int l4)] := hl
      exact zw_MO_freeBefore_159 hM  l1 l2 0 l4 u202 h ls H locs (lv_sub hl [1, 2, 3, 0, 4] rfl) hP hS
set_option maxHeartbeats 4000000 in
set_option maxRecDepth 100000 in
theorem zw_MO_freeBefore_130 (hM : zs_M p c cMO_freeBefore 5 s m meth args "ThriftyStoresModel" (some .boolean) g)   {K : Int32 → zs_T → Prop}   (l1 : Int32) (l2 : Int32) (l4 : Int32) (s0 : Int32) (st : zs_T) (h : zf_MO_freeBefore_130 K l1 l2 l4 s0 st) : zs_Go p l e (zs_rm 1 24) s m args below meth c g A (MQ below (zs_Qi g zs_ly zs_N A K) args s 0 0 A) 5 130 [(0, .ref (g.2.1 635)), (1, .int l1), (2, .int l2), (4, .int l4)] [.int s0] st := by
  obtain ⟨hx, hb, hml, hr, hlk, hts, hown, hK⟩ := id hM
  intro ls H locs hl hP hS
  unfold zf_MO_freeBefore_130 at h
  refine lv_istore_n hx hb dMO_freeBefore_130 rfl hl (by decide) rfl (fun ls hl => ?_)
  have hl : lv_has ls 5 [(3, .int s0), (0, .ref (g.2.1 635)), (1, .int l1), (2, .int l2), (4, .int l4)] := hl
  exact zw_MO_freeBefore_131 hM  l1 l2 s0 l4 st h ls H locs (lv_sub hl [1, 2, 3, 0, 4] rfl) hP hS
set_option maxHeartbeats 4000000 in
set_option maxRecDepth 100000 in
theorem zw_MO_freeBefore_125 (hM : zs_M p c cMO_freeBefore 5 s m meth args "ThriftyStoresModel" (some .boolean) g)   {K : Int32 → zs_T → Prop}   (l1 : Int32) (l2 : Int32) (l4 : Int32) (st : zs_T) (h : zf_MO_freeBefore_125 K l1 l2 l4 st) : zs_Go p l e (zs_rm 1 24) s m args below meth c g A (MQ below (zs_Qi g zs_ly zs_N A K) args s 0 0 A) 5 125 [(0, .ref (g.2.1 635)), (1, .int l1), (2, .int l2), (4, .int l4)] [] st := by
  obtain ⟨hx, hb, hml, hr, hlk, hts, hown, hK⟩ := id hM
  intro ls H locs hl hP hS
  unfold zf_MO_freeBefore_125 at h
  refine lv_iconst (v := 1) hx hb dMO_freeBefore_125 (by decide) ?_
  refine lv_goto (tgt := 130) hx hb dMO_freeBefore_126 rfl ?_
  exact zw_MO_freeBefore_130 hM  l1 l2 l4 1 st h ls H locs (lv_sub hl [0, 1, 2, 3] rfl) hP hS
set_option maxHeartbeats 4000000 in
set_option maxRecDepth 100000 in
theorem zw_MO_freeBefore_76 (hM : zs_M p c cMO_freeBefore 5 s m meth args "ThriftyStoresModel" (some .boolean) g)   {K : Int32 → zs_T → Prop}   (l1 : Int32) (l2 : Int32) (l3 : Int32) (l4 : Int32) (st : zs_T) (h : zf_MO_freeBefore_76 K l1 l2 l3 l4 st) : zs_Go p l e (zs_rm 1 24) s m args below meth c g A (MQ below (zs_Qi g zs_ly zs_N A K) args s 0 0 A) 5 76 [(0, .ref (g.2.1 635)), (1, .int l1), (2, .int l2), (3, .int l3), (4, .int l4)] [] st := by
  obtain ⟨hx, hb, hml, hr, hlk, hts, hown, hK⟩ := id hM
  intro ls H locs hl hP hS
  unfold zf_MO_freeBefore_76 at h
  refine lv_iload hx hb dMO_freeBefore_76 (lv_at hl 4 rfl) ?_
  refine lv_iconst (v := 1) hx hb dMO_freeBefore_78 (by decide) ?_
  refine lv_icmp_ne (tgt := 131) hx hb dMO_freeBefore_79 rfl (fun hc => ?_) (fun hc => ?_)
  · have h := h.1 hc
    clear hc
    exact zw_MO_freeBefore_131 hM  l1 l2 l3 l4 st h ls H locs (lv_sub hl [0, 1, 2, 3, 4] rfl) hP hS
  · have h := h.2 hc
    clear hc
    refine lv_iload_n hx hb dMO_freeBefore_82 rfl (lv_at hl 2 rfl) ?_
    refine lv_aload_n hx hb dMO_freeBefore_83 rfl (lv_at hl 0 rfl) ?_
    refine zr_getr (b := 638) hx hb hts zi_MO hown hK.1 hP zl_635.1 zl_635.2 rfl 3 (by decide) rfl (hts _ zq_736) dMO_freeBefore_84 ?_
    refine lv_aload_n hx hb dMO_freeBefore_87 rfl (lv_at hl 0 rfl) ?_
    refine zr_geti hx hb hts zi_MO hown hK.1 hP zl_635.1 zl_635.2 rfl 9 (by decide) rfl (hts _ zq_742) dMO_freeBefore_88 ?_
    refine lv_iload_n hx hb dMO_freeBefore_91 rfl (lv_at hl 1 rfl) ?_
    refine lv_iadd hx hb dMO_freeBefore_92 ?_
    obtain ⟨hi101, h⟩ := h
    refine zr_iald hx hb hK.1 hP zl_638.1 zl_638.2 hi101 dMO_freeBefore_93 ?_
    refine lv_icmp_ne (tgt := 131) hx hb dMO_freeBefore_94 rfl (fun hc => ?_) (fun hc => ?_)
    · have h := h.1 hc
      clear hc
      exact zw_MO_freeBefore_131 hM  l1 l2 l3 l4 st h ls H locs (lv_sub hl [0, 1, 2, 3, 4] rfl) hP hS
    · have h := h.2 hc
      clear hc
      refine lv_iload_n hx hb dMO_freeBefore_97 rfl (lv_at hl 3 rfl) ?_
      refine lv_if_ne (tgt := 125) hx hb dMO_freeBefore_98 rfl (fun hc => ?_) (fun hc => ?_)
      · have h := h.1 hc
        clear hc
        exact zw_MO_freeBefore_125 hM  l1 l2 l4 st h ls H locs (lv_sub hl [0, 1, 2, 4] rfl) hP hS
      · have h := h.2 hc
        clear hc
        refine lv_aload_n hx hb dMO_freeBefore_101 rfl (lv_at hl 0 rfl) ?_
        refine zr_getr (b := 647) hx hb hts zi_MO hown hK.1 hP zl_635.1 zl_635.2 rfl 16 (by decide) rfl (hts _ zq_749) dMO_freeBefore_102 ?_
        refine lv_bipush (v := 16) hx hb dMO_freeBefore_105 (by decide) ?_
        refine lv_iload_n hx hb dMO_freeBefore_107 rfl (lv_at hl 1 rfl) ?_
        refine lv_imul hx hb dMO_freeBefore_108 ?_
        refine lv_aload_n hx hb dMO_freeBefore_109 rfl (lv_at hl 0 rfl) ?_
        refine zr_getr (b := 637) hx hb hts zi_MO hown hK.1 hP zl_635.1 zl_635.2 rfl 2 (by decide) rfl (hts _ zq_735) dMO_freeBefore_110 ?_
        refine lv_aload_n hx hb dMO_freeBefore_113 rfl (lv_at hl 0 rfl) ?_
        refine zr_geti hx hb hts zi_MO hown hK.1 hP zl_635.1 zl_635.2 rfl 9 (by decide) rfl (hts _ zq_742) dMO_freeBefore_114 ?_
        refine lv_iload_n hx hb dMO_freeBefore_117 rfl (lv_at hl 1 rfl) ?_
        refine lv_iadd hx hb dMO_freeBefore_118 ?_
        obtain ⟨hi102, h⟩ := h
        refine zr_iald hx hb hK.1 hP zl_637.1 zl_637.2 hi102 dMO_freeBefore_119 ?_
        refine lv_iadd hx hb dMO_freeBefore_120 ?_
        obtain ⟨hi103, h⟩ := h
        refine zr_zald hx hb hK.1 hP zl_647.1 zl_647.2 hi103 dMO_freeBefore_121 ?_
        refine lv_if_eq (tgt := 129) hx hb dMO_freeBefore_122 rfl (fun hc => ?_) (fun hc => ?_)
        · have h := h.1 hc
          clear hc
          refine lv_iconst (v := 0) hx hb dMO_freeBefore_129 (by decide) ?_
          exact zw_MO_freeBefore_130 hM  l1 l2 l4 0 st h ls H locs (lv_sub hl [0, 1, 2, 4] rfl) hP hS
        · have h := h.2 hc
          clear hc
          exact zw_MO_freeBefore_125 hM  l1 l2 l4 st h ls H locs (lv_sub hl [0, 1, 2, 4] rfl) hP hS
set_option maxHeartbeats 4000000 in
set_option maxRecDepth 100000 in
theorem zc_MO_freeBefore (l : Launch) (g : zs_G) (A : Nat → Prop) {l1 : Int32} {l2 : Int32}  {st : zs_T} {K : Int32 → zs_T → Prop} (h : zf_MO_freeBefore l1 l2 st K) : Met l yMO_freeBefore (.code yMO_freeBefore cMO_freeBefore 5 (some .boolean) :: zs_tb) (zs_rm 1 24) (zs_Pc zs_nl g zs_ly zs_N A [.ref (g.2.1 635), .int l1, .int l2] st) (zs_Qi g zs_ly zs_N A K) 0 0 A := by
  refine zs_met (cc := cMO_freeBefore) (maxL := 5) (ret := (some .boolean)) (by decide) (Nat.le_of_ble_eq_true rfl) (fun p e s m below meth c hM => ?_)
  have hM : zs_M p c cMO_freeBefore 5 s m meth [.ref (g.2.1 635), .int l1, .int l2].toArray "ThriftyStoresModel" (some .boolean) g := hM
  obtain ⟨hx, hb, hml, hr, hlk, hts, hown, hK⟩ := id hM
  intro ls H locs hl hP hS
  have hl : lv_has ls 5 [(0, .ref (g.2.1 635)), (1, .int l1), (2, .int l2)] := hl
  unfold zf_MO_freeBefore at h
  refine lv_aload_n hx hb dMO_freeBefore_0 rfl (lv_at hl 0 rfl) ?_
  refine zr_getr (b := 647) hx hb hts zi_MO hown hK.1 hP zl_635.1 zl_635.2 rfl 16 (by decide) rfl (hts _ zq_749) dMO_freeBefore_1 ?_
  refine lv_bipush (v := 16) hx hb dMO_freeBefore_4 (by decide) ?_
  refine lv_iload_n hx hb dMO_freeBefore_6 rfl (lv_at hl 1 rfl) ?_
  refine lv_imul hx hb dMO_freeBefore_7 ?_
  refine lv_iload_n hx hb dMO_freeBefore_8 rfl (lv_at hl 2 rfl) ?_
  refine lv_iadd hx hb dMO_freeBefore_9 ?_
  obtain ⟨hi1, h⟩ := h
  refine zr_zald hx hb hK.1 hP zl_647.1 zl_647.2 hi1 dMO_freeBefore_10 ?_
  refine lv_istore_n hx hb dMO_freeBefore_11 rfl hl (by decide) rfl (fun ls hl => ?_)
  have hl : lv_has ls 5 [(3, .int (st.1 647 ((16 * l1) + l2).toNatClampNeg)), (0, .ref (g.2.1 635)), (1, .int l1), (2, .int l2)] := hl
  refine lv_iload_n hx hb dMO_freeBefore_12 rfl (lv_at hl 2 rfl) ?_
  refine lv_aload_n hx hb dMO_freeBefore_13 rfl (lv_at hl 1 rfl) ?_
  refine zr_geti hx hb hts zi_MO hown hK.1 hP zl_635.1 zl_635.2 rfl 5 (by decide) rfl (hts _ zq_738) dMO_freeBefore_14 ?_
  refine lv_icmp_eq (tgt := 36) hx hb dMO_freeBefore_17 rfl (fun hc => ?_) (fun hc => ?_)
  · have h := h.1 hc
    clear hc
    refine lv_iload_n hx hb dMO_freeBefore_36 rfl (lv_at hl 0 rfl) ?_
    exact zr_zret hx hb hr hlk hP hS (zs_bn h.1) h.2 dMO_freeBefore_37
  · have h := h.2 hc
    clear hc
    refine lv_aload_n hx hb dMO_freeBefore_20 rfl (lv_at hl 1 rfl) ?_
    refine zr_getr (b := 636) hx hb hts zi_MO hown hK.1 hP zl_635.1 zl_635.2 rfl 1 (by decide) rfl (hts _ zq_734) dMO_freeBefore_21 ?_
    refine lv_aload_n hx hb dMO_freeBefore_24 rfl (lv_at hl 1 rfl) ?_
    refine zr_geti hx hb hts zi_MO hown hK.1 hP zl_635.1 zl_635.2 rfl 9 (by decide) rfl (hts _ zq_742) dMO_freeBefore_25 ?_
    refine lv_iload_n hx hb dMO_freeBefore_28 rfl (lv_at hl 2 rfl) ?_
    refine lv_iadd hx hb dMO_freeBefore_29 ?_
    obtain ⟨hi3, h⟩ := h
    refine zr_iald hx hb hK.1 hP zl_636.1 zl_636.2 hi3 dMO_freeBefore_30 ?_
    refine lv_bipush (v := 14) hx hb dMO_freeBefore_31 (by decide) ?_
    refine lv_icmp_ne (tgt := 38) hx hb dMO_freeBefore_33 rfl (fun hc => ?_) (fun hc => ?_)
    · have h := h.1 hc
      clear hc
      refine lv_aload_n hx hb dMO_freeBefore_38 rfl (lv_at hl 1 rfl) ?_
      refine zr_getr (b := 636) hx hb hts zi_MO hown hK.1 hP zl_635.1 zl_635.2 rfl 1 (by decide) rfl (hts _ zq_734) dMO_freeBefore_39 ?_
      refine lv_aload_n hx hb dMO_freeBefore_42 rfl (lv_at hl 1 rfl) ?_
      refine zr_geti hx hb hts zi_MO hown hK.1 hP zl_635.1 zl_635.2 rfl 9 (by decide) rfl (hts _ zq_742) dMO_freeBefore_43 ?_
      refine lv_iload_n hx hb dMO_freeBefore_46 rfl (lv_at hl 2 rfl) ?_
      refine lv_iadd hx hb dMO_freeBefore_47 ?_
      obtain ⟨hi4, h⟩ := h
      refine zr_iald hx hb hK.1 hP zl_636.1 zl_636.2 hi4 dMO_freeBefore_48 ?_
      refine lv_istore hx hb dMO_freeBefore_49 hl (by decide) rfl (fun ls hl => ?_)
      have hl : lv_has ls 5 [(4, .int (st.1 636 ((st.1 635 9) + l1).toNatClampNeg)), (3, .int (st.1 647 ((16 * l1) + l2).toNatClampNeg)), (0, .ref (g.2.1 635)), (1, .int l1), (2, .int l2)] := hl
      refine lv_aload_n hx hb dMO_freeBefore_51 rfl (lv_at hl 2 rfl) ?_
      refine lv_iload_n hx hb dMO_freeBefore_52 rfl (lv_at hl 3 rfl) ?_
      refine zr_calli (va_runV (As := [.int l1]) (rest := []) ⟨hx, hb, hml, hown, hts⟩ (zc_MO_sets l g A  h) (cwV 1 hts (zs_gV zq_889 zq_891 zp_44 zq_8 zq_892) rfl rfl rfl ⟨rfl, by decide, by decide, by decide +kernel⟩ ⟨Nat.le_of_ble_eq_true rfl, Nat.le_of_ble_eq_true rfl⟩) (zs_preV zs_nwk hK hP zl_635.1 zl_635.2 rfl) rfl rfl hl.1 rfl (lv_room (Nat.le_of_ble_eq_true rfl)) dMO_freeBefore_53 ⟨Nat.le_refl _, Nat.le_refl _⟩) hS (fun r6 u5 H locs h hP hS => ?_)
      refine lv_if_eq (tgt := 76) hx hb dMO_freeBefore_56 rfl (fun hc => ?_) (fun hc => ?_)
      · have h := h.1 hc
        clear hc
        exact zw_MO_freeBefore_76 hM  l1 l2 (st.1 647 ((16 * l1) + l2).toNatClampNeg) (st.1 636 ((st.1 635 9) + l1).toNatClampNeg) u5 h ls H locs (lv_sub hl [2, 3, 4, 1, 0] rfl) hP hS
      · have h := h.2 hc
        clear hc
        refine lv_iload_n hx hb dMO_freeBefore_59 rfl (lv_at hl 4 rfl) ?_
        refine lv_aload_n hx hb dMO_freeBefore_60 rfl (lv_at hl 2 rfl) ?_
        refine zr_getr (b := 637) hx hb hts zi_MO hown hK.1 hP zl_635.1 zl_635.2 rfl 2 (by decide) rfl (hts _ zq_735) dMO_freeBefore_61 ?_
        refine lv_aload_n hx hb dMO_freeBefore_64 rfl (lv_at hl 2 rfl) ?_
        refine zr_geti hx hb hts zi_MO hown hK.1 hP zl_635.1 zl_635.2 rfl 9 (by decide) rfl (hts _ zq_742) dMO_freeBefore_65 ?_
        refine lv_iload_n hx hb dMO_freeBefore_68 rfl (lv_at hl 3 rfl) ?_
        refine lv_iadd hx hb dMO_freeBefore_69 ?_
        obtain ⟨hi7, h⟩ := h
        refine zr_iald hx hb hK.1 hP zl_637.1 zl_637.2 hi7 dMO_freeBefore_70 ?_
        refine lv_icmp_ne (tgt := 76) hx hb dMO_freeBefore_71 rfl (fun hc => ?_) (fun hc => ?_)
        · have h := h.1 hc
          clear hc
          exact zw_MO_freeBefore_76 hM  l1 l2 (st.1 647 ((16 * l1) + l2).toNatClampNeg) (st.1 636 ((st.1 635 9) + l1).toNatClampNeg) u5 h ls H locs (lv_sub hl [2, 3, 4, 1, 0] rfl) hP hS
        · have h := h.2 hc
          clear hc
          refine lv_iconst (v := 0) hx hb dMO_freeBefore_74 (by decide) ?_
          exact zr_zret hx hb hr hlk hP hS rfl h dMO_freeBefore_75
    · have h := h.2 hc
      clear hc
      refine lv_iload_n hx hb dMO_freeBefore_36 rfl (lv_at hl 0 rfl) ?_
      exact zr_zret hx hb hr hlk hP hS (zs_bn h.1) h.2 dMO_freeBefore_37
set_option maxHeartbeats 4000000 in
set_option maxRecDepth 100000 in
theorem zw_MO_findFree_105 (hM : zs_M p c cMO_findFree 6 s m meth args "ThriftyStoresModel" none g)   {K : zs_T → Prop} {B2 : Int32 → zs_T → Prop} {B12 : Int32 → Int32 → zs_T → Prop} {B28 : Int32 → Int32 → Int32 → Int32 → zs_T → Prop} (hB2 : ∀ (l1 : Int32) (st : zs_T), B2 l1 st → zs_Go p l e (zs_rm 2 48) s m args below meth c g A (MQ below (zs_Qv g zs_ly zs_N A K) args s 0 0 A) 6 2 [(0, .ref (g.2.1 635)), (1, .int l1)] [] st) (hB12 : ∀ (l1 : Int32) (l2 : Int32) (st : zs_T), B12 l1 l2 st → zs_Go p l e (zs_rm 2 48) s m args below meth c g A (MQ below (zs_Qv g zs_ly zs_N A K) args s 0 0 A) 6 12 [(0, .ref (g.2.1 635)), (1, .int l1), (2, .int l2)] [] st) (hB28 : ∀ (l1 : Int32) (l2 : Int32) (l3 : Int32) (l4 : Int32) (st : zs_T), B28 l1 l2 l3 l4 st → zs_Go p l e (zs_rm 2 48) s m args below meth c g A (MQ below (zs_Qv g zs_ly zs_N A K) args s 0 0 A) 6 28 [(0, .ref (g.2.1 635)), (1, .int l1), (2, .int l2), (3, .int l3), (4, .int l4)] [] st) (l1 : Int32) (l2 : Int32) (l4 : Int32) (s0 : Int32) (st : zs_T) (h : zf_MO_findFree_105 K B2 B12 B28 l1 l2 l4 s0 st) : zs_Go p l e (zs_rm 2 48) s m args below meth c g A (MQ below (zs_Qv g zs_ly zs_N A K) args s 0 0 A) 6 105 [(0, .ref (g.2.1 635)), (1, .int l1), (2, .int l2), (4, .int l4)] [.int s0] st := by
  obtain ⟨hx, hb, hml, hr, hlk, hts, hown, hK⟩ := id hM
  intro ls H locs hl hP hS
  unfold zf_MO_findFree_105 at h
  refine lv_istore_n hx hb dMO_findFree_105 rfl hl (by decide) rfl (fun ls hl => ?_)
  have hl : lv_has ls 6 [(3, .int s0), (0, .ref (g.2.1 635)), (1, .int l1), (2, .int l2), (4, .int l4)] := hl
  refine lv_iinc (k := 4) (v := l4 + 1) hx hb dMO_findFree_106 hl rfl (by rw [show Int32.ofInt (1) = 1 from by decide]) (by decide) rfl (fun ls hl => ?_)
  have hl : lv_has ls 6 [(4, .int (l4 + 1)), (3, .int s0), (0, .ref (g.2.1 635)), (1, .int l1), (2, .int l2)] := hl
  refine lv_goto (tgt := 28) hx hb dMO_findFree_109 rfl ?_
  exact hB28 l1 l2 s0 (l4 + 1) st h ls H locs (lv_sub hl [2, 3, 4, 1, 0] rfl) hP hS
set_option maxHeartbeats 4000000 in
set_option maxRecDepth 100000 in
theorem zw_MO_findFree_100 (hM : zs_M p c cMO_findFree 6 s m meth args "ThriftyStoresModel" none g)   {K : zs_T → Prop} {B2 : Int32 → zs_T → Prop} {B12 : Int32 → Int32 → zs_T → Prop} {B28 : Int32 → Int32 → Int32 → Int32 → zs_T → Prop} (hB2 : ∀ (l1 : Int32) (st : zs_T), B2 l1 st → zs_Go p l e (zs_rm 2 48) s m args below meth c g A (MQ below (zs_Qv g zs_ly zs_N A K) args s 0 0 A) 6 2 [(0, .ref (g.2.1 635)), (1, .int l1)] [] st) (hB12 : ∀ (l1 : Int32) (l2 : Int32) (st : zs_T), B12 l1 l2 st → zs_Go p l e (zs_rm 2 48) s m args below meth c g A (MQ below (zs_Qv g zs_ly zs_N A K) args s 0 0 A) 6 12 [(0, .ref (g.2.1 635)), (1, .int l1), (2, .int l2)] [] st) (hB28 : ∀ (l1 : Int32) (l2 : Int32) (l3 : Int32) (l4 : Int32) (st : zs_T), B28 l1 l2 l3 l4 st → zs_Go p l e (zs_rm 2 48) s m args below meth c g A (MQ below (zs_Qv g zs_ly zs_N A K) args s 0 0 A) 6 28 [(0, .ref (g.2.1 635)), (1, .int l1), (2, .int l2), (3, .int l3), (4, .int l4)] [] st) (l1 : Int32) (l2 : Int32) (l4 : Int32) (st : zs_T) (h : zf_MO_findFree_100 K B2 B12 B28 l1 l2 l4 st) : zs_Go p l e (zs_rm 2 48) s m args below meth c g A (MQ below (zs_Qv g zs_ly zs_N A K) args s 0 0 A) 6 100 [(0, .ref (g.2.1 635)), (1, .int l1), (2, .int l2), (4, .int l4)] [] st := by
  obtain ⟨hx, hb, hml, hr, hlk, hts, hown, hK⟩ := id hM
  intro ls H locs hl hP hS
  unfold zf_MO_findFree_100 at h
  refine lv_iconst (v := 1) hx hb dMO_findFree_100 (by decide) ?_
  refine lv_goto (tgt := 105) hx hb dMO_findFree_101 rfl ?_
  exact zw_MO_findFree_105 hM hB2 hB12 hB28 l1 l2 l4 1 st h ls H locs (lv_sub hl [0, 1, 2, 3] rfl) hP hS
set_option maxHeartbeats 4000000 in
set_option maxRecDepth 100000 in
theorem zw_MO_findFree_104 (hM : zs_M p c cMO_findFree 6 s m meth args "ThriftyStoresModel" none g)   {K : zs_T → Prop} {B2 : Int32 → zs_T → Prop} {B12 : Int32 → Int32 → zs_T → Prop} {B28 : Int32 → Int32 → Int32 → Int32 → zs_T → Prop} (hB2 : ∀ (l1 : Int32) (st : zs_T), B2 l1 st → zs_Go p l e (zs_rm 2 48) s m args below meth c g A (MQ below (zs_Qv g zs_ly zs_N A K) args s 0 0 A) 6 2 [(0, .ref (g.2.1 635)), (1, .int l1)] [] st) (hB12 : ∀ (l1 : Int32) (l2 : Int32) (st : zs_T), B12 l1 l2 st → zs_Go p l e (zs_rm 2 48) s m args below meth c g A (MQ below (zs_Qv g zs_ly zs_N A K) args s 0 0 A) 6 12 [(0, .ref (g.2.1 635)), (1, .int l1), (2, .int l2)] [] st) (hB28 : ∀ (l1 : Int32) (l2 : Int32) (l3 : Int32) (l4 : Int32) (st : zs_T), B28 l1 l2 l3 l4 st → zs_Go p l e (zs_rm 2 48) s m args below meth c g A (MQ below (zs_Qv g zs_ly zs_N A K) args s 0 0 A) 6 28 [(0, .ref (g.2.1 635)), (1, .int l1), (2, .int l2), (3, .int l3), (4, .int l4)] [] st) (l1 : Int32) (l2 : Int32) (l4 : Int32) (st : zs_T) (h : zf_MO_findFree_104 K B2 B12 B28 l1 l2 l4 st) : zs_Go p l e (zs_rm 2 48) s m args below meth c g A (MQ below (zs_Qv g zs_ly zs_N A K) args s 0 0 A) 6 104 [(0, .ref (g.2.1 635)), (1, .int l1), (2, .int l2), (4, .int l4)] [] st := by
  obtain ⟨hx, hb, hml, hr, hlk, hts, hown, hK⟩ := id hM
  intro ls H locs hl hP hS
  unfold zf_MO_findFree_104 at h
  refine lv_iconst (v := 0) hx hb dMO_findFree_104 (by decide) ?_
  exact zw_MO_findFree_105 hM hB2 hB12 hB28 l1 l2 l4 0 st h ls H locs (lv_sub hl [0, 1, 2, 3] rfl) hP hS
set_option maxHeartbeats 4000000 in
set_option maxRecDepth 100000 in
theorem zw_MO_findFree_112 (hM : zs_M p c cMO_findFree 6 s m meth args "ThriftyStoresModel" none g)   {K : zs_T → Prop} {B2 : Int32 → zs_T → Prop} {B12 : Int32 → Int32 → zs_T → Prop} (hB2 : ∀ (l1 : Int32) (st : zs_T), B2 l1 st → zs_Go p l e (zs_rm 2 48) s m args below meth c g A (MQ below (zs_Qv g zs_ly zs_N A K) args s 0 0 A) 6 2 [(0, .ref (g.2.1 635)), (1, .int l1)] [] st) (hB12 : ∀ (l1 : Int32) (l2 : Int32) (st : zs_T), B12 l1 l2 st → zs_Go p l e (zs_rm 2 48) s m args below meth c g A (MQ below (zs_Qv g zs_ly zs_N A K) args s 0 0 A) 6 12 [(0, .ref (g.2.1 635)), (1, .int l1), (2, .int l2)] [] st) (l1 : Int32) (l2 : Int32) (l3 : Int32) (st : zs_T) (h : zf_MO_findFree_112 K B2 B12 l1 l2 l3 st) : zs_Go p l e (zs_rm 2 48) s m args below meth c g A (MQ below (zs_Qv g zs_ly zs_N A K) args s 0 0 A) 6 112 [(0, .ref (g.2.1 635)), (1, .int l1), (2, .int l2), (3, .int l3)] [] st := by
  obtain ⟨hx, hb, hml, hr, hlk, hts, hown, hK⟩ := id hM
  intro ls H locs hl hP hS
  unfold zf_MO_findFree_112 at h
  refine lv_aload_n hx hb dMO_findFree_112 rfl (lv_at hl 0 rfl) ?_
  refine zr_getr (b := 647) hx hb hts zi_MO hown hK.1 hP zl_635.1 zl_635.2 rfl 16 (by decide) rfl (hts _ zq_749) dMO_findFree_113 ?_
  refine lv_bipush (v := 16) hx hb dMO_findFree_116 (by decide) ?_
  refine lv_iload_n hx hb dMO_findFree_118 rfl (lv_at hl 1 rfl) ?_
  refine lv_imul hx hb dMO_findFree_119 ?_
  refine lv_iload_n hx hb dMO_findFree_120 rfl (lv_at hl 2 rfl) ?_
  refine lv_iadd hx hb dMO_findFree_121 ?_
  refine lv_iload_n hx hb dMO_findFree_122 rfl (lv_at hl 3 rfl) ?_
  obtain ⟨hi701, h⟩ := h
  refine zr_zast hx hb hK.1 hP hS zl_647.1 zl_647.2 hi701 dMO_findFree_123 (fun H locs hP hS => ?_)
  obtain ⟨t702, ez⟩ : ∃ tz : zs_T, tz = zs_i st 647 ((16 * l1) + l2).toNatClampNeg (vp_nar .boolean l3) := ⟨_, rfl⟩
  have h := h t702 ez
  have hP : zs_P g zs_ly zs_N A t702 H := by rw [ez]; exact hP
  clear ez
  refine lv_iinc (k := 2) (v := l2 + 1) hx hb dMO_findFree_124 hl rfl (by rw [show Int32.ofInt (1) = 1 from by decide]) (by decide) rfl (fun ls hl => ?_)
  have hl : lv_has ls 6 [(2, .int (l2 + 1)), (0, .ref (g.2.1 635)), (1, .int l1), (3, .int l3)] := hl
  refine lv_goto (tgt := 12) hx hb dMO_findFree_127 rfl ?_
  exact hB12 l1 (l2 + 1) t702 h ls H locs (lv_sub hl [1, 2, 0] rfl) hP hS
set_option maxHeartbeats 4000000 in
set_option maxRecDepth 100000 in
theorem zw_MO_findFree_28_s (hM : zs_M p c cMO_findFree 6 s m meth args "ThriftyStoresModel" none g)   {K : zs_T → Prop} {B2 : Int32 → zs_T → Prop} {B12 : Int32 → Int32 → zs_T → Prop} {B28 : Int32 → Int32 → Int32 → Int32 → zs_T → Prop} (hB2 : ∀ (l1 : Int32) (st : zs_T), B2 l1 st → zs_Go p l e (zs_rm 2 48) s m args below meth c g A (MQ below (zs_Qv g zs_ly zs_N A K) args s 0 0 A) 6 2 [(0, .ref (g.2.1 635)), (1, .int l1)] [] st) (hB12 : ∀ (l1 : Int32) (l2 : Int32) (st : zs_T), B12 l1 l2 st → zs_Go p l e (zs_rm 2 48) s m args below meth c g A (MQ below (zs_Qv g zs_ly zs_N A K) args s 0 0 A) 6 12 [(0, .ref (g.2.1 635)), (1, .int l1), (2, .int l2)] [] st) (hB28 : ∀ (l1 : Int32) (l2 : Int32) (l3 : Int32) (l4 : Int32) (st : zs_T), B28 l1 l2 l3 l4 st → zs_Go p l e (zs_rm 2 48) s m args below meth c g A (MQ below (zs_Qv g zs_ly zs_N A K) args s 0 0 A) 6 28 [(0, .ref (g.2.1 635)), (1, .int l1), (2, .int l2), (3, .int l3), (4, .int l4)] [] st) (l1 : Int32) (l2 : Int32) (l3 : Int32) (l4 : Int32) (st : zs_T) (h : zf_MO_findFree_28_s K B2 B12 B28 l1 l2 l3 l4 st) : zs_Go p l e (zs_rm 2 48) s m args below meth c g A (MQ below (zs_Qv g zs_ly zs_N A K) args s 0 0 A) 6 28 [(0, .ref (g.2.1 635)), (1, .int l1), (2, .int l2), (3, .int l3), (4, .int l4)] [] st := by
  obtain ⟨hx, hb, hml, hr, hlk, hts, hown, hK⟩ := id hM
  intro ls H locs hl hP hS
  unfold zf_MO_findFree_28_s at h
  refine lv_iload hx hb dMO_findFree_28 (lv_at hl 4 rfl) ?_
  refine lv_aload_n hx hb dMO_findFree_30 rfl (lv_at hl 0 rfl) ?_
  refine zr_geti hx hb hts zi_MO hown hK.1 hP zl_635.1 zl_635.2 rfl 5 (by decide) rfl (hts _ zq_738) dMO_findFree_31 ?_
  refine lv_icmp_ge (tgt := 112) hx hb dMO_findFree_34 rfl (fun hc => ?_) (fun hc => ?_)
  · have h := h.1 hc
    clear hc
    exact zw_MO_findFree_112 hM hB2 hB12 l1 l2 l3 st h ls H locs (lv_sub hl [0, 1, 2, 3] rfl) hP hS
  · have h := h.2 hc
    clear hc
    refine lv_aload_n hx hb dMO_findFree_37 rfl (lv_at hl 0 rfl) ?_
    refine lv_iload_n hx hb dMO_findFree_38 rfl (lv_at hl 1 rfl) ?_
    refine lv_iconst (v := 0) hx hb dMO_findFree_39 (by decide) ?_
    refine zr_calli (va_runV (As := [.int l1, .int 0]) (rest := []) ⟨hx, hb, hml, hown, hts⟩ (zc_MO_next l g A  h) (cwV 2 hts (zs_gV zq_877 zq_879 zp_41 zq_8 zq_880) rfl rfl rfl ⟨rfl, by decide, by decide, by decide +kernel⟩ ⟨Nat.le_of_ble_eq_true rfl, Nat.le_of_ble_eq_true rfl⟩) (zs_preV zs_nwk hK hP zl_635.1 zl_635.2 rfl) rfl rfl hl.1 rfl (lv_room (Nat.le_of_ble_eq_true rfl)) dMO_findFree_40 ⟨Nat.le_refl _, Nat.le_refl _⟩) hS (fun r502 u501 H locs h hP hS => ?_)
    refine lv_iconst (v := (-1)) hx hb dMO_findFree_43 (by decide) ?_
    refine lv_icmp_ne (tgt := 112) hx hb dMO_findFree_44 rfl (fun hc => ?_) (fun hc => ?_)
    · have h := h.1 hc
      clear hc
      exact zw_MO_findFree_112 hM hB2 hB12 l1 l2 l3 u501 h ls H locs (lv_sub hl [0, 1, 2, 3] rfl) hP hS
    · have h := h.2 hc
      clear hc
      refine lv_iload_n hx hb dMO_findFree_47 rfl (lv_at hl 3 rfl) ?_
      refine lv_if_eq (tgt := 104) hx hb dMO_findFree_48 rfl (fun hc => ?_) (fun hc => ?_)
      · have h := h.1 hc
        clear hc
        exact zw_MO_findFree_104 hM hB2 hB12 hB28 l1 l2 l4 u501 h ls H locs (lv_sub hl [0, 1, 2, 4] rfl) hP hS
      · have h := h.2 hc
        clear hc
        refine lv_aload_n hx hb dMO_findFree_51 rfl (lv_at hl 0 rfl) ?_
        refine zr_getr (b := 641) hx hb hts zi_MO hown hK.1 hP zl_635.1 zl_635.2 rfl 10 (by decide) rfl (hts _ zq_743) dMO_findFree_52 ?_
        refine lv_sipush (v := 200) hx hb dMO_findFree_55 (by decide) ?_
        refine lv_iload_n hx hb dMO_findFree_58 rfl (lv_at hl 2 rfl) ?_
        refine lv_imul hx hb dMO_findFree_59 ?_
        refine lv_iload hx hb dMO_findFree_60 (lv_at hl 4 rfl) ?_
        refine lv_iadd hx hb dMO_findFree_62 ?_
        obtain ⟨hi503, h⟩ := h
        refine zr_zald hx hb hK.1 hP zl_641.1 zl_641.2 hi503 dMO_findFree_63 ?_
        refine lv_if_eq (tgt := 100) hx hb dMO_findFree_64 rfl (fun hc => ?_) (fun hc => ?_)
        · have h := h.1 hc
          clear hc
          exact zw_MO_findFree_100 hM hB2 hB12 hB28 l1 l2 l4 u501 h ls H locs (lv_sub hl [0, 1, 2, 4] rfl) hP hS
        · have h := h.2 hc
          clear hc
          refine lv_aload_n hx hb dMO_findFree_67 rfl (lv_at hl 0 rfl) ?_
          refine zr_getr (b := 636) hx hb hts zi_MO hown hK.1 hP zl_635.1 zl_635.2 rfl 1 (by decide) rfl (hts _ zq_734) dMO_findFree_68 ?_
          refine lv_aload_n hx hb dMO_findFree_71 rfl (lv_at hl 0 rfl) ?_
          refine zr_geti hx hb hts zi_MO hown hK.1 hP zl_635.1 zl_635.2 rfl 9 (by decide) rfl (hts _ zq_742) dMO_findFree_72 ?_
          refine lv_iload hx hb dMO_findFree_75 (lv_at hl 4 rfl) ?_
          refine lv_iadd hx hb dMO_findFree_77 ?_
          obtain ⟨hi504, h⟩ := h
          refine zr_iald hx hb hK.1 hP zl_636.1 zl_636.2 hi504 dMO_findFree_78 ?_
          refine lv_bipush (v := 8) hx hb dMO_findFree_79 (by decide) ?_
          refine lv_icmp_ne (tgt := 100) hx hb dMO_findFree_81 rfl (fun hc => ?_) (fun hc => ?_)
          · have h := h.1 hc
            clear hc
            exact zw_MO_findFree_100 hM hB2 hB12 hB28 l1 l2 l4 u501 h ls H locs (lv_sub hl [0, 1, 2, 4] rfl) hP hS
          · have h := h.2 hc
            clear hc
            refine lv_aload_n hx hb dMO_findFree_84 rfl (lv_at hl 0 rfl) ?_
            refine zr_getr (b := 639) hx hb hts zi_MO hown hK.1 hP zl_635.1 zl_635.2 rfl 4 (by decide) rfl (hts _ zq_737) dMO_findFree_85 ?_
            refine lv_aload_n hx hb dMO_findFree_88 rfl (lv_at hl 0 rfl) ?_
            refine zr_geti hx hb hts zi_MO hown hK.1 hP zl_635.1 zl_635.2 rfl 9 (by decide) rfl (hts _ zq_742) dMO_findFree_89 ?_
            refine lv_iload hx hb dMO_findFree_92 (lv_at hl 4 rfl) ?_
            refine lv_iadd hx hb dMO_findFree_94 ?_
            obtain ⟨hi505, h⟩ := h
            refine zr_iald hx hb hK.1 hP zl_639.1 zl_639.2 hi505 dMO_findFree_95 ?_
            refine lv_iconst (v := 1) hx hb dMO_findFree_96 (by decide) ?_
            refine lv_icmp_eq (tgt := 104) hx hb dMO_findFree_97 rfl (fun hc => ?_) (fun hc => ?_)
            · have h := h.1 hc
              clear hc
              exact zw_MO_findFree_104 hM hB2 hB12 hB28 l1 l2 l4 u501 h ls H locs (lv_sub hl [0, 1, 2, 4] rfl) hP hS
            · have h := h.2 hc
              clear hc
              exact zw_MO_findFree_100 hM hB2 hB12 hB28 l1 l2 l4 u501 h ls H locs (lv_sub hl [0, 1, 2, 4] rfl) hP hS
theorem zw_MO_findFree_28 (hM : zs_M p c cMO_findFree 6 s m meth args "ThriftyStoresModel" none g)   {K : zs_T → Prop} {B2 : Int32 → zs_T → Prop} {B12 : Int32 → Int32 → zs_T → Prop} (hB2 : ∀ (l1 : Int32) (st : zs_T), B2 l1 st → zs_Go p l e (zs_rm 2 48) s m args below meth c g A (MQ below (zs_Qv g zs_ly zs_N A K) args s 0 0 A) 6 2 [(0, .ref (g.2.1 635)), (1, .int l1)] [] st) (hB12 : ∀ (l1 : Int32) (l2 : Int32) (st : zs_T), B12 l1 l2 st → zs_Go p l e (zs_rm 2 48) s m args below meth c g A (MQ below (zs_Qv g zs_ly zs_N A K) args s 0 0 A) 6 12 [(0, .ref (g.2.1 635)), (1, .int l1), (2, .int l2)] [] st) : ∀ (n : Nat) (l1 : Int32) (l2 : Int32) (l3 : Int32) (l4 : Int32) (st : zs_T), zf_MO_findFree_28 K B2 B12 n l1 l2 l3 l4 st → zs_Go p l e (zs_rm 2 48) s m args below meth c g A (MQ below (zs_Qv g zs_ly zs_N A K) args s 0 0 A) 6 28 [(0, .ref (g.2.1 635)), (1, .int l1), (2, .int l2), (3, .int l3), (4, .int l4)] [] st := by
  intro n
  induction n with
  | zero => intro l1 l2 l3 l4 st h; exact False.elim h
  | succ n ih => intro l1 l2 l3 l4 st h; exact zw_MO_findFree_28_s hM hB2 hB12 ih l1 l2 l3 l4 st h
set_option maxHeartbeats 4000000 in
set_option maxRecDepth 100000 in
theorem zw_MO_findFree_12_s (hM : zs_M p c cMO_findFree 6 s m meth args "ThriftyStoresModel" none g)   {K : zs_T → Prop} {B2 : Int32 → zs_T → Prop} {B12 : Int32 → Int32 → zs_T → Prop} (hB2 : ∀ (l1 : Int32) (st : zs_T), B2 l1 st → zs_Go p l e (zs_rm 2 48) s m args below meth c g A (MQ below (zs_Qv g zs_ly zs_N A K) args s 0 0 A) 6 2 [(0, .ref (g.2.1 635)), (1, .int l1)] [] st) (hB12 : ∀ (l1 : Int32) (l2 : Int32) (st : zs_T), B12 l1 l2 st → zs_Go p l e (zs_rm 2 48) s m args below meth c g A (MQ below (zs_Qv g zs_ly zs_N A K) args s 0 0 A) 6 12 [(0, .ref (g.2.1 635)), (1, .int l1), (2, .int l2)] [] st) (l1 : Int32) (l2 : Int32) (st : zs_T) (h : zf_MO_findFree_12_s K B2 B12 l1 l2 st) : zs_Go p l e (zs_rm 2 48) s m args below meth c g A (MQ below (zs_Qv g zs_ly zs_N A K) args s 0 0 A) 6 12 [(0, .ref (g.2.1 635)), (1, .int l1), (2, .int l2)] [] st := by
  obtain ⟨hx, hb, hml, hr, hlk, hts, hown, hK⟩ := id hM
  intro ls H locs hl hP hS
  unfold zf_MO_findFree_12_s at h
  refine lv_iload_n hx hb dMO_findFree_12 rfl (lv_at hl 2 rfl) ?_
  refine lv_bipush (v := 16) hx hb dMO_findFree_13 (by decide) ?_
  refine lv_icmp_ge (tgt := 130) hx hb dMO_findFree_15 rfl (fun hc => ?_) (fun hc => ?_)
  · have h := h.1 hc
    clear hc
    refine lv_iinc (k := 1) (v := l1 + 1) hx hb dMO_findFree_130 hl rfl (by rw [show Int32.ofInt (1) = 1 from by decide]) (by decide) rfl (fun ls hl => ?_)
    have hl : lv_has ls 6 [(1, .int (l1 + 1)), (0, .ref (g.2.1 635)), (2, .int l2)] := hl
    refine lv_goto (tgt := 2) hx hb dMO_findFree_133 rfl ?_
    exact hB2 (l1 + 1) st h ls H locs (lv_sub hl [1, 0] rfl) hP hS
  · have h := h.2 hc
    clear hc
    refine lv_aload_n hx hb dMO_findFree_18 rfl (lv_at hl 0 rfl) ?_
    refine zr_getr (b := 643) hx hb hts zi_MO hown hK.1 hP zl_635.1 zl_635.2 rfl 12 (by decide) rfl (hts _ zq_745) dMO_findFree_19 ?_
    refine lv_iload_n hx hb dMO_findFree_22 rfl (lv_at hl 1 rfl) ?_
    obtain ⟨hi301, h⟩ := h
    refine zr_zald hx hb hK.1 hP zl_643.1 zl_643.2 hi301 dMO_findFree_23 ?_
    refine lv_istore_n hx hb dMO_findFree_24 rfl hl (by decide) rfl (fun ls hl => ?_)
    have hl : lv_has ls 6 [(3, .int (st.1 643 l1.toNatClampNeg)), (0, .ref (g.2.1 635)), (1, .int l1), (2, .int l2)] := hl
    refine lv_iconst (v := 0) hx hb dMO_findFree_25 (by decide) ?_
    refine lv_istore hx hb dMO_findFree_26 hl (by decide) rfl (fun ls hl => ?_)
    have hl : lv_has ls 6 [(4, .int 0), (3, .int (st.1 643 l1.toNatClampNeg)), (0, .ref (g.2.1 635)), (1, .int l1), (2, .int l2)] := hl
    obtain ⟨n, h⟩ := h
    exact zw_MO_findFree_28 hM hB2 hB12 n l1 l2 (st.1 643 l1.toNatClampNeg) 0 st h ls H locs (lv_sub hl [2, 3, 4, 1, 0] rfl) hP hS
theorem zw_MO_findFree_12 (hM : zs_M p c cMO_findFree 6 s m meth args "ThriftyStoresModel" none g)   {K : zs_T → Prop} {B2 : Int32 → zs_T → Prop} (hB2 : ∀ (l1 : Int32) (st : zs_T), B2 l1 st → zs_Go p l e (zs_rm 2 48) s m args below meth c g A (MQ below (zs_Qv g zs_ly zs_N A K) args s 0 0 A) 6 2 [(0, .ref (g.2.1 635)), (1, .int l1)] [] st) : ∀ (n : Nat) (l1 : Int32) (l2 : Int32) (st : zs_T), zf_MO_findFree_12 K B2 n l1 l2 st → zs_Go p l e (zs_rm 2 48) s m args below meth c g A (MQ below (zs_Qv g zs_ly zs_N A K) args s 0 0 A) 6 12 [(0, .ref (g.2.1 635)), (1, .int l1), (2, .int l2)] [] st := by
  intro n
  induction n with
  | zero => intro l1 l2 st h; exact False.elim h
  | succ n ih => intro l1 l2 st h; exact zw_MO_findFree_12_s hM hB2 ih l1 l2 st h
set_option maxHeartbeats 4000000 in
set_option maxRecDepth 100000 in
theorem zw_MO_findFree_219 (hM : zs_M p c cMO_findFree 6 s m meth args "ThriftyStoresModel" none g)   {K : zs_T → Prop} {B138 : Int32 → zs_T → Prop} {B149 : Int32 → Int32 → zs_T → Prop} {B155 : Int32 → Int32 → Int32 → zs_T → Prop} {B177 : Int32 → Int32 → Int32 → Int32 → Int32 → zs_T → Prop} (hB138 : ∀ (l1 : Int32) (st : zs_T), B138 l1 st → zs_Go p l e (zs_rm 2 48) s m args below meth c g A (MQ below (zs_Qv g zs_ly zs_N A K) args s 0 0 A) 6 138 [(0, .ref (g.2.1 635)), (1, .int l1)] [] st) (hB149 : ∀ (l1 : Int32) (l2 : Int32) (st : zs_T), B149 l1 l2 st → zs_Go p l e (zs_rm 2 48) s m args below meth c g A (MQ below (zs_Qv g zs_ly zs_N A K) args s 0 0 A) 6 149 [(0, .ref (g.2.1 635)), (1, .int l1), (2, .int l2)] [] st) (hB155 : ∀ (l1 : Int32) (l2 : Int32) (l3 : Int32) (st : zs_T), B155 l1 l2 l3 st → zs_Go p l e (zs_rm 2 48) s m args below meth c g A (MQ below (zs_Qv g zs_ly zs_N A K) args s 0 0 A) 6 155 [(0, .ref (g.2.1 635)), (1, .int l1), (2, .int l2), (3, .int l3)] [] st) (hB177 : ∀ (l1 : Int32) (l2 : Int32) (l3 : Int32) (l4 : Int32) (l5 : Int32) (st : zs_T), B177 l1 l2 l3 l4 l5 st → zs_Go p l e (zs_rm 2 48) s m args below meth c g A (MQ below (zs_Qv g zs_ly zs_N A K) args s 0 0 A) 6 177 [(0, .ref (g.2.1 635)), (1, .int l1), (2, .int l2), (3, .int l3), (4, .int l4), (5, .int l5)] [] st) (l1 : Int32) (l2 : Int32) (l3 : Int32) (l5 : Int32) (s0 : Int32) (st : zs_T) (h : zf_MO_findFree_219 K B138 B149 B155 B177 l1 l2 l3 l5 s0 st) : zs_Go p l e (zs_rm 2 48) s m args below meth c g A (MQ below (zs_Qv g zs_ly zs_N A K) args s 0 0 A) 6 219 [(0, .ref (g.2.1 635)), (1, .int l1), (2, .int l2), (3, .int l3), (5, .int l5)] [.int s0] st := by
  obtain ⟨hx, hb, hml, hr, hlk, hts, hown, hK⟩ := id hM
  intro ls H locs hl hP hS
  unfold zf_MO_findFree_219 at h
  refine lv_istore hx hb dMO_findFree_219 hl (by decide) rfl (fun ls hl => ?_)
  have hl : lv_has ls 6 [(4, .int s0), (0, .ref (g.2.1 635)), (1, .int l1), (2, .int l2), (3, .int l3), (5, .int l5)] := hl
  refine lv_iinc (k := 5) (v := l5 + 1) hx hb dMO_findFree_221 hl rfl (by rw [show Int32.ofInt (1) = 1 from by decide]) (by decide) rfl (fun ls hl => ?_)
  have hl : lv_has ls 6 [(5, .int (l5 + 1)), (4, .int s0), (0, .ref (g.2.1 635)), (1, .int l1), (2, .int l2), (3, .int l3)] := hl
  refine lv_goto (tgt := 177) hx hb dMO_findFree_224 rfl ?_
  exact hB177 l1 l2 l3 s0 (l5 + 1) st h ls H locs (lv_sub hl [2, 3, 4, 5, 1, 0] rfl) hP hS
set_option maxHeartbeats 4000000 in
set_option maxRecDepth 100000 in
theorem zw_MO_findFree_214 (hM : zs_M p c cMO_findFree 6 s m meth args "ThriftyStoresModel" none g)   {K : zs_T → Prop} {B138 : Int32 → zs_T → Prop} {B149 : Int32 → Int32 → zs_T → Prop} {B155 : Int32 → Int32 → Int32 → zs_T → Prop} {B177 : Int32 → Int32 → Int32 → Int32 → Int32 → zs_T → Prop} (hB138 : ∀ (l1 : Int32) (st : zs_T), B138 l1 st → zs_Go p l e (zs_rm 2 48) s m args below meth c g A (MQ below (zs_Qv g zs_ly zs_N A K) args s 0 0 A) 6 138 [(0, .ref (g.2.1 635)), (1, .int l1)] [] st) (hB149 : ∀ (l1 : Int32) (l2 : Int32) (st : zs_T), B149 l1 l2 st → zs_Go p l e (zs_rm 2 48) s m args below meth c g A (MQ below (zs_Qv g zs_ly zs_N A K) args s 0 0 A) 6 149 [(0, .ref (g.2.1 635)), (1, .int l1), (2, .int l2)] [] st) (hB155 : ∀ (l1 : Int32) (l2 : Int32) (l3 : Int32) (st : zs_T), B155 l1 l2 l3 st → zs_Go p l e (zs_rm 2 48) s m args below meth c g A (MQ below (zs_Qv g zs_ly zs_N A K) args s 0 0 A) 6 155 [(0, .ref (g.2.1 635)), (1, .int l1), (2, .int l2), (3, .int l3)] [] st) (hB177 : ∀ (l1 : Int32) (l2 : Int32) (l3 : Int32) (l4 : Int32) (l5 : Int32) (st : zs_T), B177 l1 l2 l3 l4 l5 st → zs_Go p l e (zs_rm 2 48) s m args below meth c g A (MQ below (zs_Qv g zs_ly zs_N A K) args s 0 0 A) 6 177 [(0, .ref (g.2.1 635)), (1, .int l1), (2, .int l2), (3, .int l3), (4, .int l4), (5, .int l5)] [] st) (l1 : Int32) (l2 : Int32) (l3 : Int32) (l5 : Int32) (st : zs_T) (h : zf_MO_findFree_214 K B138 B149 B155 B177 l1 l2 l3 l5 st) : zs_Go p l e (zs_rm 2 48) s m args below meth c g A (MQ below (zs_Qv g zs_ly zs_N A K) args s 0 0 A) 6 214 [(0, .ref (g.2.1 635)), (1, .int l1), (2, .int l2), (3, .int l3), (5, .int l5)] [] st := by
  obtain ⟨hx, hb, hml, hr, hlk, hts, hown, hK⟩ := id hM
  intro ls H locs hl hP hS
  unfold zf_MO_findFree_214 at h
  refine lv_iconst (v := 1) hx hb dMO_findFree_214 (by decide) ?_
  refine lv_goto (tgt := 219) hx hb dMO_findFree_215 rfl ?_
  exact zw_MO_findFree_219 hM hB138 hB149 hB155 hB177 l1 l2 l3 l5 1 st h ls H locs (lv_sub hl [0, 1, 2, 3, 4] rfl) hP hS
set_option maxHeartbeats 4000000 in
set_option maxRecDepth 100000 in
theorem zw_MO_findFree_218 (hM : zs_M p c cMO_findFree 6 s m meth args "ThriftyStoresModel" none g)   {K : zs_T → Prop} {B138 : Int32 → zs_T → Prop} {B149 : Int32 → Int32 → zs_T → Prop} {B155 : Int32 → Int32 → Int32 → zs_T → Prop} {B177 : Int32 → Int32 → Int32 → Int32 → Int32 → zs_T → Prop} (hB138 : ∀ (l1 : Int32) (st : zs_T), B138 l1 st → zs_Go p l e (zs_rm 2 48) s m args below meth c g A (MQ below (zs_Qv g zs_ly zs_N A K) args s 0 0 A) 6 138 [(0, .ref (g.2.1 635)), (1, .int l1)] [] st) (hB149 : ∀ (l1 : Int32) (l2 : Int32) (st : zs_T), B149 l1 l2 st → zs_Go p l e (zs_rm 2 48) s m args below meth c g A (MQ below (zs_Qv g zs_ly zs_N A K) args s 0 0 A) 6 149 [(0, .ref (g.2.1 635)), (1, .int l1), (2, .int l2)] [] st) (hB155 : ∀ (l1 : Int32) (l2 : Int32) (l3 : Int32) (st : zs_T), B155 l1 l2 l3 st → zs_Go p l e (zs_rm 2 48) s m args below meth c g A (MQ below (zs_Qv g zs_ly zs_N A K) args s 0 0 A) 6 155 [(0, .ref (g.2.1 635)), (1, .int l1), (2, .int l2), (3, .int l3)] [] st) (hB177 : ∀ (l1 : Int32) (l2 : Int32) (l3 : Int32) (l4 : Int32) (l5 : Int32) (st : zs_T), B177 l1 l2 l3 l4 l5 st → zs_Go p l e (zs_rm 2 48) s m args below meth c g A (MQ below (zs_Qv g zs_ly zs_N A K) args s 0 0 A) 6 177 [(0, .ref (g.2.1 635)), (1, .int l1), (2, .int l2), (3, .int l3), (4, .int l4), (5, .int l5)] [] st) (l1 : Int32) (l2 : Int32) (l3 : Int32) (l5 : Int32) (st : zs_T) (h : zf_MO_findFree_218 K B138 B149 B155 B177 l1 l2 l3 l5 st) : zs_Go p l e (zs_rm 2 48) s m args below meth c g A (MQ below (zs_Qv g zs_ly zs_N A K) args s 0 0 A) 6 218 [(0, .ref (g.2.1 635)), (1, .int l1), (2, .int l2), (3, .int l3), (5, .int l5)] [] st := by
  obtain ⟨hx, hb, hml, hr, hlk, hts, hown, hK⟩ := id hM
  intro ls H locs hl hP hS
  unfold zf_MO_findFree_218 at h
  refine lv_iconst (v := 0) hx hb dMO_findFree_218 (by decide) ?_
  exact zw_MO_findFree_219 hM hB138 hB149 hB155 hB177 l1 l2 l3 l5 0 st h ls H locs (lv_sub hl [0, 1, 2, 3, 4] rfl) hP hS
set_option maxHeartbeats 4000000 in
set_option maxRecDepth 100000 in
theorem zw_MO_findFree_252 (hM : zs_M p c cMO_findFree 6 s m meth args "ThriftyStoresModel" none g)   {K : zs_T → Prop} {B138 : Int32 → zs_T → Prop} {B149 : Int32 → Int32 → zs_T → Prop} {B155 : Int32 → Int32 → Int32 → zs_T → Prop} (hB138 : ∀ (l1 : Int32) (st : zs_T), B138 l1 st → zs_Go p l e (zs_rm 2 48) s m args below meth c g A (MQ below (zs_Qv g zs_ly zs_N A K) args s 0 0 A) 6 138 [(0, .ref (g.2.1 635)), (1, .int l1)] [] st) (hB149 : ∀ (l1 : Int32) (l2 : Int32) (st : zs_T), B149 l1 l2 st → zs_Go p l e (zs_rm 2 48) s m args below meth c g A (MQ below (zs_Qv g zs_ly zs_N A K) args s 0 0 A) 6 149 [(0, .ref (g.2.1 635)), (1, .int l1), (2, .int l2)] [] st) (hB155 : ∀ (l1 : Int32) (l2 : Int32) (l3 : Int32) (st : zs_T), B155 l1 l2 l3 st → zs_Go p l e (zs_rm 2 48) s m args below meth c g A (MQ below (zs_Qv g zs_ly zs_N A K) args s 0 0 A) 6 155 [(0, .ref (g.2.1 635)), (1, .int l1), (2, .int l2), (3, .int l3)] [] st) (l2 : Int32) (l3 : Int32) (l4 : Int32) (s0 : Int32) (st : zs_T) (h : zf_MO_findFree_252 K B138 B149 B155 l2 l3 l4 s0 st) : zs_Go p l e (zs_rm 2 48) s m args below meth c g A (MQ below (zs_Qv g zs_ly zs_N A K) args s 0 0 A) 6 252 [(0, .ref (g.2.1 635)), (2, .int l2), (3, .int l3), (4, .int l4)] [.int s0] st := by
  obtain ⟨hx, hb, hml, hr, hlk, hts, hown, hK⟩ := id hM
  intro ls H locs hl hP hS
  unfold zf_MO_findFree_252 at h
  refine lv_istore_n hx hb dMO_findFree_252 rfl hl (by decide) rfl (fun ls hl => ?_)
  have hl : lv_has ls 6 [(1, .int s0), (0, .ref (g.2.1 635)), (2, .int l2), (3, .int l3), (4, .int l4)] := hl
  refine lv_aload_n hx hb dMO_findFree_253 rfl (lv_at hl 1 rfl) ?_
  refine zr_getr (b := 647) hx hb hts zi_MO hown hK.1 hP zl_635.1 zl_635.2 rfl 16 (by decide) rfl (hts _ zq_749) dMO_findFree_254 ?_
  refine lv_bipush (v := 16) hx hb dMO_findFree_257 (by decide) ?_
  refine lv_iload_n hx hb dMO_findFree_259 rfl (lv_at hl 2 rfl) ?_
  refine lv_imul hx hb dMO_findFree_260 ?_
  refine lv_iload_n hx hb dMO_findFree_261 rfl (lv_at hl 3 rfl) ?_
  refine lv_iadd hx hb dMO_findFree_262 ?_
  refine lv_iload hx hb dMO_findFree_263 (lv_at hl 4 rfl) ?_
  obtain ⟨hi1301, h⟩ := h
  refine zr_zast hx hb hK.1 hP hS zl_647.1 zl_647.2 hi1301 dMO_findFree_265 (fun H locs hP hS => ?_)
  obtain ⟨t1302, ez⟩ : ∃ tz : zs_T, tz = zs_i st 647 ((16 * l2) + l3).toNatClampNeg (vp_nar .boolean l4) := ⟨_, rfl⟩
  have h := h t1302 ez
  have hP : zs_P g zs_ly zs_N A t1302 H := by rw [ez]; exact hP
  clear ez
  refine lv_iinc (k := 3) (v := l3 + 1) hx hb dMO_findFree_266 hl rfl (by rw [show Int32.ofInt (1) = 1 from by decide]) (by decide) rfl (fun ls hl => ?_)
  have hl : lv_has ls 6 [(3, .int (l3 + 1)), (1, .int s0), (0, .ref (g.2.1 635)), (2, .int l2), (4, .int l4)] := hl
  refine lv_goto (tgt := 155) hx hb dMO_findFree_269 rfl ?_
  exact hB155 s0 l2 (l3 + 1) t1302 h ls H locs (lv_sub hl [2, 1, 3, 0] rfl) hP hS
set_option maxHeartbeats 4000000 in
set_option maxRecDepth 100000 in
theorem zw_MO_findFree_247 (hM : zs_M p c cMO_findFree 6 s m meth args "ThriftyStoresModel" none g)   {K : zs_T → Prop} {B138 : Int32 → zs_T → Prop} {B149 : Int32 → Int32 → zs_T → Prop} {B155 : Int32 → Int32 → Int32 → zs_T → Prop} (hB138 : ∀ (l1 : Int32) (st : zs_T), B138 l1 st → zs_Go p l e (zs_rm 2 48) s m args below meth c g A (MQ below (zs_Qv g zs_ly zs_N A K) args s 0 0 A) 6 138 [(0, .ref (g.2.1 635)), (1, .int l1)] [] st) (hB149 : ∀ (l1 : Int32) (l2 : Int32) (st : zs_T), B149 l1 l2 st → zs_Go p l e (zs_rm 2 48) s m args below meth c g A (MQ below (zs_Qv g zs_ly zs_N A K) args s 0 0 A) 6 149 [(0, .ref (g.2.1 635)), (1, .int l1), (2, .int l2)] [] st) (hB155 : ∀ (l1 : Int32) (l2 : Int32) (l3 : Int32) (st : zs_T), B155 l1 l2 l3 st → zs_Go p l e (zs_rm 2 48) s m args below meth c g A (MQ below (zs_Qv g zs_ly zs_N A K) args s 0 0 A) 6 155 [(0, .ref (g.2.1 635)), (1, .int l1), (2, .int l2), (3, .int l3)] [] st) (l2 : Int32) (l3 : Int32) (l4 : Int32) (st : zs_T) (h : zf_MO_findFree_247 K B138 B149 B155 l2 l3 l4 st) : zs_Go p l e (zs_rm 2 48) s m args below meth c g A (MQ below (zs_Qv g zs_ly zs_N A K) args s 0 0 A) 6 247 [(0, .ref (g.2.1 635)), (2, .int l2), (3, .int l3), (4, .int l4)] [] st := by
  obtain ⟨hx, hb, hml, hr, hlk, hts, hown, hK⟩ := id hM
  intro ls H locs hl hP hS
  unfold zf_MO_findFree_247 at h
  refine lv_iconst (v := 1) hx hb dMO_findFree_247 (by decide) ?_
  refine lv_goto (tgt := 252) hx hb dMO_findFree_248 rfl ?_
  exact zw_MO_findFree_252 hM hB138 hB149 hB155 l2 l3 l4 1 st h ls H locs (lv_sub hl [0, 1, 2, 3] rfl) hP hS
set_option maxHeartbeats 4000000 in
set_option maxRecDepth 100000 in
theorem zw_MO_findFree_177_s (hM : zs_M p c cMO_findFree 6 s m meth args "ThriftyStoresModel" none g)   {K : zs_T → Prop} {B138 : Int32 → zs_T → Prop} {B149 : Int32 → Int32 → zs_T → Prop} {B155 : Int32 → Int32 → Int32 → zs_T → Prop} {B177 : Int32 → Int32 → Int32 → Int32 → Int32 → zs_T → Prop} (hB138 : ∀ (l1 : Int32) (st : zs_T), B138 l1 st → zs_Go p l e (zs_rm 2 48) s m args below meth c g A (MQ below (zs_Qv g zs_ly zs_N A K) args s 0 0 A) 6 138 [(0, .ref (g.2.1 635)), (1, .int l1)] [] st) (hB149 : ∀ (l1 : Int32) (l2 : Int32) (st : zs_T), B149 l1 l2 st → zs_Go p l e (zs_rm 2 48) s m args below meth c g A (MQ below (zs_Qv g zs_ly zs_N A K) args s 0 0 A) 6 149 [(0, .ref (g.2.1 635)), (1, .int l1), (2, .int l2)] [] st) (hB155 : ∀ (l1 : Int32) (l2 : Int32) (l3 : Int32) (st : zs_T), B155 l1 l2 l3 st → zs_Go p l e (zs_rm 2 48) s m args below meth c g A (MQ below (zs_Qv g zs_ly zs_N A K) args s 0 0 A) 6 155 [(0, .ref (g.2.1 635)), (1, .int l1), (2, .int l2), (3, .int l3)] [] st) (hB177 : ∀ (l1 : Int32) (l2 : Int32) (l3 : Int32) (l4 : Int32) (l5 : Int32) (st : zs_T), B177 l1 l2 l3 l4 l5 st → zs_Go p l e (zs_rm 2 48) s m args below meth c g A (MQ below (zs_Qv g zs_ly zs_N A K) args s 0 0 A) 6 177 [(0, .ref (g.2.1 635)), (1, .int l1), (2, .int l2), (3, .int l3), (4, .int l4), (5, .int l5)] [] st) (l1 : Int32) (l2 : Int32) (l3 : Int32) (l4 : Int32) (l5 : Int32) (st : zs_T) (h : zf_MO_findFree_177_s K B138 B149 B155 B177 l1 l2 l3 l4 l5 st) : zs_Go p l e (zs_rm 2 48) s m args below meth c g A (MQ below (zs_Qv g zs_ly zs_N A K) args s 0 0 A) 6 177 [(0, .ref (g.2.1 635)), (1, .int l1), (2, .int l2), (3, .int l3), (4, .int l4), (5, .int l5)] [] st := by
  obtain ⟨hx, hb, hml, hr, hlk, hts, hown, hK⟩ := id hM
  intro ls H locs hl hP hS
  unfold zf_MO_findFree_177_s at h
  refine lv_iload hx hb dMO_findFree_177 (lv_at hl 5 rfl) ?_
  refine lv_iconst (v := 2) hx hb dMO_findFree_179 (by decide) ?_
  refine lv_icmp_ge (tgt := 227) hx hb dMO_findFree_180 rfl (fun hc => ?_) (fun hc => ?_)
  · have h := h.1 hc
    clear hc
    refine lv_iload_n hx hb dMO_findFree_227 rfl (lv_at hl 1 rfl) ?_
    refine lv_if_ne (tgt := 247) hx hb dMO_findFree_228 rfl (fun hc => ?_) (fun hc => ?_)
    · have h := h.1 hc
      clear hc
      exact zw_MO_findFree_247 hM hB138 hB149 hB155 l2 l3 l4 st h ls H locs (lv_sub hl [0, 2, 3, 4] rfl) hP hS
    · have h := h.2 hc
      clear hc
      refine lv_iload hx hb dMO_findFree_231 (lv_at hl 4 rfl) ?_
      refine lv_aload_n hx hb dMO_findFree_233 rfl (lv_at hl 0 rfl) ?_
      refine zr_getr (b := 647) hx hb hts zi_MO hown hK.1 hP zl_635.1 zl_635.2 rfl 16 (by decide) rfl (hts _ zq_749) dMO_findFree_234 ?_
      refine lv_bipush (v := 16) hx hb dMO_findFree_237 (by decide) ?_
      refine lv_iload_n hx hb dMO_findFree_239 rfl (lv_at hl 2 rfl) ?_
      refine lv_imul hx hb dMO_findFree_240 ?_
      refine lv_iload_n hx hb dMO_findFree_241 rfl (lv_at hl 3 rfl) ?_
      refine lv_iadd hx hb dMO_findFree_242 ?_
      obtain ⟨hi1001, h⟩ := h
      refine zr_zald hx hb hK.1 hP zl_647.1 zl_647.2 hi1001 dMO_findFree_243 ?_
      refine lv_icmp_eq (tgt := 251) hx hb dMO_findFree_244 rfl (fun hc => ?_) (fun hc => ?_)
      · have h := h.1 hc
        clear hc
        refine lv_iconst (v := 0) hx hb dMO_findFree_251 (by decide) ?_
        exact zw_MO_findFree_252 hM hB138 hB149 hB155 l2 l3 l4 0 st h ls H locs (lv_sub hl [0, 2, 3, 4] rfl) hP hS
      · have h := h.2 hc
        clear hc
        exact zw_MO_findFree_247 hM hB138 hB149 hB155 l2 l3 l4 st h ls H locs (lv_sub hl [0, 2, 3, 4] rfl) hP hS
  · have h := h.2 hc
    clear hc
    refine lv_iload hx hb dMO_findFree_183 (lv_at hl 4 rfl) ?_
    refine lv_if_eq (tgt := 218) hx hb dMO_findFree_185 rfl (fun hc => ?_) (fun hc => ?_)
    · have h := h.1 hc
      clear hc
      exact zw_MO_findFree_218 hM hB138 hB149 hB155 hB177 l1 l2 l3 l5 st h ls H locs (lv_sub hl [0, 1, 2, 3, 5] rfl) hP hS
    · have h := h.2 hc
      clear hc
      refine lv_aload_n hx hb dMO_findFree_188 rfl (lv_at hl 0 rfl) ?_
      refine lv_iload_n hx hb dMO_findFree_189 rfl (lv_at hl 2 rfl) ?_
      refine lv_iload hx hb dMO_findFree_190 (lv_at hl 5 rfl) ?_
      refine zr_calli (va_runV (As := [.int l2, .int l5]) (rest := []) ⟨hx, hb, hml, hown, hts⟩ (zc_MO_next l g A  h) (cwV 2 hts (zs_gV zq_877 zq_879 zp_41 zq_8 zq_880) rfl rfl rfl ⟨rfl, by decide, by decide, by decide +kernel⟩ ⟨Nat.le_of_ble_eq_true rfl, Nat.le_of_ble_eq_true rfl⟩) (zs_preV zs_nwk hK hP zl_635.1 zl_635.2 rfl) rfl rfl hl.1 rfl (lv_room (Nat.le_of_ble_eq_true rfl)) dMO_findFree_192 ⟨Nat.le_refl _, Nat.le_refl _⟩) hS (fun r1003 u1002 H locs h hP hS => ?_)
      refine lv_iconst (v := (-1)) hx hb dMO_findFree_195 (by decide) ?_
      refine lv_icmp_eq (tgt := 214) hx hb dMO_findFree_196 rfl (fun hc => ?_) (fun hc => ?_)
      · have h := h.1 hc
        clear hc
        exact zw_MO_findFree_214 hM hB138 hB149 hB155 hB177 l1 l2 l3 l5 u1002 h ls H locs (lv_sub hl [0, 1, 2, 3, 5] rfl) hP hS
      · have h := h.2 hc
        clear hc
        refine lv_aload_n hx hb dMO_findFree_199 rfl (lv_at hl 0 rfl) ?_
        refine lv_aload_n hx hb dMO_findFree_200 rfl (lv_at hl 0 rfl) ?_
        refine lv_iload_n hx hb dMO_findFree_201 rfl (lv_at hl 2 rfl) ?_
        refine lv_iload hx hb dMO_findFree_202 (lv_at hl 5 rfl) ?_
        refine zr_calli (va_runV (As := [.int l2, .int l5]) (rest := [.ref (g.2.1 635)]) ⟨hx, hb, hml, hown, hts⟩ (zc_MO_next l g A  h) (cwV 2 hts (zs_gV zq_877 zq_879 zp_41 zq_8 zq_880) rfl rfl rfl ⟨rfl, by decide, by decide, by decide +kernel⟩ ⟨Nat.le_of_ble_eq_true rfl, Nat.le_of_ble_eq_true rfl⟩) (zs_preV zs_nwk hK hP zl_635.1 zl_635.2 rfl) rfl rfl hl.1 rfl (lv_room (Nat.le_of_ble_eq_true rfl)) dMO_findFree_204 ⟨Nat.le_refl _, Nat.le_refl _⟩) hS (fun r1005 u1004 H locs h hP hS => ?_)
        refine lv_iload_n hx hb dMO_findFree_207 rfl (lv_at hl 3 rfl) ?_
        refine zr_calli (va_runV (As := [.int r1005, .int l3]) (rest := []) ⟨hx, hb, hml, hown, hts⟩ (zc_MO_freeBefore l g A  h) (cwV 2 hts (zs_gV zq_929 zq_931 zp_54 zq_8 zq_932) rfl rfl rfl ⟨rfl, by decide, by decide, by decide +kernel⟩ ⟨Nat.le_of_ble_eq_true rfl, Nat.le_of_ble_eq_true rfl⟩) (zs_preV zs_nwk hK hP zl_635.1 zl_635.2 rfl) rfl rfl hl.1 rfl (lv_room (Nat.le_of_ble_eq_true rfl)) dMO_findFree_208 ⟨Nat.le_refl _, Nat.le_refl _⟩) hS (fun r1007 u1006 H locs h hP hS => ?_)
        refine lv_if_eq (tgt := 218) hx hb dMO_findFree_211 rfl (fun hc => ?_) (fun hc => ?_)
        · have h := h.1 hc
          clear hc
          exact zw_MO_findFree_218 hM hB138 hB149 hB155 hB177 l1 l2 l3 l5 u1006 h ls H locs (lv_sub hl [0, 1, 2, 3, 5] rfl) hP hS
        · have h := h.2 hc
          clear hc
          exact zw_MO_findFree_214 hM hB138 hB149 hB155 hB177 l1 l2 l3 l5 u1006 h ls H locs (lv_sub hl [0, 1, 2, 3, 5] rfl) hP hS
theorem zw_MO_findFree_177 (hM : zs_M p c cMO_findFree 6 s m meth args "ThriftyStoresModel" none g)   {K : zs_T → Prop} {B138 : Int32 → zs_T → Prop} {B149 : Int32 → Int32 → zs_T → Prop} {B155 : Int32 → Int32 → Int32 → zs_T → Prop} (hB138 : ∀ (l1 : Int32) (st : zs_T), B138 l1 st → zs_Go p l e (zs_rm 2 48) s m args below meth c g A (MQ below (zs_Qv g zs_ly zs_N A K) args s 0 0 A) 6 138 [(0, .ref (g.2.1 635)), (1, .int l1)] [] st) (hB149 : ∀ (l1 : Int32) (l2 : Int32) (st : zs_T), B149 l1 l2 st → zs_Go p l e (zs_rm 2 48) s m args below meth c g A (MQ below (zs_Qv g zs_ly zs_N A K) args s 0 0 A) 6 149 [(0, .ref (g.2.1 635)), (1, .int l1), (2, .int l2)] [] st) (hB155 : ∀ (l1 : Int32) (l2 : Int32) (l3 : Int32) (st : zs_T), B155 l1 l2 l3 st → zs_Go p l e (zs_rm 2 48) s m args below meth c g A (MQ below (zs_Qv g zs_ly zs_N A K) args s 0 0 A) 6 155 [(0, .ref (g.2.1 635)), (1, .int l1), (2, .int l2), (3, .int l3)] [] st) : ∀ (n : Nat) (l1 : Int32) (l2 : Int32) (l3 : Int32) (l4 : Int32) (l5 : Int32) (st : zs_T), zf_MO_findFree_177 K B138 B149 B155 n l1 l2 l3 l4 l5 st → zs_Go p l e (zs_rm 2 48) s m args below meth c g A (MQ below (zs_Qv g zs_ly zs_N A K) args s 0 0 A) 6 177 [(0, .ref (g.2.1 635)), (1, .int l1), (2, .int l2), (3, .int l3), (4, .int l4), (5, .int l5)] [] st := by
  intro n
  induction n with
  | zero => intro l1 l2 l3 l4 l5 st h; exact False.elim h
  | succ n ih => intro l1 l2 l3 l4 l5 st h; exact zw_MO_findFree_177_s hM hB138 hB149 hB155 ih l1 l2 l3 l4 l5 st h
set_option maxHeartbeats 4000000 in
set_option maxRecDepth 100000 in
theorem zw_MO_findFree_155_s (hM : zs_M p c cMO_findFree 6 s m meth args "ThriftyStoresModel" none g)   {K : zs_T → Prop} {B138 : Int32 → zs_T → Prop} {B149 : Int32 → Int32 → zs_T → Prop} {B155 : Int32 → Int32 → Int32 → zs_T → Prop} (hB138 : ∀ (l1 : Int32) (st : zs_T), B138 l1 st → zs_Go p l e (zs_rm 2 48) s m args below meth c g A (MQ below (zs_Qv g zs_ly zs_N A K) args s 0 0 A) 6 138 [(0, .ref (g.2.1 635)), (1, .int l1)] [] st) (hB149 : ∀ (l1 : Int32) (l2 : Int32) (st : zs_T), B149 l1 l2 st → zs_Go p l e (zs_rm 2 48) s m args below meth c g A (MQ below (zs_Qv g zs_ly zs_N A K) args s 0 0 A) 6 149 [(0, .ref (g.2.1 635)), (1, .int l1), (2, .int l2)] [] st) (hB155 : ∀ (l1 : Int32) (l2 : Int32) (l3 : Int32) (st : zs_T), B155 l1 l2 l3 st → zs_Go p l e (zs_rm 2 48) s m args below meth c g A (MQ below (zs_Qv g zs_ly zs_N A K) args s 0 0 A) 6 155 [(0, .ref (g.2.1 635)), (1, .int l1), (2, .int l2), (3, .int l3)] [] st) (l1 : Int32) (l2 : Int32) (l3 : Int32) (st : zs_T) (h : zf_MO_findFree_155_s K B138 B149 B155 l1 l2 l3 st) : zs_Go p l e (zs_rm 2 48) s m args below meth c g A (MQ below (zs_Qv g zs_ly zs_N A K) args s 0 0 A) 6 155 [(0, .ref (g.2.1 635)), (1, .int l1), (2, .int l2), (3, .int l3)] [] st := by
  obtain ⟨hx, hb, hml, hr, hlk, hts, hown, hK⟩ := id hM
  intro ls H locs hl hP hS
  unfold zf_MO_findFree_155_s at h
  refine lv_iload_n hx hb dMO_findFree_155 rfl (lv_at hl 3 rfl) ?_
  refine lv_bipush (v := 16) hx hb dMO_findFree_156 (by decide) ?_
  refine lv_icmp_ge (tgt := 272) hx hb dMO_findFree_158 rfl (fun hc => ?_) (fun hc => ?_)
  · have h := h.1 hc
    clear hc
    refine lv_iinc (k := 2) (v := l2 + (-1)) hx hb dMO_findFree_272 hl rfl (by rw [show Int32.ofInt (-1) = (-1) from by decide]) (by decide) rfl (fun ls hl => ?_)
    have hl : lv_has ls 6 [(2, .int (l2 + (-1))), (0, .ref (g.2.1 635)), (1, .int l1), (3, .int l3)] := hl
    refine lv_goto (tgt := 149) hx hb dMO_findFree_275 rfl ?_
    exact hB149 l1 (l2 + (-1)) st h ls H locs (lv_sub hl [1, 2, 0] rfl) hP hS
  · have h := h.2 hc
    clear hc
    refine lv_aload_n hx hb dMO_findFree_161 rfl (lv_at hl 0 rfl) ?_
    refine zr_getr (b := 647) hx hb hts zi_MO hown hK.1 hP zl_635.1 zl_635.2 rfl 16 (by decide) rfl (hts _ zq_749) dMO_findFree_162 ?_
    refine lv_bipush (v := 16) hx hb dMO_findFree_165 (by decide) ?_
    refine lv_iload_n hx hb dMO_findFree_167 rfl (lv_at hl 2 rfl) ?_
    refine lv_imul hx hb dMO_findFree_168 ?_
    refine lv_iload_n hx hb dMO_findFree_169 rfl (lv_at hl 3 rfl) ?_
    refine lv_iadd hx hb dMO_findFree_170 ?_
    obtain ⟨hi601, h⟩ := h
    refine zr_zald hx hb hK.1 hP zl_647.1 zl_647.2 hi601 dMO_findFree_171 ?_
    refine lv_istore hx hb dMO_findFree_172 hl (by decide) rfl (fun ls hl => ?_)
    have hl : lv_has ls 6 [(4, .int (st.1 647 ((16 * l2) + l3).toNatClampNeg)), (0, .ref (g.2.1 635)), (1, .int l1), (2, .int l2), (3, .int l3)] := hl
    refine lv_iconst (v := 0) hx hb dMO_findFree_174 (by decide) ?_
    refine lv_istore hx hb dMO_findFree_175 hl (by decide) rfl (fun ls hl => ?_)
    have hl : lv_has ls 6 [(5, .int 0), (4, .int (st.1 647 ((16 * l2) + l3).toNatClampNeg)), (0, .ref (g.2.1 635)), (1, .int l1), (2, .int l2), (3, .int l3)] := hl
    obtain ⟨n, h⟩ := h
    exact zw_MO_findFree_177 hM hB138 hB149 hB155 n l1 l2 l3 (st.1 647 ((16 * l2) + l3).toNatClampNeg) 0 st h ls H locs (lv_sub hl [2, 3, 4, 5, 1, 0] rfl) hP hS
theorem zw_MO_findFree_155 (hM : zs_M p c cMO_findFree 6 s m meth args "ThriftyStoresModel" none g)   {K : zs_T → Prop} {B138 : Int32 → zs_T → Prop} {B149 : Int32 → Int32 → zs_T → Prop} (hB138 : ∀ (l1 : Int32) (st : zs_T), B138 l1 st → zs_Go p l e (zs_rm 2 48) s m args below meth c g A (MQ below (zs_Qv g zs_ly zs_N A K) args s 0 0 A) 6 138 [(0, .ref (g.2.1 635)), (1, .int l1)] [] st) (hB149 : ∀ (l1 : Int32) (l2 : Int32) (st : zs_T), B149 l1 l2 st → zs_Go p l e (zs_rm 2 48) s m args below meth c g A (MQ below (zs_Qv g zs_ly zs_N A K) args s 0 0 A) 6 149 [(0, .ref (g.2.1 635)), (1, .int l1), (2, .int l2)] [] st) : ∀ (n : Nat) (l1 : Int32) (l2 : Int32) (l3 : Int32) (st : zs_T), zf_MO_findFree_155 K B138 B149 n l1 l2 l3 st → zs_Go p l e (zs_rm 2 48) s m args below meth c g A (MQ below (zs_Qv g zs_ly zs_N A K) args s 0 0 A) 6 155 [(0, .ref (g.2.1 635)), (1, .int l1), (2, .int l2), (3, .int l3)] [] st := by
  intro n
  induction n with
  | zero => intro l1 l2 l3 st h; exact False.elim h
  | succ n ih => intro l1 l2 l3 st h; exact zw_MO_findFree_155_s hM hB138 hB149 ih l1 l2 l3 st h
set_option maxHeartbeats 4000000 in
set_option maxRecDepth 100000 in
theorem zw_MO_findFree_149_s (hM : zs_M p c cMO_findFree 6 s m meth args "ThriftyStoresModel" none g)   {K : zs_T → Prop} {B138 : Int32 → zs_T → Prop} {B149 : Int32 → Int32 → zs_T → Prop} (hB138 : ∀ (l1 : Int32) (st : zs_T), B138 l1 st → zs_Go p l e (zs_rm 2 48) s m args below meth c g A (MQ below (zs_Qv g zs_ly zs_N A K) args s 0 0 A) 6 138 [(0, .ref (g.2.1 635)), (1, .int l1)] [] st) (hB149 : ∀ (l1 : Int32) (l2 : Int32) (st : zs_T), B149 l1 l2 st → zs_Go p l e (zs_rm 2 48) s m args below meth c g A (MQ below (zs_Qv g zs_ly zs_N A K) args s 0 0 A) 6 149 [(0, .ref (g.2.1 635)), (1, .int l1), (2, .int l2)] [] st) (l1 : Int32) (l2 : Int32) (st : zs_T) (h : zf_MO_findFree_149_s K B138 B149 l1 l2 st) : zs_Go p l e (zs_rm 2 48) s m args below meth c g A (MQ below (zs_Qv g zs_ly zs_N A K) args s 0 0 A) 6 149 [(0, .ref (g.2.1 635)), (1, .int l1), (2, .int l2)] [] st := by
  obtain ⟨hx, hb, hml, hr, hlk, hts, hown, hK⟩ := id hM
  intro ls H locs hl hP hS
  unfold zf_MO_findFree_149_s at h
  refine lv_iload_n hx hb dMO_findFree_149 rfl (lv_at hl 2 rfl) ?_
  refine lv_if_lt (tgt := 278) hx hb dMO_findFree_150 rfl (fun hc => ?_) (fun hc => ?_)
  · have h := h.1 hc
    clear hc
    refine lv_goto (tgt := 138) hx hb dMO_findFree_278 rfl ?_
    exact hB138 l1 st h ls H locs (lv_sub hl [0, 1] rfl) hP hS
  · have h := h.2 hc
    clear hc
    refine lv_iconst (v := 0) hx hb dMO_findFree_153 (by decide) ?_
    refine lv_istore_n hx hb dMO_findFree_154 rfl hl (by decide) rfl (fun ls hl => ?_)
    have hl : lv_has ls 6 [(3, .int 0), (0, .ref (g.2.1 635)), (1, .int l1), (2, .int l2)] := hl
    obtain ⟨n, h⟩ := h
    exact zw_MO_findFree_155 hM hB138 hB149 n l1 l2 0 st h ls H locs (lv_sub hl [1, 2, 3, 0] rfl) hP hS
theorem zw_MO_findFree_149 (hM : zs_M p c cMO_findFree 6 s m meth args "ThriftyStoresModel" none g)   {K : zs_T → Prop} {B138 : Int32 → zs_T → Prop} (hB138 : ∀ (l1 : Int32) (st : zs_T), B138 l1 st → zs_Go p l e (zs_rm 2 48) s m args below meth c g A (MQ below (zs_Qv g zs_ly zs_N A K) args s 0 0 A) 6 138 [(0, .ref (g.2.1 635)), (1, .int l1)] [] st) : ∀ (n : Nat) (l1 : Int32) (l2 : Int32) (st : zs_T), zf_MO_findFree_149 K B138 n l1 l2 st → zs_Go p l e (zs_rm 2 48) s m args below meth c g A (MQ below (zs_Qv g zs_ly zs_N A K) args s 0 0 A) 6 149 [(0, .ref (g.2.1 635)), (1, .int l1), (2, .int l2)] [] st := by
  intro n
  induction n with
  | zero => intro l1 l2 st h; exact False.elim h
  | succ n ih => intro l1 l2 st h; exact zw_MO_findFree_149_s hM hB138 ih l1 l2 st h
set_option maxHeartbeats 4000000 in
set_option maxRecDepth 100000 in
theorem zw_MO_findFree_138_s (hM : zs_M p c cMO_findFree 6 s m meth args "ThriftyStoresModel" none g)   {K : zs_T → Prop}  {B138 : Int32 → zs_T → Prop}  (hB138 : ∀ (l1 : Int32) (st : zs_T), B138 l1 st → zs_Go p l e (zs_rm 2 48) s m args below meth c g A (MQ below (zs_Qv g zs_ly zs_N A K) args s 0 0 A) 6 138 [(0, .ref (g.2.1 635)), (1, .int l1)] [] st) (l1 : Int32) (st : zs_T) (h : zf_MO_findFree_138_s K B138 l1 st) : zs_Go p l e (zs_rm 2 48) s m args below meth c g A (MQ below (zs_Qv g zs_ly zs_N A K) args s 0 0 A) 6 138 [(0, .ref (g.2.1 635)), (1, .int l1)] [] st := by
  obtain ⟨hx, hb, hml, hr, hlk, hts, hown, hK⟩ := id hM
  intro ls H locs hl hP hS
  unfold zf_MO_findFree_138_s at h
  refine lv_iload_n hx hb dMO_findFree_138 rfl (lv_at hl 1 rfl) ?_
  refine lv_if_eq (tgt := 281) hx hb dMO_findFree_139 rfl (fun hc => ?_) (fun hc => ?_)
  · have h := h.1 hc
    clear hc
    exact zr_vret hx hb hr hlk hP hS h dMO_findFree_281
  · have h := h.2 hc
    clear hc
    refine lv_iconst (v := 0) hx hb dMO_findFree_142 (by decide) ?_
    refine lv_istore_n hx hb dMO_findFree_143 rfl hl (by decide) rfl (fun ls hl => ?_)
    have hl : lv_has ls 6 [(1, .int 0), (0, .ref (g.2.1 635))] := hl
    refine lv_aload_n hx hb dMO_findFree_144 rfl (lv_at hl 1 rfl) ?_
    refine zr_geti hx hb hts zi_MO hown hK.1 hP zl_635.1 zl_635.2 rfl 5 (by decide) rfl (hts _ zq_738) dMO_findFree_145 ?_
    refine lv_istore_n hx hb dMO_findFree_148 rfl hl (by decide) rfl (fun ls hl => ?_)
    have hl : lv_has ls 6 [(2, .int (st.1 635 5)), (1, .int 0), (0, .ref (g.2.1 635))] := hl
    obtain ⟨n, h⟩ := h
    exact zw_MO_findFree_149 hM hB138 n 0 (st.1 635 5) st h ls H locs (lv_sub hl [2, 1, 0] rfl) hP hS
theorem zw_MO_findFree_138 (hM : zs_M p c cMO_findFree 6 s m meth args "ThriftyStoresModel" none g)   {K : zs_T → Prop}   : ∀ (n : Nat) (l1 : Int32) (st : zs_T), zf_MO_findFree_138 K n l1 st → zs_Go p l e (zs_rm 2 48) s m args below meth c g A (MQ below (zs_Qv g zs_ly zs_N A K) args s 0 0 A) 6 138 [(0, .ref (g.2.1 635)), (1, .int l1)] [] st := by
  intro n
  induction n with
  | zero => intro l1 st h; exact False.elim h
  | succ n ih => intro l1 st h; exact zw_MO_findFree_138_s hM  ih l1 st h
set_option maxHeartbeats 4000000 in
set_option maxRecDepth 100000 in
theorem zw_MO_findFree_2_s (hM : zs_M p c cMO_findFree 6 s m meth args "ThriftyStoresModel" none g)   {K : zs_T → Prop}  {B2 : Int32 → zs_T → Prop}  (hB2 : ∀ (l1 : Int32) (st : zs_T), B2 l1 st → zs_Go p l e (zs_rm 2 48) s m args below meth c g A (MQ below (zs_Qv g zs_ly zs_N A K) args s 0 0 A) 6 2 [(0, .ref (g.2.1 635)), (1, .int l1)] [] st) (l1 : Int32) (st : zs_T) (h : zf_MO_findFree_2_s K B2 l1 st) : zs_Go p l e (zs_rm 2 48) s m args below meth c g A (MQ below (zs_Qv g zs_ly zs_N A K) args s 0 0 A) 6 2 [(0, .ref (g.2.1 635)), (1, .int l1)] [] st := by
  obtain ⟨hx, hb, hml, hr, hlk, hts, hown, hK⟩ := id hM
  intro ls H locs hl hP hS
  unfold zf_MO_findFree_2_s at h
  refine lv_iload_n hx hb dMO_findFree_2 rfl (lv_at hl 1 rfl) ?_
  refine lv_aload_n hx hb dMO_findFree_3 rfl (lv_at hl 0 rfl) ?_
  refine zr_geti hx hb hts zi_MO hown hK.1 hP zl_635.1 zl_635.2 rfl 5 (by decide) rfl (hts _ zq_738) dMO_findFree_4 ?_
  refine lv_icmp_gt (tgt := 136) hx hb dMO_findFree_7 rfl (fun hc => ?_) (fun hc => ?_)
  · have h := h.1 hc
    clear hc
    refine lv_iconst (v := 1) hx hb dMO_findFree_136 (by decide) ?_
    refine lv_istore_n hx hb dMO_findFree_137 rfl hl (by decide) rfl (fun ls hl => ?_)
    have hl : lv_has ls 6 [(1, .int 1), (0, .ref (g.2.1 635))] := hl
    obtain ⟨n, h⟩ := h
    exact zw_MO_findFree_138 hM  n 1 st h ls H locs (lv_sub hl [1, 0] rfl) hP hS
  · have h := h.2 hc
    clear hc
    refine lv_iconst (v := 0) hx hb dMO_findFree_10 (by decide) ?_
    refine lv_istore_n hx hb dMO_findFree_11 rfl hl (by decide) rfl (fun ls hl => ?_)
    have hl : lv_has ls 6 [(2, .int 0), (0, .ref (g.2.1 635)), (1, .int l1)] := hl
    obtain ⟨n, h⟩ := h
    exact zw_MO_findFree_12 hM hB2 n l1 0 st h ls H locs (lv_sub hl [1, 2, 0] rfl) hP hS
theorem zw_MO_findFree_2 (hM : zs_M p c cMO_findFree 6 s m meth args "ThriftyStoresModel" none g)   {K : zs_T → Prop}   : ∀ (n : Nat) (l1 : Int32) (st : zs_T), zf_MO_findFree_2 K n l1 st → zs_Go p l e (zs_rm 2 48) s m args below meth c g A (MQ below (zs_Qv g zs_ly zs_N A K) args s 0 0 A) 6 2 [(0, .ref (g.2.1 635)), (1, .int l1)] [] st := by
  intro n
  induction n with
  | zero => intro l1 st h; exact False.elim h
  | succ n ih => intro l1 st h; exact zw_MO_findFree_2_s hM  ih l1 st h
set_option maxHeartbeats 4000000 in
set_option maxRecDepth 100000 in
theorem zc_MO_findFree (l : Launch) (g : zs_G) (A : Nat → Prop)   {st : zs_T} {K : zs_T → Prop} (h : zf_MO_findFree  st K) : Met l yMO_findFree (.code yMO_findFree cMO_findFree 6 none :: zs_tb) (zs_rm 2 48) (zs_Pc zs_nl g zs_ly zs_N A [.ref (g.2.1 635)] st) (zs_Qv g zs_ly zs_N A K) 0 0 A := by
  refine zs_met (cc := cMO_findFree) (maxL := 6) (ret := none) (by decide) (Nat.le_of_ble_eq_true rfl) (fun p e s m below meth c hM => ?_)
  have hM : zs_M p c cMO_findFree 6 s m meth [.ref (g.2.1 635)].toArray "ThriftyStoresModel" none g := hM
  obtain ⟨hx, hb, hml, hr, hlk, hts, hown, hK⟩ := id hM
  intro ls H locs hl hP hS
  have hl : lv_has ls 6 [(0, .ref (g.2.1 635))] := hl
  unfold zf_MO_findFree at h
  refine lv_iconst (v := 0) hx hb dMO_findFree_0 (by decide) ?_
  refine lv_istore_n hx hb dMO_findFree_1 rfl hl (by decide) rfl (fun ls hl => ?_)
  have hl : lv_has ls 6 [(1, .int 0), (0, .ref (g.2.1 635))] := hl
  obtain ⟨n, h⟩ := h
  exact zw_MO_findFree_2 hM  n 0 st h ls H locs (lv_sub hl [1, 0] rfl) hP hS
set_option maxHeartbeats 4000000 in
set_option maxRecDepth 100000 in
theorem zc_MO_find (l : Launch) (g : zs_G) (A : Nat → Prop) {l1 : Int32}  {st : zs_T} {K : zs_T → Prop} (h : zf_MO_find l1 st K) : Met l yMO_find (.code yMO_find cMO_find 2 none :: zs_tb) (zs_rm 4 99) (zs_Pc zs_nl g zs_ly zs_N A [.ref (g.2.1 635), .int l1] st) (zs_Qv g zs_ly zs_N A K) 0 0 A := by
  refine zs_met (cc := cMO_find) (maxL := 2) (ret := none) (by decide) (Nat.le_of_ble_eq_true rfl) (fun p e s m below meth c hM => ?_)
  have hM : zs_M p c cMO_find 2 s m meth [.ref (g.2.1 635), .int l1].toArray "ThriftyStoresModel" none g := hM
  obtain ⟨hx, hb, hml, hr, hlk, hts, hown, hK⟩ := id hM
  intro ls H locs hl hP hS
  have hl : lv_has ls 2 [(0, .ref (g.2.1 635)), (1, .int l1)] := hl
  unfold zf_MO_find at h
  refine lv_aload_n hx hb dMO_find_0 rfl (lv_at hl 0 rfl) ?_
  refine lv_iload_n hx hb dMO_find_1 rfl (lv_at hl 1 rfl) ?_
  refine zr_put hx hb hts zi_MO tyMO tyMO_ok nmMO hown hK.1 hP hS zl_635.1 zl_635.2 rfl 9 (by decide) rfl (hts _ zq_742) rfl rfl rfl dMO_find_2 (fun H locs hP hS => ?_)
  obtain ⟨t1, ez⟩ : ∃ tz : zs_T, tz = zs_i st 635 9 l1 := ⟨_, rfl⟩
  have h := h t1 ez
  have hP : zs_P g zs_ly zs_N A t1 H := by rw [ez]; exact hP
  clear ez
  refine lv_aload_n hx hb dMO_find_5 rfl (lv_at hl 0 rfl) ?_
  refine zr_callv (va_runV (As := []) (rest := []) ⟨hx, hb, hml, hown, hts⟩ (zc_MO_findSets l g A  h) (cwV 0 hts (zs_gV zq_857 zq_859 zp_36 zq_8 zq_860) rfl rfl rfl ⟨rfl, by decide, by decide, by decide +kernel⟩ ⟨Nat.le_of_ble_eq_true rfl, Nat.le_of_ble_eq_true rfl⟩) (zs_preV zs_nwk hK hP zl_635.1 zl_635.2 rfl) rfl rfl hl.1 rfl (lv_room (Nat.le_of_ble_eq_true rfl)) dMO_find_6 ⟨Nat.le_refl _, Nat.le_refl _⟩) hS (fun u2 H locs h hP hS => ?_)
  refine lv_aload_n hx hb dMO_find_9 rfl (lv_at hl 0 rfl) ?_
  refine zr_callv (va_runV (As := []) (rest := []) ⟨hx, hb, hml, hown, hts⟩ (zc_MO_findReached l g A  h) (cwV 0 hts (zs_gV zq_873 zq_875 zp_40 zq_8 zq_876) rfl rfl rfl ⟨rfl, by decide, by decide, by decide +kernel⟩ ⟨Nat.le_of_ble_eq_true rfl, Nat.le_of_ble_eq_true rfl⟩) (zs_preV zs_nwk hK hP zl_635.1 zl_635.2 rfl) rfl rfl hl.1 rfl (lv_room (Nat.le_of_ble_eq_true rfl)) dMO_find_10 ⟨Nat.le_refl _, Nat.le_refl _⟩) hS (fun u3 H locs h hP hS => ?_)
  refine lv_aload_n hx hb dMO_find_13 rfl (lv_at hl 0 rfl) ?_
  refine zr_callv (va_runV (As := []) (rest := []) ⟨hx, hb, hml, hown, hts⟩ (zc_MO_findFacts l g A  h) (cwV 0 hts (zs_gV zq_881 zq_883 zp_42 zq_8 zq_884) rfl rfl rfl ⟨rfl, by decide, by decide, by decide +kernel⟩ ⟨Nat.le_of_ble_eq_true rfl, Nat.le_of_ble_eq_true rfl⟩) (zs_preV zs_nwk hK hP zl_635.1 zl_635.2 rfl) rfl rfl hl.1 rfl (lv_room (Nat.le_of_ble_eq_true rfl)) dMO_find_14 ⟨Nat.le_refl _, Nat.le_refl _⟩) hS (fun u4 H locs h hP hS => ?_)
  refine lv_aload_n hx hb dMO_find_17 rfl (lv_at hl 0 rfl) ?_
  refine zr_callv (va_runV (As := []) (rest := []) ⟨hx, hb, hml, hown, hts⟩ (zc_MO_findFree l g A  h) (cwV 0 hts (zs_gV zq_925 zq_927 zp_53 zq_8 zq_928) rfl rfl rfl ⟨rfl, by decide, by decide, by decide +kernel⟩ ⟨Nat.le_of_ble_eq_true rfl, Nat.le_of_ble_eq_true rfl⟩) (zs_preV zs_nwk hK hP zl_635.1 zl_635.2 rfl) rfl rfl hl.1 rfl (lv_room (Nat.le_of_ble_eq_true rfl)) dMO_find_18 ⟨Nat.le_refl _, Nat.le_refl _⟩) hS (fun u5 H locs h hP hS => ?_)
  exact zr_vret hx hb hr hlk hP hS h dMO_find_21
set_option maxHeartbeats 4000000 in
set_option maxRecDepth 100000 in
theorem zc_MO_change (l : Launch) (g : zs_G) (A : Nat → Prop) {l1 : Int32} {l2 : Int32} {l3 : Int32} {l4 : Int32} {l5 : Int32}  {st : zs_T} {K : Int32 → zs_T → Prop} (h : zf_MO_change l1 l2 l3 l4 l5 st K) : Met l yMO_change (.code yMO_change cMO_change 6 (some .int) :: zs_tb) (zs_rm 0 0) (zs_Pc zs_nl g zs_ly zs_N A [.ref (g.2.1 635), .int l1, .int l2, .int l3, .int l4, .int l5] st) (zs_Qi g zs_ly zs_N A K) 0 0 A := by
  refine zs_met (cc := cMO_change) (maxL := 6) (ret := (some .int)) (by decide) (Nat.le_of_ble_eq_true rfl) (fun p e s m below meth c hM => ?_)
  have hM : zs_M p c cMO_change 6 s m meth [.ref (g.2.1 635), .int l1, .int l2, .int l3, .int l4, .int l5].toArray "ThriftyStoresModel" (some .int) g := hM
  obtain ⟨hx, hb, hml, hr, hlk, hts, hown, hK⟩ := id hM
  intro ls H locs hl hP hS
  have hl : lv_has ls 6 [(0, .ref (g.2.1 635)), (1, .int l1), (2, .int l2), (3, .int l3), (4, .int l4), (5, .int l5)] := hl
  unfold zf_MO_change at h
  refine lv_aload_n hx hb dMO_change_0 rfl (lv_at hl 0 rfl) ?_
  refine zr_getr (b := 636) hx hb hts zi_MO hown hK.1 hP zl_635.1 zl_635.2 rfl 1 (by decide) rfl (hts _ zq_734) dMO_change_1 ?_
  refine lv_sipush (v := 200) hx hb dMO_change_4 (by decide) ?_
  refine lv_iload_n hx hb dMO_change_7 rfl (lv_at hl 1 rfl) ?_
  refine lv_iadd hx hb dMO_change_8 ?_
  refine lv_iload_n hx hb dMO_change_9 rfl (lv_at hl 2 rfl) ?_
  obtain ⟨hi1, h⟩ := h
  refine zr_iast hx hb hK.1 hP hS zl_636.1 zl_636.2 hi1 dMO_change_10 (fun H locs hP hS => ?_)
  obtain ⟨t2, ez⟩ : ∃ tz : zs_T, tz = zs_i st 636 (200 + l1).toNatClampNeg l2 := ⟨_, rfl⟩
  have h := h t2 ez
  have hP : zs_P g zs_ly zs_N A t2 H := by rw [ez]; exact hP
  clear ez
  refine lv_aload_n hx hb dMO_change_11 rfl (lv_at hl 0 rfl) ?_
  refine zr_getr (b := 637) hx hb hts zi_MO hown hK.1 hP zl_635.1 zl_635.2 rfl 2 (by decide) rfl (hts _ zq_735) dMO_change_12 ?_
  refine lv_sipush (v := 200) hx hb dMO_change_15 (by decide) ?_
  refine lv_iload_n hx hb dMO_change_18 rfl (lv_at hl 1 rfl) ?_
  refine lv_iadd hx hb dMO_change_19 ?_
  refine lv_iload_n hx hb dMO_change_20 rfl (lv_at hl 3 rfl) ?_
  obtain ⟨hi3, h⟩ := h
  refine zr_iast hx hb hK.1 hP hS zl_637.1 zl_637.2 hi3 dMO_change_21 (fun H locs hP hS => ?_)
  obtain ⟨t4, ez⟩ : ∃ tz : zs_T, tz = zs_i t2 637 (200 + l1).toNatClampNeg l3 := ⟨_, rfl⟩
  have h := h t4 ez
  have hP : zs_P g zs_ly zs_N A t4 H := by rw [ez]; exact hP
  clear ez
  refine lv_aload_n hx hb dMO_change_22 rfl (lv_at hl 0 rfl) ?_
  refine zr_getr (b := 638) hx hb hts zi_MO hown hK.1 hP zl_635.1 zl_635.2 rfl 3 (by decide) rfl (hts _ zq_736) dMO_change_23 ?_
  refine lv_sipush (v := 200) hx hb dMO_change_26 (by decide) ?_
  refine lv_iload_n hx hb dMO_change_29 rfl (lv_at hl 1 rfl) ?_
  refine lv_iadd hx hb dMO_change_30 ?_
  refine lv_iload hx hb dMO_change_31 (lv_at hl 4 rfl) ?_
  obtain ⟨hi5, h⟩ := h
  refine zr_iast hx hb hK.1 hP hS zl_638.1 zl_638.2 hi5 dMO_change_33 (fun H locs hP hS => ?_)
  obtain ⟨t6, ez⟩ : ∃ tz : zs_T, tz = zs_i t4 638 (200 + l1).toNatClampNeg l4 := ⟨_, rfl⟩
  have h := h t6 ez
  have hP : zs_P g zs_ly zs_N A t6 H := by rw [ez]; exact hP
  clear ez
  refine lv_aload_n hx hb dMO_change_34 rfl (lv_at hl 0 rfl) ?_
  refine zr_getr (b := 639) hx hb hts zi_MO hown hK.1 hP zl_635.1 zl_635.2 rfl 4 (by decide) rfl (hts _ zq_737) dMO_change_35 ?_
  refine lv_sipush (v := 200) hx hb dMO_change_38 (by decide) ?_
  refine lv_iload_n hx hb dMO_change_41 rfl (lv_at hl 1 rfl) ?_
  refine lv_iadd hx hb dMO_change_42 ?_
  refine lv_iconst (v := 0) hx hb dMO_change_43 (by decide) ?_
  obtain ⟨hi7, h⟩ := h
  refine zr_iast hx hb hK.1 hP hS zl_639.1 zl_639.2 hi7 dMO_change_44 (fun H locs hP hS => ?_)
  obtain ⟨t8, ez⟩ : ∃ tz : zs_T, tz = zs_i t6 639 (200 + l1).toNatClampNeg 0 := ⟨_, rfl⟩
  have h := h t8 ez
  have hP : zs_P g zs_ly zs_N A t8 H := by rw [ez]; exact hP
  clear ez
  refine lv_aload_n hx hb dMO_change_45 rfl (lv_at hl 0 rfl) ?_
  refine zr_getr (b := 640) hx hb hts zi_MO hown hK.1 hP zl_635.1 zl_635.2 rfl 8 (by decide) rfl (hts _ zq_741) dMO_change_46 ?_
  refine lv_iload_n hx hb dMO_change_49 rfl (lv_at hl 1 rfl) ?_
  refine lv_iload hx hb dMO_change_50 (lv_at hl 5 rfl) ?_
  obtain ⟨hi9, h⟩ := h
  refine zr_iast hx hb hK.1 hP hS zl_640.1 zl_640.2 hi9 dMO_change_52 (fun H locs hP hS => ?_)
  obtain ⟨t10, ez⟩ : ∃ tz : zs_T, tz = zs_i t8 640 l1.toNatClampNeg l5 := ⟨_, rfl⟩
  have h := h t10 ez
  have hP : zs_P g zs_ly zs_N A t10 H := by rw [ez]; exact hP
  clear ez
  refine lv_iconst (v := 1) hx hb dMO_change_53 (by decide) ?_
  exact zr_iret hx hb hr hlk hP hS h dMO_change_54
set_option maxHeartbeats 4000000 in
set_option maxRecDepth 100000 in
theorem zw_MO_forward_169 (hM : zs_M p c cMO_forward 6 s m meth args "ThriftyStoresModel" (some .int) g)   {K : Int32 → zs_T → Prop} {B11 : Int32 → Int32 → zs_T → Prop} (hB11 : ∀ (l1 : Int32) (l2 : Int32) (st : zs_T), B11 l1 l2 st → zs_Go p l e (zs_rm 5 120) s m args below meth c g A (MQ below (zs_Qi g zs_ly zs_N A K) args s 0 0 A) 6 11 [(0, .ref (g.2.1 635)), (1, .int l1), (2, .int l2)] [] st) (l1 : Int32) (l2 : Int32) (st : zs_T) (h : zf_MO_forward_169 K B11 l1 l2 st) : zs_Go p l e (zs_rm 5 120) s m args below meth c g A (MQ below (zs_Qi g zs_ly zs_N A K) args s 0 0 A) 6 169 [(0, .ref (g.2.1 635)), (1, .int l1), (2, .int l2)] [] st := by
  obtain ⟨hx, hb, hml, hr, hlk, hts, hown, hK⟩ := id hM
  intro ls H locs hl hP hS
  unfold zf_MO_forward_169 at h
  refine lv_iinc (k := 2) (v := l2 + 1) hx hb dMO_forward_169 hl rfl (by rw [show Int32.ofInt (1) = 1 from by decide]) (by decide) rfl (fun ls hl => ?_)
  have hl : lv_has ls 6 [(2, .int (l2 + 1)), (0, .ref (g.2.1 635)), (1, .int l1)] := hl
  refine lv_goto (tgt := 11) hx hb dMO_forward_172 rfl ?_
  exact hB11 l1 (l2 + 1) st h ls H locs (lv_sub hl [1, 2, 0] rfl) hP hS
set_option maxHeartbeats 4000000 in
set_option maxRecDepth 100000 in
theorem zw_MO_forward_117 (hM : zs_M p c cMO_forward 6 s m meth args "ThriftyStoresModel" (some .int) g)   {K : Int32 → zs_T → Prop} {B11 : Int32 → Int32 → zs_T → Prop} (hB11 : ∀ (l1 : Int32) (l2 : Int32) (st : zs_T), B11 l1 l2 st → zs_Go p l e (zs_rm 5 120) s m args below meth c g A (MQ below (zs_Qi g zs_ly zs_N A K) args s 0 0 A) 6 11 [(0, .ref (g.2.1 635)), (1, .int l1), (2, .int l2)] [] st) (l2 : Int32) (s0 : Int32) (st : zs_T) (h : zf_MO_forward_117 K B11 l2 s0 st) : zs_Go p l e (zs_rm 5 120) s m args below meth c g A (MQ below (zs_Qi g zs_ly zs_N A K) args s 0 0 A) 6 117 [(0, .ref (g.2.1 635)), (2, .int l2)] [.int s0] st := by
  obtain ⟨hx, hb, hml, hr, hlk, hts, hown, hK⟩ := id hM
  intro ls H locs hl hP hS
  unfold zf_MO_forward_117 at h
  refine lv_istore_n hx hb dMO_forward_117 rfl hl (by decide) rfl (fun ls hl => ?_)
  have hl : lv_has ls 6 [(1, .int s0), (0, .ref (g.2.1 635)), (2, .int l2)] := hl
  refine lv_goto (tgt := 169) hx hb dMO_forward_118 rfl ?_
  exact zw_MO_forward_169 hM hB11 s0 l2 st h ls H locs (lv_sub hl [1, 0, 2] rfl) hP hS
set_option maxHeartbeats 4000000 in
set_option maxRecDepth 100000 in
theorem zw_MO_forward_94 (hM : zs_M p c cMO_forward 6 s m meth args "ThriftyStoresModel" (some .int) g)   {K : Int32 → zs_T → Prop} {B11 : Int32 → Int32 → zs_T → Prop} (hB11 : ∀ (l1 : Int32) (l2 : Int32) (st : zs_T), B11 l1 l2 st → zs_Go p l e (zs_rm 5 120) s m args below meth c g A (MQ below (zs_Qi g zs_ly zs_N A K) args s 0 0 A) 6 11 [(0, .ref (g.2.1 635)), (1, .int l1), (2, .int l2)] [] st) (l1 : Int32) (l2 : Int32) (l3 : Int32) (l5 : Int32) (st : zs_T) (h : zf_MO_forward_94 K B11 l1 l2 l3 l5 st) : zs_Go p l e (zs_rm 5 120) s m args below meth c g A (MQ below (zs_Qi g zs_ly zs_N A K) args s 0 0 A) 6 94 [(0, .ref (g.2.1 635)), (1, .int l1), (2, .int l2), (3, .int l3), (5, .int l5)] [] st := by
  obtain ⟨hx, hb, hml, hr, hlk, hts, hown, hK⟩ := id hM
  intro ls H locs hl hP hS
  unfold zf_MO_forward_94 at h
  refine lv_iload hx hb dMO_forward_94 (lv_at hl 4 rfl) ?_
  refine lv_bipush (v := 16) hx hb dMO_forward_96 (by decide) ?_
  refine lv_icmp_ge (tgt := 116) hx hb dMO_forward_98 rfl (fun hc => ?_) (fun hc => ?_)
  · have h := h.1 hc
    clear hc
    refine lv_iload_n hx hb dMO_forward_116 rfl (lv_at hl 1 rfl) ?_
    exact zw_MO_forward_117 hM hB11 l2 l1 st h ls H locs (lv_sub hl [0, 2] rfl) hP hS
  · have h := h.2 hc
    clear hc
    refine lv_iload_n hx hb dMO_forward_101 rfl (lv_at hl 1 rfl) ?_
    refine lv_aload_n hx hb dMO_forward_102 rfl (lv_at hl 0 rfl) ?_
    refine lv_iload_n hx hb dMO_forward_103 rfl (lv_at hl 2 rfl) ?_
    refine lv_iconst (v := 1) hx hb dMO_forward_104 (by decide) ?_
    refine lv_iload_n hx hb dMO_forward_105 rfl (lv_at hl 3 rfl) ?_
    refine lv_iload hx hb dMO_forward_106 (lv_at hl 4 rfl) ?_
    refine lv_iconst (v := 1) hx hb dMO_forward_108 (by decide) ?_
    refine zr_calli (va_runV (As := [.int l2, .int 1, .int l3, .int l5, .int 1]) (rest := [.int l1]) ⟨hx, hb, hml, hown, hts⟩ (zc_MO_change l g A  h) (cwV 5 hts (zs_gV zq_933 zq_935 zp_55 zq_8 zq_936) rfl rfl rfl ⟨rfl, by decide, by decide, by decide +kernel⟩ ⟨Nat.le_of_ble_eq_true rfl, Nat.le_of_ble_eq_true rfl⟩) (zs_preV zs_nwk hK hP zl_635.1 zl_635.2 rfl) rfl rfl hl.1 rfl (lv_room (Nat.le_of_ble_eq_true rfl)) dMO_forward_109 ⟨Nat.le_refl _, Nat.le_refl _⟩) hS (fun r502 u501 H locs h hP hS => ?_)
    refine lv_iadd hx hb dMO_forward_112 ?_
    refine lv_goto (tgt := 117) hx hb dMO_forward_113 rfl ?_
    exact zw_MO_forward_117 hM hB11 l2 (l1 + r502) u501 h ls H locs (lv_sub hl [0, 2] rfl) hP hS
set_option maxHeartbeats 4000000 in
set_option maxRecDepth 100000 in
theorem zw_MO_forward_69_s (hM : zs_M p c cMO_forward 6 s m meth args "ThriftyStoresModel" (some .int) g)   {K : Int32 → zs_T → Prop} {B11 : Int32 → Int32 → zs_T → Prop} {B69 : Int32 → Int32 → Int32 → Int32 → Int32 → zs_T → Prop} (hB11 : ∀ (l1 : Int32) (l2 : Int32) (st : zs_T), B11 l1 l2 st → zs_Go p l e (zs_rm 5 120) s m args below meth c g A (MQ below (zs_Qi g zs_ly zs_N A K) args s 0 0 A) 6 11 [(0, .ref (g.2.1 635)), (1, .int l1), (2, .int l2)] [] st) (hB69 : ∀ (l1 : Int32) (l2 : Int32) (l3 : Int32) (l4 : Int32) (l5 : Int32) (st : zs_T), B69 l1 l2 l3 l4 l5 st → zs_Go p l e (zs_rm 5 120) s m args below meth c g A (MQ below (zs_Qi g zs_ly zs_N A K) args s 0 0 A) 6 69 [(0, .ref (g.2.1 635)), (1, .int l1), (2, .int l2), (3, .int l3), (4, .int l4), (5, .int l5)] [] st) (l1 : Int32) (l2 : Int32) (l3 : Int32) (l4 : Int32) (l5 : Int32) (st : zs_T) (h : zf_MO_forward_69_s K B11 B69 l1 l2 l3 l4 l5 st) : zs_Go p l e (zs_rm 5 120) s m args below meth c g A (MQ below (zs_Qi g zs_ly zs_N A K) args s 0 0 A) 6 69 [(0, .ref (g.2.1 635)), (1, .int l1), (2, .int l2), (3, .int l3), (4, .int l4), (5, .int l5)] [] st := by
  obtain ⟨hx, hb, hml, hr, hlk, hts, hown, hK⟩ := id hM
  intro ls H locs hl hP hS
  unfold zf_MO_forward_69_s at h
  refine lv_iload hx hb dMO_forward_69 (lv_at hl 5 rfl) ?_
  refine lv_bipush (v := 16) hx hb dMO_forward_71 (by decide) ?_
  refine lv_icmp_ge (tgt := 94) hx hb dMO_forward_73 rfl (fun hc => ?_) (fun hc => ?_)
  · have h := h.1 hc
    clear hc
    exact zw_MO_forward_94 hM hB11 l1 l2 l3 l5 st h ls H locs (lv_sub hl [0, 1, 2, 3, 5] rfl) hP hS
  · have h := h.2 hc
    clear hc
    refine lv_aload_n hx hb dMO_forward_76 rfl (lv_at hl 0 rfl) ?_
    refine lv_iload_n hx hb dMO_forward_77 rfl (lv_at hl 2 rfl) ?_
    refine lv_iload hx hb dMO_forward_78 (lv_at hl 4 rfl) ?_
    refine lv_iload hx hb dMO_forward_80 (lv_at hl 5 rfl) ?_
    refine zr_calli (va_runV (As := [.int l2, .int l4, .int l5]) (rest := []) ⟨hx, hb, hml, hown, hts⟩ (zc_MO_held l g A  h) (cwV 3 hts (zs_gV zq_893 zq_895 zp_45 zq_8 zq_896) rfl rfl rfl ⟨rfl, by decide, by decide, by decide +kernel⟩ ⟨Nat.le_of_ble_eq_true rfl, Nat.le_of_ble_eq_true rfl⟩) (zs_preV zs_nwk hK hP zl_635.1 zl_635.2 rfl) rfl rfl hl.1 rfl (lv_room (Nat.le_of_ble_eq_true rfl)) dMO_forward_82 ⟨Nat.le_refl _, Nat.le_refl _⟩) hS (fun r302 u301 H locs h hP hS => ?_)
    refine lv_if_ne (tgt := 94) hx hb dMO_forward_85 rfl (fun hc => ?_) (fun hc => ?_)
    · have h := h.1 hc
      clear hc
      exact zw_MO_forward_94 hM hB11 l1 l2 l3 l5 u301 h ls H locs (lv_sub hl [0, 1, 2, 3, 5] rfl) hP hS
    · have h := h.2 hc
      clear hc
      refine lv_iinc (k := 5) (v := l5 + 1) hx hb dMO_forward_88 hl rfl (by rw [show Int32.ofInt (1) = 1 from by decide]) (by decide) rfl (fun ls hl => ?_)
      have hl : lv_has ls 6 [(5, .int (l5 + 1)), (0, .ref (g.2.1 635)), (1, .int l1), (2, .int l2), (3, .int l3), (4, .int l4)] := hl
      refine lv_goto (tgt := 69) hx hb dMO_forward_91 rfl ?_
      exact hB69 l1 l2 l3 l4 (l5 + 1) u301 h ls H locs (lv_sub hl [1, 2, 3, 4, 5, 0] rfl) hP hS
theorem zw_MO_forward_69 (hM : zs_M p c cMO_forward 6 s m meth args "ThriftyStoresModel" (some .int) g)   {K : Int32 → zs_T → Prop} {B11 : Int32 → Int32 → zs_T → Prop} (hB11 : ∀ (l1 : Int32) (l2 : Int32) (st : zs_T), B11 l1 l2 st → zs_Go p l e (zs_rm 5 120) s m args below meth c g A (MQ below (zs_Qi g zs_ly zs_N A K) args s 0 0 A) 6 11 [(0, .ref (g.2.1 635)), (1, .int l1), (2, .int l2)] [] st) : ∀ (n : Nat) (l1 : Int32) (l2 : Int32) (l3 : Int32) (l4 : Int32) (l5 : Int32) (st : zs_T), zf_MO_forward_69 K B11 n l1 l2 l3 l4 l5 st → zs_Go p l e (zs_rm 5 120) s m args below meth c g A (MQ below (zs_Qi g zs_ly zs_N A K) args s 0 0 A) 6 69 [(0, .ref (g.2.1 635)), (1, .int l1), (2, .int l2), (3, .int l3), (4, .int l4), (5, .int l5)] [] st := by
  intro n
  induction n with
  | zero => intro l1 l2 l3 l4 l5 st h; exact False.elim h
  | succ n ih => intro l1 l2 l3 l4 l5 st h; exact zw_MO_forward_69_s hM hB11 ih l1 l2 l3 l4 l5 st h
set_option maxHeartbeats 4000000 in
set_option maxRecDepth 100000 in
theorem zw_MO_forward_121 (hM : zs_M p c cMO_forward 6 s m meth args "ThriftyStoresModel" (some .int) g)   {K : Int32 → zs_T → Prop} {B11 : Int32 → Int32 → zs_T → Prop} (hB11 : ∀ (l1 : Int32) (l2 : Int32) (st : zs_T), B11 l1 l2 st → zs_Go p l e (zs_rm 5 120) s m args below meth c g A (MQ below (zs_Qi g zs_ly zs_N A K) args s 0 0 A) 6 11 [(0, .ref (g.2.1 635)), (1, .int l1), (2, .int l2)] [] st) (l1 : Int32) (l2 : Int32) (l3 : Int32) (l4 : Int32) (st : zs_T) (h : zf_MO_forward_121 K B11 l1 l2 l3 l4 st) : zs_Go p l e (zs_rm 5 120) s m args below meth c g A (MQ below (zs_Qi g zs_ly zs_N A K) args s 0 0 A) 6 121 [(0, .ref (g.2.1 635)), (1, .int l1), (2, .int l2), (3, .int l3), (4, .int l4)] [] st := by
  obtain ⟨hx, hb, hml, hr, hlk, hts, hown, hK⟩ := id hM
  intro ls H locs hl hP hS
  unfold zf_MO_forward_121 at h
  refine lv_aload_n hx hb dMO_forward_121 rfl (lv_at hl 0 rfl) ?_
  refine zr_getr (b := 643) hx hb hts zi_MO hown hK.1 hP zl_635.1 zl_635.2 rfl 12 (by decide) rfl (hts _ zq_745) dMO_forward_122 ?_
  refine lv_iload_n hx hb dMO_forward_125 rfl (lv_at hl 2 rfl) ?_
  obtain ⟨hi201, h⟩ := h
  refine zr_zald hx hb hK.1 hP zl_643.1 zl_643.2 hi201 dMO_forward_126 ?_
  refine lv_if_eq (tgt := 169) hx hb dMO_forward_127 rfl (fun hc => ?_) (fun hc => ?_)
  · have h := h.1 hc
    clear hc
    exact zw_MO_forward_169 hM hB11 l1 l2 st h ls H locs (lv_sub hl [0, 1, 2] rfl) hP hS
  · have h := h.2 hc
    clear hc
    refine lv_aload_n hx hb dMO_forward_130 rfl (lv_at hl 0 rfl) ?_
    refine zr_getr (b := 636) hx hb hts zi_MO hown hK.1 hP zl_635.1 zl_635.2 rfl 1 (by decide) rfl (hts _ zq_734) dMO_forward_131 ?_
    refine lv_sipush (v := 200) hx hb dMO_forward_134 (by decide) ?_
    refine lv_iload_n hx hb dMO_forward_137 rfl (lv_at hl 2 rfl) ?_
    refine lv_iadd hx hb dMO_forward_138 ?_
    obtain ⟨hi202, h⟩ := h
    refine zr_iald hx hb hK.1 hP zl_636.1 zl_636.2 hi202 dMO_forward_139 ?_
    refine lv_bipush (v := 10) hx hb dMO_forward_140 (by decide) ?_
    refine lv_icmp_ne (tgt := 169) hx hb dMO_forward_142 rfl (fun hc => ?_) (fun hc => ?_)
    · have h := h.1 hc
      clear hc
      exact zw_MO_forward_169 hM hB11 l1 l2 st h ls H locs (lv_sub hl [0, 1, 2] rfl) hP hS
    · have h := h.2 hc
      clear hc
      refine lv_aload_n hx hb dMO_forward_145 rfl (lv_at hl 0 rfl) ?_
      refine lv_iload_n hx hb dMO_forward_146 rfl (lv_at hl 2 rfl) ?_
      refine lv_iload_n hx hb dMO_forward_147 rfl (lv_at hl 3 rfl) ?_
      refine lv_iload hx hb dMO_forward_148 (lv_at hl 4 rfl) ?_
      refine zr_calli (va_runV (As := [.int l2, .int l3, .int l4]) (rest := []) ⟨hx, hb, hml, hown, hts⟩ (zc_MO_held l g A  h) (cwV 3 hts (zs_gV zq_893 zq_895 zp_45 zq_8 zq_896) rfl rfl rfl ⟨rfl, by decide, by decide, by decide +kernel⟩ ⟨Nat.le_of_ble_eq_true rfl, Nat.le_of_ble_eq_true rfl⟩) (zs_preV zs_nwk hK hP zl_635.1 zl_635.2 rfl) rfl rfl hl.1 rfl (lv_room (Nat.le_of_ble_eq_true rfl)) dMO_forward_150 ⟨Nat.le_refl _, Nat.le_refl _⟩) hS (fun r204 u203 H locs h hP hS => ?_)
      refine lv_if_eq (tgt := 169) hx hb dMO_forward_153 rfl (fun hc => ?_) (fun hc => ?_)
      · have h := h.1 hc
        clear hc
        exact zw_MO_forward_169 hM hB11 l1 l2 u203 h ls H locs (lv_sub hl [0, 1, 2] rfl) hP hS
      · have h := h.2 hc
        clear hc
        refine lv_iload_n hx hb dMO_forward_156 rfl (lv_at hl 1 rfl) ?_
        refine lv_aload_n hx hb dMO_forward_157 rfl (lv_at hl 0 rfl) ?_
        refine lv_iload_n hx hb dMO_forward_158 rfl (lv_at hl 2 rfl) ?_
        refine lv_bipush (v := 15) hx hb dMO_forward_159 (by decide) ?_
        refine lv_iconst (v := 0) hx hb dMO_forward_161 (by decide) ?_
        refine lv_iconst (v := 0) hx hb dMO_forward_162 (by decide) ?_
        refine lv_iconst (v := 2) hx hb dMO_forward_163 (by decide) ?_
        refine zr_calli (va_runV (As := [.int l2, .int 15, .int 0, .int 0, .int 2]) (rest := [.int l1]) ⟨hx, hb, hml, hown, hts⟩ (zc_MO_change l g A  h) (cwV 5 hts (zs_gV zq_933 zq_935 zp_55 zq_8 zq_936) rfl rfl rfl ⟨rfl, by decide, by decide, by decide +kernel⟩ ⟨Nat.le_of_ble_eq_true rfl, Nat.le_of_ble_eq_true rfl⟩) (zs_preV zs_nwk hK hP zl_635.1 zl_635.2 rfl) rfl rfl hl.1 rfl (lv_room (Nat.le_of_ble_eq_true rfl)) dMO_forward_164 ⟨Nat.le_refl _, Nat.le_refl _⟩) hS (fun r206 u205 H locs h hP hS => ?_)
        refine lv_iadd hx hb dMO_forward_167 ?_
        refine lv_istore_n hx hb dMO_forward_168 rfl hl (by decide) rfl (fun ls hl => ?_)
        have hl : lv_has ls 6 [(1, .int (l1 + r206)), (0, .ref (g.2.1 635)), (2, .int l2), (3, .int l3), (4, .int l4)] := hl
        exact zw_MO_forward_169 hM hB11 (l1 + r206) l2 u205 h ls H locs (lv_sub hl [1, 0, 2] rfl) hP hS
set_option maxHeartbeats 4000000 in
set_option maxRecDepth 100000 in
theorem zw_MO_forward_11_s (hM : zs_M p c cMO_forward 6 s m meth args "ThriftyStoresModel" (some .int) g)   {K : Int32 → zs_T → Prop}  {B11 : Int32 → Int32 → zs_T → Prop}  (hB11 : ∀ (l1 : Int32) (l2 : Int32) (st : zs_T), B11 l1 l2 st → zs_Go p l e (zs_rm 5 120) s m args below meth c g A (MQ below (zs_Qi g zs_ly zs_N A K) args s 0 0 A) 6 11 [(0, .ref (g.2.1 635)), (1, .int l1), (2, .int l2)] [] st) (l1 : Int32) (l2 : Int32) (st : zs_T) (h : zf_MO_forward_11_s K B11 l1 l2 st) : zs_Go p l e (zs_rm 5 120) s m args below meth c g A (MQ below (zs_Qi g zs_ly zs_N A K) args s 0 0 A) 6 11 [(0, .ref (g.2.1 635)), (1, .int l1), (2, .int l2)] [] st := by
  obtain ⟨hx, hb, hml, hr, hlk, hts, hown, hK⟩ := id hM
  intro ls H locs hl hP hS
  unfold zf_MO_forward_11_s at h
  refine lv_iload_n hx hb dMO_forward_11 rfl (lv_at hl 2 rfl) ?_
  refine lv_aload_n hx hb dMO_forward_12 rfl (lv_at hl 0 rfl) ?_
  refine zr_geti hx hb hts zi_MO hown hK.1 hP zl_635.1 zl_635.2 rfl 5 (by decide) rfl (hts _ zq_738) dMO_forward_13 ?_
  refine lv_icmp_ge (tgt := 175) hx hb dMO_forward_16 rfl (fun hc => ?_) (fun hc => ?_)
  · have h := h.1 hc
    clear hc
    refine lv_iload_n hx hb dMO_forward_175 rfl (lv_at hl 1 rfl) ?_
    exact zr_iret hx hb hr hlk hP hS h dMO_forward_176
  · have h := h.2 hc
    clear hc
    refine lv_aload_n hx hb dMO_forward_19 rfl (lv_at hl 0 rfl) ?_
    refine zr_getr (b := 637) hx hb hts zi_MO hown hK.1 hP zl_635.1 zl_635.2 rfl 2 (by decide) rfl (hts _ zq_735) dMO_forward_20 ?_
    refine lv_sipush (v := 200) hx hb dMO_forward_23 (by decide) ?_
    refine lv_iload_n hx hb dMO_forward_26 rfl (lv_at hl 2 rfl) ?_
    refine lv_iadd hx hb dMO_forward_27 ?_
    obtain ⟨hi101, h⟩ := h
    refine zr_iald hx hb hK.1 hP zl_637.1 zl_637.2 hi101 dMO_forward_28 ?_
    refine lv_istore_n hx hb dMO_forward_29 rfl hl (by decide) rfl (fun ls hl => ?_)
    have hl : lv_has ls 6 [(3, .int (st.1 637 (200 + l2).toNatClampNeg)), (0, .ref (g.2.1 635)), (1, .int l1), (2, .int l2)] := hl
    refine lv_aload_n hx hb dMO_forward_30 rfl (lv_at hl 1 rfl) ?_
    refine zr_getr (b := 638) hx hb hts zi_MO hown hK.1 hP zl_635.1 zl_635.2 rfl 3 (by decide) rfl (hts _ zq_736) dMO_forward_31 ?_
    refine lv_sipush (v := 200) hx hb dMO_forward_34 (by decide) ?_
    refine lv_iload_n hx hb dMO_forward_37 rfl (lv_at hl 3 rfl) ?_
    refine lv_iadd hx hb dMO_forward_38 ?_
    obtain ⟨hi102, h⟩ := h
    refine zr_iald hx hb hK.1 hP zl_638.1 zl_638.2 hi102 dMO_forward_39 ?_
    refine lv_istore hx hb dMO_forward_40 hl (by decide) rfl (fun ls hl => ?_)
    have hl : lv_has ls 6 [(4, .int (st.1 638 (200 + l2).toNatClampNeg)), (3, .int (st.1 637 (200 + l2).toNatClampNeg)), (0, .ref (g.2.1 635)), (1, .int l1), (2, .int l2)] := hl
    refine lv_aload_n hx hb dMO_forward_42 rfl (lv_at hl 2 rfl) ?_
    refine zr_getr (b := 643) hx hb hts zi_MO hown hK.1 hP zl_635.1 zl_635.2 rfl 12 (by decide) rfl (hts _ zq_745) dMO_forward_43 ?_
    refine lv_iload_n hx hb dMO_forward_46 rfl (lv_at hl 4 rfl) ?_
    obtain ⟨hi103, h⟩ := h
    refine zr_zald hx hb hK.1 hP zl_643.1 zl_643.2 hi103 dMO_forward_47 ?_
    refine lv_if_eq (tgt := 121) hx hb dMO_forward_48 rfl (fun hc => ?_) (fun hc => ?_)
    · have h := h.1 hc
      clear hc
      exact zw_MO_forward_121 hM hB11 l1 l2 (st.1 637 (200 + l2).toNatClampNeg) (st.1 638 (200 + l2).toNatClampNeg) st h ls H locs (lv_sub hl [2, 3, 4, 1, 0] rfl) hP hS
    · have h := h.2 hc
      clear hc
      refine lv_aload_n hx hb dMO_forward_51 rfl (lv_at hl 2 rfl) ?_
      refine zr_getr (b := 636) hx hb hts zi_MO hown hK.1 hP zl_635.1 zl_635.2 rfl 1 (by decide) rfl (hts _ zq_734) dMO_forward_52 ?_
      refine lv_sipush (v := 200) hx hb dMO_forward_55 (by decide) ?_
      refine lv_iload_n hx hb dMO_forward_58 rfl (lv_at hl 4 rfl) ?_
      refine lv_iadd hx hb dMO_forward_59 ?_
      obtain ⟨hi104, h⟩ := h
      refine zr_iald hx hb hK.1 hP zl_636.1 zl_636.2 hi104 dMO_forward_60 ?_
      refine lv_bipush (v := 9) hx hb dMO_forward_61 (by decide) ?_
      refine lv_icmp_ne (tgt := 121) hx hb dMO_forward_63 rfl (fun hc => ?_) (fun hc => ?_)
      · have h := h.1 hc
        clear hc
        exact zw_MO_forward_121 hM hB11 l1 l2 (st.1 637 (200 + l2).toNatClampNeg) (st.1 638 (200 + l2).toNatClampNeg) st h ls H locs (lv_sub hl [2, 3, 4, 1, 0] rfl) hP hS
      · have h := h.2 hc
        clear hc
        refine lv_iconst (v := 0) hx hb dMO_forward_66 (by decide) ?_
        refine lv_istore hx hb dMO_forward_67 hl (by decide) rfl (fun ls hl => ?_)
        have hl : lv_has ls 6 [(5, .int 0), (4, .int (st.1 638 (200 + l2).toNatClampNeg)), (3, .int (st.1 637 (200 + l2).toNatClampNeg)), (0, .ref (g.2.1 635)), (1, .int l1), (2, .int l2)] := hl
        obtain ⟨n, h⟩ := h
        exact zw_MO_forward_69 hM hB11 n l1 l2 (st.1 637 (200 + l2).toNatClampNeg) (st.1 638 (200 + l2).toNatClampNeg) 0 st h ls H locs (lv_sub hl [3, 4, 5, 2, 1, 0] rfl) hP hS
theorem zw_MO_forward_11 (hM : zs_M p c cMO_forward 6 s m meth args "ThriftyStoresModel" (some .int) g)   {K : Int32 → zs_T → Prop}   : ∀ (n : Nat) (l1 : Int32) (l2 : Int32) (st : zs_T), zf_MO_forward_11 K n l1 l2 st → zs_Go p l e (zs_rm 5 120) s m args below meth c g A (MQ below (zs_Qi g zs_ly zs_N A K) args s 0 0 A) 6 11 [(0, .ref (g.2.1 635)), (1, .int l1), (2, .int l2)] [] st := by
  intro n
  induction n with
  | zero => intro l1 l2 st h; exact False.elim h
  | succ n ih => intro l1 l2 st h; exact zw_MO_forward_11_s hM  ih l1 l2 st h
set_option maxHeartbeats 4000000 in
set_option maxRecDepth 100000 in
theorem zc_MO_forward (l : Launch) (g : zs_G) (A : Nat → Prop)   {st : zs_T} {K : Int32 → zs_T → Prop} (h : zf_MO_forward  st K) : Met l yMO_forward (.code yMO_forward cMO_forward 6 (some .int) :: zs_tb) (zs_rm 5 120) (zs_Pc zs_nl g zs_ly zs_N A [.ref (g.2.1 635)] st) (zs_Qi g zs_ly zs_N A K) 0 0 A := by
  refine zs_met (cc := cMO_forward) (maxL := 6) (ret := (some .int)) (by decide) (Nat.le_of_ble_eq_true rfl) (fun p e s m below meth c hM => ?_)
  have hM : zs_M p c cMO_forward 6 s m meth [.ref (g.2.1 635)].toArray "ThriftyStoresModel" (some .int) g := hM
  obtain ⟨hx, hb, hml, hr, hlk, hts, hown, hK⟩ := id hM
  intro ls H locs hl hP hS
  have hl : lv_has ls 6 [(0, .ref (g.2.1 635))] := hl
  unfold zf_MO_forward at h
  refine lv_aload_n hx hb dMO_forward_0 rfl (lv_at hl 0 rfl) ?_
  refine lv_sipush (v := 200) hx hb dMO_forward_1 (by decide) ?_
  refine zr_callv (va_runV (As := [.int 200]) (rest := []) ⟨hx, hb, hml, hown, hts⟩ (zc_MO_find l g A  h) (cwV 1 hts (zs_gV zq_853 zq_855 zp_35 zq_8 zq_856) rfl rfl rfl ⟨rfl, by decide, by decide, by decide +kernel⟩ ⟨Nat.le_of_ble_eq_true rfl, Nat.le_of_ble_eq_true rfl⟩) (zs_preV zs_nwk hK hP zl_635.1 zl_635.2 rfl) rfl rfl hl.1 rfl (lv_room (Nat.le_of_ble_eq_true rfl)) dMO_forward_4 ⟨Nat.le_refl _, Nat.le_refl _⟩) hS (fun u1 H locs h hP hS => ?_)
  refine lv_iconst (v := 0) hx hb dMO_forward_7 (by decide) ?_
  refine lv_istore_n hx hb dMO_forward_8 rfl hl (by decide) rfl (fun ls hl => ?_)
  have hl : lv_has ls 6 [(1, .int 0), (0, .ref (g.2.1 635))] := hl
  refine lv_iconst (v := 0) hx hb dMO_forward_9 (by decide) ?_
  refine lv_istore_n hx hb dMO_forward_10 rfl hl (by decide) rfl (fun ls hl => ?_)
  have hl : lv_has ls 6 [(2, .int 0), (1, .int 0), (0, .ref (g.2.1 635))] := hl
  obtain ⟨n, h⟩ := h
  exact zw_MO_forward_11 hM  n 0 0 u1 h ls H locs (lv_sub hl [2, 1, 0] rfl) hP hS
set_option maxHeartbeats 4000000 in
set_option maxRecDepth 100000 in
theorem zw_MO_dead_95 (hM : zs_M p c cMO_dead 4 s m meth args "ThriftyStoresModel" (some .int) g)   {K : Int32 → zs_T → Prop} {B11 : Int32 → Int32 → zs_T → Prop} (hB11 : ∀ (l1 : Int32) (l2 : Int32) (st : zs_T), B11 l1 l2 st → zs_Go p l e (zs_rm 5 120) s m args below meth c g A (MQ below (zs_Qi g zs_ly zs_N A K) args s 0 0 A) 4 11 [(0, .ref (g.2.1 635)), (1, .int l1), (2, .int l2)] [] st) (l1 : Int32) (l2 : Int32) (st : zs_T) (h : zf_MO_dead_95 K B11 l1 l2 st) : zs_Go p l e (zs_rm 5 120) s m args below meth c g A (MQ below (zs_Qi g zs_ly zs_N A K) args s 0 0 A) 4 95 [(0, .ref (g.2.1 635)), (1, .int l1), (2, .int l2)] [] st := by
  obtain ⟨hx, hb, hml, hr, hlk, hts, hown, hK⟩ := id hM
  intro ls H locs hl hP hS
  unfold zf_MO_dead_95 at h
  refine lv_iinc (k := 2) (v := l2 + 1) hx hb dMO_dead_95 hl rfl (by rw [show Int32.ofInt (1) = 1 from by decide]) (by decide) rfl (fun ls hl => ?_)
  have hl : lv_has ls 4 [(2, .int (l2 + 1)), (0, .ref (g.2.1 635)), (1, .int l1)] := hl
  refine lv_goto (tgt := 11) hx hb dMO_dead_98 rfl ?_
  exact hB11 l1 (l2 + 1) st h ls H locs (lv_sub hl [1, 2, 0] rfl) hP hS
set_option maxHeartbeats 4000000 in
set_option maxRecDepth 100000 in
theorem zw_MO_dead_11_s (hM : zs_M p c cMO_dead 4 s m meth args "ThriftyStoresModel" (some .int) g)   {K : Int32 → zs_T → Prop}  {B11 : Int32 → Int32 → zs_T → Prop}  (hB11 : ∀ (l1 : Int32) (l2 : Int32) (st : zs_T), B11 l1 l2 st → zs_Go p l e (zs_rm 5 120) s m args below meth c g A (MQ below (zs_Qi g zs_ly zs_N A K) args s 0 0 A) 4 11 [(0, .ref (g.2.1 635)), (1, .int l1), (2, .int l2)] [] st) (l1 : Int32) (l2 : Int32) (st : zs_T) (h : zf_MO_dead_11_s K B11 l1 l2 st) : zs_Go p l e (zs_rm 5 120) s m args below meth c g A (MQ below (zs_Qi g zs_ly zs_N A K) args s 0 0 A) 4 11 [(0, .ref (g.2.1 635)), (1, .int l1), (2, .int l2)] [] st := by
  obtain ⟨hx, hb, hml, hr, hlk, hts, hown, hK⟩ := id hM
  intro ls H locs hl hP hS
  unfold zf_MO_dead_11_s at h
  refine lv_iload_n hx hb dMO_dead_11 rfl (lv_at hl 2 rfl) ?_
  refine lv_aload_n hx hb dMO_dead_12 rfl (lv_at hl 0 rfl) ?_
  refine zr_geti hx hb hts zi_MO hown hK.1 hP zl_635.1 zl_635.2 rfl 5 (by decide) rfl (hts _ zq_738) dMO_dead_13 ?_
  refine lv_icmp_ge (tgt := 101) hx hb dMO_dead_16 rfl (fun hc => ?_) (fun hc => ?_)
  · have h := h.1 hc
    clear hc
    refine lv_iload_n hx hb dMO_dead_101 rfl (lv_at hl 1 rfl) ?_
    exact zr_iret hx hb hr hlk hP hS h dMO_dead_102
  · have h := h.2 hc
    clear hc
    refine lv_aload_n hx hb dMO_dead_19 rfl (lv_at hl 0 rfl) ?_
    refine zr_getr (b := 637) hx hb hts zi_MO hown hK.1 hP zl_635.1 zl_635.2 rfl 2 (by decide) rfl (hts _ zq_735) dMO_dead_20 ?_
    refine lv_sipush (v := 200) hx hb dMO_dead_23 (by decide) ?_
    refine lv_iload_n hx hb dMO_dead_26 rfl (lv_at hl 2 rfl) ?_
    refine lv_iadd hx hb dMO_dead_27 ?_
    obtain ⟨hi101, h⟩ := h
    refine zr_iald hx hb hK.1 hP zl_637.1 zl_637.2 hi101 dMO_dead_28 ?_
    refine lv_istore_n hx hb dMO_dead_29 rfl hl (by decide) rfl (fun ls hl => ?_)
    have hl : lv_has ls 4 [(3, .int (st.1 637 (200 + l2).toNatClampNeg)), (0, .ref (g.2.1 635)), (1, .int l1), (2, .int l2)] := hl
    refine lv_aload_n hx hb dMO_dead_30 rfl (lv_at hl 1 rfl) ?_
    refine zr_getr (b := 643) hx hb hts zi_MO hown hK.1 hP zl_635.1 zl_635.2 rfl 12 (by decide) rfl (hts _ zq_745) dMO_dead_31 ?_
    refine lv_iload_n hx hb dMO_dead_34 rfl (lv_at hl 3 rfl) ?_
    obtain ⟨hi102, h⟩ := h
    refine zr_zald hx hb hK.1 hP zl_643.1 zl_643.2 hi102 dMO_dead_35 ?_
    refine lv_if_eq (tgt := 95) hx hb dMO_dead_36 rfl (fun hc => ?_) (fun hc => ?_)
    · have h := h.1 hc
      clear hc
      exact zw_MO_dead_95 hM hB11 l1 l2 st h ls H locs (lv_sub hl [1, 2, 3] rfl) hP hS
    · have h := h.2 hc
      clear hc
      refine lv_aload_n hx hb dMO_dead_39 rfl (lv_at hl 1 rfl) ?_
      refine zr_getr (b := 636) hx hb hts zi_MO hown hK.1 hP zl_635.1 zl_635.2 rfl 1 (by decide) rfl (hts _ zq_734) dMO_dead_40 ?_
      refine lv_sipush (v := 200) hx hb dMO_dead_43 (by decide) ?_
      refine lv_iload_n hx hb dMO_dead_46 rfl (lv_at hl 3 rfl) ?_
      refine lv_iadd hx hb dMO_dead_47 ?_
      obtain ⟨hi103, h⟩ := h
      refine zr_iald hx hb hK.1 hP zl_636.1 zl_636.2 hi103 dMO_dead_48 ?_
      refine lv_bipush (v := 10) hx hb dMO_dead_49 (by decide) ?_
      refine lv_icmp_ne (tgt := 95) hx hb dMO_dead_51 rfl (fun hc => ?_) (fun hc => ?_)
      · have h := h.1 hc
        clear hc
        exact zw_MO_dead_95 hM hB11 l1 l2 st h ls H locs (lv_sub hl [1, 2, 3] rfl) hP hS
      · have h := h.2 hc
        clear hc
        refine lv_aload_n hx hb dMO_dead_54 rfl (lv_at hl 1 rfl) ?_
        refine zr_getr (b := 646) hx hb hts zi_MO hown hK.1 hP zl_635.1 zl_635.2 rfl 15 (by decide) rfl (hts _ zq_748) dMO_dead_55 ?_
        refine lv_bipush (v := 16) hx hb dMO_dead_58 (by decide) ?_
        refine lv_iload_n hx hb dMO_dead_60 rfl (lv_at hl 3 rfl) ?_
        refine lv_imul hx hb dMO_dead_61 ?_
        refine lv_iload_n hx hb dMO_dead_62 rfl (lv_at hl 0 rfl) ?_
        refine lv_iadd hx hb dMO_dead_63 ?_
        obtain ⟨hi104, h⟩ := h
        refine zr_zald hx hb hK.1 hP zl_646.1 zl_646.2 hi104 dMO_dead_64 ?_
        refine lv_if_eq (tgt := 95) hx hb dMO_dead_65 rfl (fun hc => ?_) (fun hc => ?_)
        · have h := h.1 hc
          clear hc
          exact zw_MO_dead_95 hM hB11 l1 l2 st h ls H locs (lv_sub hl [1, 2, 3] rfl) hP hS
        · have h := h.2 hc
          clear hc
          refine lv_aload_n hx hb dMO_dead_68 rfl (lv_at hl 1 rfl) ?_
          refine zr_getr (b := 647) hx hb hts zi_MO hown hK.1 hP zl_635.1 zl_635.2 rfl 16 (by decide) rfl (hts _ zq_749) dMO_dead_69 ?_
          refine lv_bipush (v := 16) hx hb dMO_dead_72 (by decide) ?_
          refine lv_iload_n hx hb dMO_dead_74 rfl (lv_at hl 3 rfl) ?_
          refine lv_imul hx hb dMO_dead_75 ?_
          refine lv_iload_n hx hb dMO_dead_76 rfl (lv_at hl 0 rfl) ?_
          refine lv_iadd hx hb dMO_dead_77 ?_
          obtain ⟨hi105, h⟩ := h
          refine zr_zald hx hb hK.1 hP zl_647.1 zl_647.2 hi105 dMO_dead_78 ?_
          refine lv_if_eq (tgt := 95) hx hb dMO_dead_79 rfl (fun hc => ?_) (fun hc => ?_)
          · have h := h.1 hc
            clear hc
            exact zw_MO_dead_95 hM hB11 l1 l2 st h ls H locs (lv_sub hl [1, 2, 3] rfl) hP hS
          · have h := h.2 hc
            clear hc
            refine lv_iload_n hx hb dMO_dead_82 rfl (lv_at hl 2 rfl) ?_
            refine lv_aload_n hx hb dMO_dead_83 rfl (lv_at hl 1 rfl) ?_
            refine lv_iload_n hx hb dMO_dead_84 rfl (lv_at hl 3 rfl) ?_
            refine lv_bipush (v := 15) hx hb dMO_dead_85 (by decide) ?_
            refine lv_iconst (v := 0) hx hb dMO_dead_87 (by decide) ?_
            refine lv_iconst (v := 0) hx hb dMO_dead_88 (by decide) ?_
            refine lv_iconst (v := 3) hx hb dMO_dead_89 (by decide) ?_
            refine zr_calli (va_runV (As := [.int l2, .int 15, .int 0, .int 0, .int 3]) (rest := [.int l1]) ⟨hx, hb, hml, hown, hts⟩ (zc_MO_change l g A  h) (cwV 5 hts (zs_gV zq_933 zq_935 zp_55 zq_8 zq_936) rfl rfl rfl ⟨rfl, by decide, by decide, by decide +kernel⟩ ⟨Nat.le_of_ble_eq_true rfl, Nat.le_of_ble_eq_true rfl⟩) (zs_preV zs_nwk hK hP zl_635.1 zl_635.2 rfl) rfl rfl hl.1 rfl (lv_room (Nat.le_of_ble_eq_true rfl)) dMO_dead_90 ⟨Nat.le_refl _, Nat.le_refl _⟩) hS (fun r107 u106 H locs h hP hS => ?_)
            refine lv_iadd hx hb dMO_dead_93 ?_
            refine lv_istore_n hx hb dMO_dead_94 rfl hl (by decide) rfl (fun ls hl => ?_)
            have hl : lv_has ls 4 [(1, .int (l1 + r107)), (3, .int (st.1 637 (200 + l2).toNatClampNeg)), (0, .ref (g.2.1 635)), (2, .int l2)] := hl
            exact zw_MO_dead_95 hM hB11 (l1 + r107) l2 u106 h ls H locs (lv_sub hl [2, 0, 3] rfl) hP hS
theorem zw_MO_dead_11 (hM : zs_M p c cMO_dead 4 s m meth args "ThriftyStoresModel" (some .int) g)   {K : Int32 → zs_T → Prop}   : ∀ (n : Nat) (l1 : Int32) (l2 : Int32) (st : zs_T), zf_MO_dead_11 K n l1 l2 st → zs_Go p l e (zs_rm 5 120) s m args below meth c g A (MQ below (zs_Qi g zs_ly zs_N A K) args s 0 0 A) 4 11 [(0, .ref (g.2.1 635)), (1, .int l1), (2, .int l2)] [] st := by
  intro n
  induction n with
  | zero => intro l1 l2 st h; exact False.elim h
  | succ n ih => intro l1 l2 st h; exact zw_MO_dead_11_s hM  ih l1 l2 st h
set_option maxHeartbeats 4000000 in
set_option maxRecDepth 100000 in
theorem zc_MO_dead (l : Launch) (g : zs_G) (A : Nat → Prop)   {st : zs_T} {K : Int32 → zs_T → Prop} (h : zf_MO_dead  st K) : Met l yMO_dead (.code yMO_dead cMO_dead 4 (some .int) :: zs_tb) (zs_rm 5 120) (zs_Pc zs_nl g zs_ly zs_N A [.ref (g.2.1 635)] st) (zs_Qi g zs_ly zs_N A K) 0 0 A := by
  refine zs_met (cc := cMO_dead) (maxL := 4) (ret := (some .int)) (by decide) (Nat.le_of_ble_eq_true rfl) (fun p e s m below meth c hM => ?_)
  have hM : zs_M p c cMO_dead 4 s m meth [.ref (g.2.1 635)].toArray "ThriftyStoresModel" (some .int) g := hM
  obtain ⟨hx, hb, hml, hr, hlk, hts, hown, hK⟩ := id hM
  intro ls H locs hl hP hS
  have hl : lv_has ls 4 [(0, .ref (g.2.1 635))] := hl
  unfold zf_MO_dead at h
  refine lv_aload_n hx hb dMO_dead_0 rfl (lv_at hl 0 rfl) ?_
  refine lv_sipush (v := 200) hx hb dMO_dead_1 (by decide) ?_
  refine zr_callv (va_runV (As := [.int 200]) (rest := []) ⟨hx, hb, hml, hown, hts⟩ (zc_MO_find l g A  h) (cwV 1 hts (zs_gV zq_853 zq_855 zp_35 zq_8 zq_856) rfl rfl rfl ⟨rfl, by decide, by decide, by decide +kernel⟩ ⟨Nat.le_of_ble_eq_true rfl, Nat.le_of_ble_eq_true rfl⟩) (zs_preV zs_nwk hK hP zl_635.1 zl_635.2 rfl) rfl rfl hl.1 rfl (lv_room (Nat.le_of_ble_eq_true rfl)) dMO_dead_4 ⟨Nat.le_refl _, Nat.le_refl _⟩) hS (fun u1 H locs h hP hS => ?_)
  refine lv_iconst (v := 0) hx hb dMO_dead_7 (by decide) ?_
  refine lv_istore_n hx hb dMO_dead_8 rfl hl (by decide) rfl (fun ls hl => ?_)
  have hl : lv_has ls 4 [(1, .int 0), (0, .ref (g.2.1 635))] := hl
  refine lv_iconst (v := 0) hx hb dMO_dead_9 (by decide) ?_
  refine lv_istore_n hx hb dMO_dead_10 rfl hl (by decide) rfl (fun ls hl => ?_)
  have hl : lv_has ls 4 [(2, .int 0), (1, .int 0), (0, .ref (g.2.1 635))] := hl
  obtain ⟨n, h⟩ := h
  exact zw_MO_dead_11 hM  n 0 0 u1 h ls H locs (lv_sub hl [2, 1, 0] rfl) hP hS
set_option maxHeartbeats 4000000 in
set_option maxRecDepth 100000 in
theorem zw_MO_thrift_121_s (hM : zs_M p c cMO_thrift 3 s m meth args "ThriftyStoresModel" (some .int) g)   {K : Int32 → zs_T → Prop}  {B121 : Int32 → Int32 → zs_T → Prop}  (hB121 : ∀ (l1 : Int32) (l2 : Int32) (st : zs_T), B121 l1 l2 st → zs_Go p l e (zs_rm 6 145) s m args below meth c g A (MQ below (zs_Qi g zs_ly zs_N A K) args s 0 0 A) 3 121 [(0, .ref (g.2.1 635)), (1, .int l1), (2, .int l2)] [] st) (l1 : Int32) (l2 : Int32) (st : zs_T) (h : zf_MO_thrift_121_s K B121 l1 l2 st) : zs_Go p l e (zs_rm 6 145) s m args below meth c g A (MQ below (zs_Qi g zs_ly zs_N A K) args s 0 0 A) 3 121 [(0, .ref (g.2.1 635)), (1, .int l1), (2, .int l2)] [] st := by
  obtain ⟨hx, hb, hml, hr, hlk, hts, hown, hK⟩ := id hM
  intro ls H locs hl hP hS
  unfold zf_MO_thrift_121_s at h
  refine lv_iload_n hx hb dMO_thrift_121 rfl (lv_at hl 2 rfl) ?_
  refine lv_if_le (tgt := 154) hx hb dMO_thrift_122 rfl (fun hc => ?_) (fun hc => ?_)
  · have h := h.1 hc
    clear hc
    refine lv_aload_n hx hb dMO_thrift_154 rfl (lv_at hl 0 rfl) ?_
    refine lv_iconst (v := 0) hx hb dMO_thrift_155 (by decide) ?_
    refine zr_callv (va_runV (As := [.int 0]) (rest := []) ⟨hx, hb, hml, hown, hts⟩ (zc_MO_find l g A  h) (cwV 1 hts (zs_gV zq_853 zq_855 zp_35 zq_8 zq_856) rfl rfl rfl ⟨rfl, by decide, by decide, by decide +kernel⟩ ⟨Nat.le_of_ble_eq_true rfl, Nat.le_of_ble_eq_true rfl⟩) (zs_preV zs_nwk hK hP zl_635.1 zl_635.2 rfl) rfl rfl hl.1 rfl (lv_room (Nat.le_of_ble_eq_true rfl)) dMO_thrift_156 ⟨Nat.le_refl _, Nat.le_refl _⟩) hS (fun u301 H locs h hP hS => ?_)
    refine lv_aload_n hx hb dMO_thrift_159 rfl (lv_at hl 0 rfl) ?_
    refine lv_iconst (v := 1) hx hb dMO_thrift_160 (by decide) ?_
    refine zr_put hx hb hts zi_MO tyMO tyMO_ok nmMO hown hK.1 hP hS zl_635.1 zl_635.2 rfl 6 (by decide) rfl (hts _ zq_739) rfl rfl rfl dMO_thrift_161 (fun H locs hP hS => ?_)
    obtain ⟨t302, ez⟩ : ∃ tz : zs_T, tz = zs_i u301 635 6 1 := ⟨_, rfl⟩
    have h := h t302 ez
    have hP : zs_P g zs_ly zs_N A t302 H := by rw [ez]; exact hP
    clear ez
    refine lv_iload_n hx hb dMO_thrift_164 rfl (lv_at hl 1 rfl) ?_
    exact zr_iret hx hb hr hlk hP hS h dMO_thrift_165
  · have h := h.2 hc
    clear hc
    refine lv_aload_n hx hb dMO_thrift_125 rfl (lv_at hl 0 rfl) ?_
    refine zr_calli (va_runV (As := []) (rest := []) ⟨hx, hb, hml, hown, hts⟩ (zc_MO_forward l g A  h) (cwV 0 hts (zs_gV zq_849 zq_851 zp_34 zq_8 zq_852) rfl rfl rfl ⟨rfl, by decide, by decide, by decide +kernel⟩ ⟨Nat.le_of_ble_eq_true rfl, Nat.le_of_ble_eq_true rfl⟩) (zs_preV zs_nwk hK hP zl_635.1 zl_635.2 rfl) rfl rfl hl.1 rfl (lv_room (Nat.le_of_ble_eq_true rfl)) dMO_thrift_126 ⟨Nat.le_refl _, Nat.le_refl _⟩) hS (fun r304 u303 H locs h hP hS => ?_)
    refine lv_istore_n hx hb dMO_thrift_129 rfl hl (by decide) rfl (fun ls hl => ?_)
    have hl : lv_has ls 3 [(2, .int r304), (0, .ref (g.2.1 635)), (1, .int l1)] := hl
    refine lv_iload_n hx hb dMO_thrift_130 rfl (lv_at hl 0 rfl) ?_
    refine lv_aload_n hx hb dMO_thrift_131 rfl (lv_at hl 1 rfl) ?_
    refine zr_calli (va_runV (As := []) (rest := [.int r304]) ⟨hx, hb, hml, hown, hts⟩ (zc_MO_dead l g A  h) (cwV 0 hts (zs_gV zq_937 zq_939 zp_56 zq_8 zq_940) rfl rfl rfl ⟨rfl, by decide, by decide, by decide +kernel⟩ ⟨Nat.le_of_ble_eq_true rfl, Nat.le_of_ble_eq_true rfl⟩) (zs_preV zs_nwk hK hP zl_635.1 zl_635.2 rfl) rfl rfl hl.1 rfl (lv_room (Nat.le_of_ble_eq_true rfl)) dMO_thrift_132 ⟨Nat.le_refl _, Nat.le_refl _⟩) hS (fun r306 u305 H locs h hP hS => ?_)
    refine lv_iadd hx hb dMO_thrift_135 ?_
    refine lv_istore_n hx hb dMO_thrift_136 rfl hl (by decide) rfl (fun ls hl => ?_)
    have hl : lv_has ls 3 [(2, .int (r304 + r306)), (0, .ref (g.2.1 635)), (1, .int l1)] := hl
    refine lv_iload_n hx hb dMO_thrift_137 rfl (lv_at hl 2 rfl) ?_
    refine lv_iload_n hx hb dMO_thrift_138 rfl (lv_at hl 0 rfl) ?_
    refine lv_iadd hx hb dMO_thrift_139 ?_
    refine lv_istore_n hx hb dMO_thrift_140 rfl hl (by decide) rfl (fun ls hl => ?_)
    have hl : lv_has ls 3 [(1, .int (l1 + (r304 + r306))), (2, .int (r304 + r306)), (0, .ref (g.2.1 635))] := hl
    refine lv_aload_n hx hb dMO_thrift_141 rfl (lv_at hl 2 rfl) ?_
    refine lv_dup hx hb dMO_thrift_142 rfl ?_
    refine zr_geti hx hb hts zi_MO hown hK.1 hP zl_635.1 zl_635.2 rfl 7 (by decide) rfl (hts _ zq_740) dMO_thrift_143 ?_
    refine lv_iconst (v := 1) hx hb dMO_thrift_146 (by decide) ?_
    refine lv_iadd hx hb dMO_thrift_147 ?_
    refine zr_put hx hb hts zi_MO tyMO tyMO_ok nmMO hown hK.1 hP hS zl_635.1 zl_635.2 rfl 7 (by decide) rfl (hts _ zq_740) rfl rfl rfl dMO_thrift_148 (fun H locs hP hS => ?_)
    obtain ⟨t307, ez⟩ : ∃ tz : zs_T, tz = zs_i u305 635 7 ((u305.1 635 7) + 1) := ⟨_, rfl⟩
    have h := h t307 ez
    have hP : zs_P g zs_ly zs_N A t307 H := by rw [ez]; exact hP
    clear ez
    refine lv_goto (tgt := 121) hx hb dMO_thrift_151 rfl ?_
    exact hB121 (l1 + (r304 + r306)) (r304 + r306) t307 h ls H locs (lv_sub hl [2, 0, 1] rfl) hP hS
theorem zw_MO_thrift_121 (hM : zs_M p c cMO_thrift 3 s m meth args "ThriftyStoresModel" (some .int) g)   {K : Int32 → zs_T → Prop}   : ∀ (n : Nat) (l1 : Int32) (l2 : Int32) (st : zs_T), zf_MO_thrift_121 K n l1 l2 st → zs_Go p l e (zs_rm 6 145) s m args below meth c g A (MQ below (zs_Qi g zs_ly zs_N A K) args s 0 0 A) 3 121 [(0, .ref (g.2.1 635)), (1, .int l1), (2, .int l2)] [] st := by
  intro n
  induction n with
  | zero => intro l1 l2 st h; exact False.elim h
  | succ n ih => intro l1 l2 st h; exact zw_MO_thrift_121_s hM  ih l1 l2 st h
set_option maxHeartbeats 4000000 in
set_option maxRecDepth 100000 in
theorem zw_MO_thrift_27_s (hM : zs_M p c cMO_thrift 3 s m meth args "ThriftyStoresModel" (some .int) g)   {K : Int32 → zs_T → Prop}  {B27 : Int32 → zs_T → Prop}  (hB27 : ∀ (l1 : Int32) (st : zs_T), B27 l1 st → zs_Go p l e (zs_rm 6 145) s m args below meth c g A (MQ below (zs_Qi g zs_ly zs_N A K) args s 0 0 A) 3 27 [(0, .ref (g.2.1 635)), (1, .int l1)] [] st) (l1 : Int32) (st : zs_T) (h : zf_MO_thrift_27_s K B27 l1 st) : zs_Go p l e (zs_rm 6 145) s m args below meth c g A (MQ below (zs_Qi g zs_ly zs_N A K) args s 0 0 A) 3 27 [(0, .ref (g.2.1 635)), (1, .int l1)] [] st := by
  obtain ⟨hx, hb, hml, hr, hlk, hts, hown, hK⟩ := id hM
  intro ls H locs hl hP hS
  unfold zf_MO_thrift_27_s at h
  refine lv_iload_n hx hb dMO_thrift_27 rfl (lv_at hl 1 rfl) ?_
  refine lv_aload_n hx hb dMO_thrift_28 rfl (lv_at hl 0 rfl) ?_
  refine zr_geti hx hb hts zi_MO hown hK.1 hP zl_635.1 zl_635.2 rfl 5 (by decide) rfl (hts _ zq_738) dMO_thrift_29 ?_
  refine lv_icmp_ge (tgt := 112) hx hb dMO_thrift_32 rfl (fun hc => ?_) (fun hc => ?_)
  · have h := h.1 hc
    clear hc
    refine lv_aload_n hx hb dMO_thrift_112 rfl (lv_at hl 0 rfl) ?_
    refine lv_iconst (v := 0) hx hb dMO_thrift_113 (by decide) ?_
    refine zr_put hx hb hts zi_MO tyMO tyMO_ok nmMO hown hK.1 hP hS zl_635.1 zl_635.2 rfl 7 (by decide) rfl (hts _ zq_740) rfl rfl rfl dMO_thrift_114 (fun H locs hP hS => ?_)
    obtain ⟨t201, ez⟩ : ∃ tz : zs_T, tz = zs_i st 635 7 0 := ⟨_, rfl⟩
    have h := h t201 ez
    have hP : zs_P g zs_ly zs_N A t201 H := by rw [ez]; exact hP
    clear ez
    refine lv_iconst (v := 0) hx hb dMO_thrift_117 (by decide) ?_
    refine lv_istore_n hx hb dMO_thrift_118 rfl hl (by decide) rfl (fun ls hl => ?_)
    have hl : lv_has ls 3 [(1, .int 0), (0, .ref (g.2.1 635))] := hl
    refine lv_iconst (v := 1) hx hb dMO_thrift_119 (by decide) ?_
    refine lv_istore_n hx hb dMO_thrift_120 rfl hl (by decide) rfl (fun ls hl => ?_)
    have hl : lv_has ls 3 [(2, .int 1), (1, .int 0), (0, .ref (g.2.1 635))] := hl
    obtain ⟨n, h⟩ := h
    exact zw_MO_thrift_121 hM  n 0 1 t201 h ls H locs (lv_sub hl [2, 1, 0] rfl) hP hS
  · have h := h.2 hc
    clear hc
    refine lv_aload_n hx hb dMO_thrift_35 rfl (lv_at hl 0 rfl) ?_
    refine zr_getr (b := 636) hx hb hts zi_MO hown hK.1 hP zl_635.1 zl_635.2 rfl 1 (by decide) rfl (hts _ zq_734) dMO_thrift_36 ?_
    refine lv_sipush (v := 200) hx hb dMO_thrift_39 (by decide) ?_
    refine lv_iload_n hx hb dMO_thrift_42 rfl (lv_at hl 1 rfl) ?_
    refine lv_iadd hx hb dMO_thrift_43 ?_
    refine lv_aload_n hx hb dMO_thrift_44 rfl (lv_at hl 0 rfl) ?_
    refine zr_getr (b := 636) hx hb hts zi_MO hown hK.1 hP zl_635.1 zl_635.2 rfl 1 (by decide) rfl (hts _ zq_734) dMO_thrift_45 ?_
    refine lv_iload_n hx hb dMO_thrift_48 rfl (lv_at hl 1 rfl) ?_
    obtain ⟨hi202, h⟩ := h
    refine zr_iald hx hb hK.1 hP zl_636.1 zl_636.2 hi202 dMO_thrift_49 ?_
    obtain ⟨hi203, h⟩ := h
    refine zr_iast hx hb hK.1 hP hS zl_636.1 zl_636.2 hi203 dMO_thrift_50 (fun H locs hP hS => ?_)
    obtain ⟨t204, ez⟩ : ∃ tz : zs_T, tz = zs_i st 636 (200 + l1).toNatClampNeg (st.1 636 l1.toNatClampNeg) := ⟨_, rfl⟩
    have h := h t204 ez
    have hP : zs_P g zs_ly zs_N A t204 H := by rw [ez]; exact hP
    clear ez
    refine lv_aload_n hx hb dMO_thrift_51 rfl (lv_at hl 0 rfl) ?_
    refine zr_getr (b := 637) hx hb hts zi_MO hown hK.1 hP zl_635.1 zl_635.2 rfl 2 (by decide) rfl (hts _ zq_735) dMO_thrift_52 ?_
    refine lv_sipush (v := 200) hx hb dMO_thrift_55 (by decide) ?_
    refine lv_iload_n hx hb dMO_thrift_58 rfl (lv_at hl 1 rfl) ?_
    refine lv_iadd hx hb dMO_thrift_59 ?_
    refine lv_aload_n hx hb dMO_thrift_60 rfl (lv_at hl 0 rfl) ?_
    refine zr_getr (b := 637) hx hb hts zi_MO hown hK.1 hP zl_635.1 zl_635.2 rfl 2 (by decide) rfl (hts _ zq_735) dMO_thrift_61 ?_
    refine lv_iload_n hx hb dMO_thrift_64 rfl (lv_at hl 1 rfl) ?_
    obtain ⟨hi205, h⟩ := h
    refine zr_iald hx hb hK.1 hP zl_637.1 zl_637.2 hi205 dMO_thrift_65 ?_
    obtain ⟨hi206, h⟩ := h
    refine zr_iast hx hb hK.1 hP hS zl_637.1 zl_637.2 hi206 dMO_thrift_66 (fun H locs hP hS => ?_)
    obtain ⟨t207, ez⟩ : ∃ tz : zs_T, tz = zs_i t204 637 (200 + l1).toNatClampNeg (t204.1 637 l1.toNatClampNeg) := ⟨_, rfl⟩
    have h := h t207 ez
    have hP : zs_P g zs_ly zs_N A t207 H := by rw [ez]; exact hP
    clear ez
    refine lv_aload_n hx hb dMO_thrift_67 rfl (lv_at hl 0 rfl) ?_
    refine zr_getr (b := 638) hx hb hts zi_MO hown hK.1 hP zl_635.1 zl_635.2 rfl 3 (by decide) rfl (hts _ zq_736) dMO_thrift_68 ?_
    refine lv_sipush (v := 200) hx hb dMO_thrift_71 (by decide) ?_
    refine lv_iload_n hx hb dMO_thrift_74 rfl (lv_at hl 1 rfl) ?_
    refine lv_iadd hx hb dMO_thrift_75 ?_
    refine lv_aload_n hx hb dMO_thrift_76 rfl (lv_at hl 0 rfl) ?_
    refine zr_getr (b := 638) hx hb hts zi_MO hown hK.1 hP zl_635.1 zl_635.2 rfl 3 (by decide) rfl (hts _ zq_736) dMO_thrift_77 ?_
    refine lv_iload_n hx hb dMO_thrift_80 rfl (lv_at hl 1 rfl) ?_
    obtain ⟨hi208, h⟩ := h
    refine zr_iald hx hb hK.1 hP zl_638.1 zl_638.2 hi208 dMO_thrift_81 ?_
    obtain ⟨hi209, h⟩ := h
    refine zr_iast hx hb hK.1 hP hS zl_638.1 zl_638.2 hi209 dMO_thrift_82 (fun H locs hP hS => ?_)
    obtain ⟨t210, ez⟩ : ∃ tz : zs_T, tz = zs_i t207 638 (200 + l1).toNatClampNeg (t207.1 638 l1.toNatClampNeg) := ⟨_, rfl⟩
    have h := h t210 ez
    have hP : zs_P g zs_ly zs_N A t210 H := by rw [ez]; exact hP
    clear ez
    refine lv_aload_n hx hb dMO_thrift_83 rfl (lv_at hl 0 rfl) ?_
    refine zr_getr (b := 639) hx hb hts zi_MO hown hK.1 hP zl_635.1 zl_635.2 rfl 4 (by decide) rfl (hts _ zq_737) dMO_thrift_84 ?_
    refine lv_sipush (v := 200) hx hb dMO_thrift_87 (by decide) ?_
    refine lv_iload_n hx hb dMO_thrift_90 rfl (lv_at hl 1 rfl) ?_
    refine lv_iadd hx hb dMO_thrift_91 ?_
    refine lv_aload_n hx hb dMO_thrift_92 rfl (lv_at hl 0 rfl) ?_
    refine zr_getr (b := 639) hx hb hts zi_MO hown hK.1 hP zl_635.1 zl_635.2 rfl 4 (by decide) rfl (hts _ zq_737) dMO_thrift_93 ?_
    refine lv_iload_n hx hb dMO_thrift_96 rfl (lv_at hl 1 rfl) ?_
    obtain ⟨hi211, h⟩ := h
    refine zr_iald hx hb hK.1 hP zl_639.1 zl_639.2 hi211 dMO_thrift_97 ?_
    obtain ⟨hi212, h⟩ := h
    refine zr_iast hx hb hK.1 hP hS zl_639.1 zl_639.2 hi212 dMO_thrift_98 (fun H locs hP hS => ?_)
    obtain ⟨t213, ez⟩ : ∃ tz : zs_T, tz = zs_i t210 639 (200 + l1).toNatClampNeg (t210.1 639 l1.toNatClampNeg) := ⟨_, rfl⟩
    have h := h t213 ez
    have hP : zs_P g zs_ly zs_N A t213 H := by rw [ez]; exact hP
    clear ez
    refine lv_aload_n hx hb dMO_thrift_99 rfl (lv_at hl 0 rfl) ?_
    refine zr_getr (b := 640) hx hb hts zi_MO hown hK.1 hP zl_635.1 zl_635.2 rfl 8 (by decide) rfl (hts _ zq_741) dMO_thrift_100 ?_
    refine lv_iload_n hx hb dMO_thrift_103 rfl (lv_at hl 1 rfl) ?_
    refine lv_iconst (v := 0) hx hb dMO_thrift_104 (by decide) ?_
    obtain ⟨hi214, h⟩ := h
    refine zr_iast hx hb hK.1 hP hS zl_640.1 zl_640.2 hi214 dMO_thrift_105 (fun H locs hP hS => ?_)
    obtain ⟨t215, ez⟩ : ∃ tz : zs_T, tz = zs_i t213 640 l1.toNatClampNeg 0 := ⟨_, rfl⟩
    have h := h t215 ez
    have hP : zs_P g zs_ly zs_N A t215 H := by rw [ez]; exact hP
    clear ez
    refine lv_iinc (k := 1) (v := l1 + 1) hx hb dMO_thrift_106 hl rfl (by rw [show Int32.ofInt (1) = 1 from by decide]) (by decide) rfl (fun ls hl => ?_)
    have hl : lv_has ls 3 [(1, .int (l1 + 1)), (0, .ref (g.2.1 635))] := hl
    refine lv_goto (tgt := 27) hx hb dMO_thrift_109 rfl ?_
    exact hB27 (l1 + 1) t215 h ls H locs (lv_sub hl [1, 0] rfl) hP hS
theorem zw_MO_thrift_27 (hM : zs_M p c cMO_thrift 3 s m meth args "ThriftyStoresModel" (some .int) g)   {K : Int32 → zs_T → Prop}   : ∀ (n : Nat) (l1 : Int32) (st : zs_T), zf_MO_thrift_27 K n l1 st → zs_Go p l e (zs_rm 6 145) s m args below meth c g A (MQ below (zs_Qi g zs_ly zs_N A K) args s 0 0 A) 3 27 [(0, .ref (g.2.1 635)), (1, .int l1)] [] st := by
  intro n
  induction n with
  | zero => intro l1 st h; exact False.elim h
  | succ n ih => intro l1 st h; exact zw_MO_thrift_27_s hM  ih l1 st h
set_option maxHeartbeats 4000000 in
set_option maxRecDepth 100000 in
theorem zw_MO_thrift_13 (hM : zs_M p c cMO_thrift 3 s m meth args "ThriftyStoresModel" (some .int) g)   {K : Int32 → zs_T → Prop}   (s0 : Int32) (st : zs_T) (h : zf_MO_thrift_13 K s0 st) : zs_Go p l e (zs_rm 6 145) s m args below meth c g A (MQ below (zs_Qi g zs_ly zs_N A K) args s 0 0 A) 3 13 [(0, .ref (g.2.1 635))] [.int s0, .ref (g.2.1 635)] st := by
  obtain ⟨hx, hb, hml, hr, hlk, hts, hown, hK⟩ := id hM
  intro ls H locs hl hP hS
  unfold zf_MO_thrift_13 at h
  refine zr_put hx hb hts zi_MO tyMO tyMO_ok nmMO hown hK.1 hP hS zl_635.1 zl_635.2 rfl 0 (by decide) rfl (hts _ zq_733) rfl rfl rfl dMO_thrift_13 (fun H locs hP hS => ?_)
  obtain ⟨t101, ez⟩ : ∃ tz : zs_T, tz = zs_i st 635 0 s0 := ⟨_, rfl⟩
  have h := h t101 ez
  have hP : zs_P g zs_ly zs_N A t101 H := by rw [ez]; exact hP
  clear ez
  refine lv_aload_n hx hb dMO_thrift_16 rfl (lv_at hl 0 rfl) ?_
  refine zr_geti hx hb hts zi_MO hown hK.1 hP zl_635.1 zl_635.2 rfl 0 (by decide) rfl (hts _ zq_733) dMO_thrift_17 ?_
  refine lv_if_le (tgt := 25) hx hb dMO_thrift_20 rfl (fun hc => ?_) (fun hc => ?_)
  · have h := h.1 hc
    clear hc
    refine lv_iconst (v := 0) hx hb dMO_thrift_25 (by decide) ?_
    refine lv_istore_n hx hb dMO_thrift_26 rfl hl (by decide) rfl (fun ls hl => ?_)
    have hl : lv_has ls 3 [(1, .int 0), (0, .ref (g.2.1 635))] := hl
    obtain ⟨n, h⟩ := h
    exact zw_MO_thrift_27 hM  n 0 t101 h ls H locs (lv_sub hl [1, 0] rfl) hP hS
  · have h := h.2 hc
    clear hc
    refine lv_iconst (v := 0) hx hb dMO_thrift_23 (by decide) ?_
    exact zr_iret hx hb hr hlk hP hS h dMO_thrift_24
set_option maxHeartbeats 4000000 in
set_option maxRecDepth 100000 in
theorem zc_MO_thrift (l : Launch) (g : zs_G) (A : Nat → Prop)   {st : zs_T} {K : Int32 → zs_T → Prop} (h : zf_MO_thrift  st K) : Met l yMO_thrift (.code yMO_thrift cMO_thrift 3 (some .int) :: zs_tb) (zs_rm 6 145) (zs_Pc zs_nl g zs_ly zs_N A [.ref (g.2.1 635)] st) (zs_Qi g zs_ly zs_N A K) 0 0 A := by
  refine zs_met (cc := cMO_thrift) (maxL := 3) (ret := (some .int)) (by decide) (Nat.le_of_ble_eq_true rfl) (fun p e s m below meth c hM => ?_)
  have hM : zs_M p c cMO_thrift 3 s m meth [.ref (g.2.1 635)].toArray "ThriftyStoresModel" (some .int) g := hM
  obtain ⟨hx, hb, hml, hr, hlk, hts, hown, hK⟩ := id hM
  intro ls H locs hl hP hS
  have hl : lv_has ls 3 [(0, .ref (g.2.1 635))] := hl
  unfold zf_MO_thrift at h
  refine lv_aload_n hx hb dMO_thrift_0 rfl (lv_at hl 0 rfl) ?_
  refine lv_aload_n hx hb dMO_thrift_1 rfl (lv_at hl 0 rfl) ?_
  refine zr_geti hx hb hts zi_MO hown hK.1 hP zl_635.1 zl_635.2 rfl 6 (by decide) rfl (hts _ zq_739) dMO_thrift_2 ?_
  refine lv_if_eq (tgt := 12) hx hb dMO_thrift_5 rfl (fun hc => ?_) (fun hc => ?_)
  · have h := h.1 hc
    clear hc
    refine lv_iconst (v := 0) hx hb dMO_thrift_12 (by decide) ?_
    exact zw_MO_thrift_13 hM  0 st h ls H locs (lv_sub hl [0] rfl) hP hS
  · have h := h.2 hc
    clear hc
    refine lv_iconst (v := 1) hx hb dMO_thrift_8 (by decide) ?_
    refine lv_goto (tgt := 13) hx hb dMO_thrift_9 rfl ?_
    exact zw_MO_thrift_13 hM  1 st h ls H locs (lv_sub hl [0] rfl) hP hS
end ZW
