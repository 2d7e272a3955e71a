section ZW
variable {p : Program} {l : Launch} {e : Env} {s : State} {m : MethodId} {args : Array Value} {below : List Frame} {meth : Method} {c : Code} {g : zs_G} {A : Nat → Prop}
set_option maxHeartbeats 4000000 in
set_option maxRecDepth 100000 in
theorem zw_MO_moreMay_105 (hM : zs_M p c cMO_moreMay 5 s m meth args "ThriftyStoresModel" (some .boolean) g)   {K : Int32 → zs_T → Prop} {B5 : Int32 → Int32 → Int32 → Int32 → zs_T → Prop} (hB5 : ∀ (l1 : Int32) (l2 : Int32) (l3 : Int32) (l4 : Int32) (st : zs_T), B5 l1 l2 l3 l4 st → zs_Go p l e (zs_rm 0 0) s m args below meth c g A (MQ below (zs_Qi g zs_ly zs_N A K) args s 0 0 A) 5 5 [(0, .ref (g.2.1 635)), (1, .int l1), (2, .int l2), (3, .int l3), (4, .int l4)] [] st) (l1 : Int32) (l2 : Int32) (l3 : Int32) (l4 : Int32) (s0 : Int32) (s1 : Int32) (st : zs_T) (h : zf_MO_moreMay_105 K B5 l1 l2 l3 l4 s0 s1 st) : zs_Go p l e (zs_rm 0 0) s m args below meth c g A (MQ below (zs_Qi g zs_ly zs_N A K) args s 0 0 A) 5 105 [(0, .ref (g.2.1 635)), (1, .int l1), (2, .int l2), (3, .int l3), (4, .int l4)] [.int s0, .int s1, .ref (g.2.1 641)] st := by
  obtain ⟨hx, hb, hml, hr, hlk, hts, hown, hK⟩ := id hM
  intro ls H locs hl hP hS
  unfold zf_MO_moreMay_105 at h
  obtain ⟨hi601, h⟩ := h
  refine zr_zast hx hb hK.1 hP hS zl_641.1 zl_641.2 hi601 dMO_moreMay_105 (fun H locs hP hS => ?_)
  obtain ⟨t602, ez⟩ : ∃ tz : zs_T, tz = zs_i st 641 s1.toNatClampNeg (vp_nar .boolean s0) := ⟨_, rfl⟩
  have h := h t602 ez
  have hP : zs_P g zs_ly zs_N A t602 H := by rw [ez]; exact hP
  clear ez
  refine lv_iinc (k := 4) (v := l4 + 1) hx hb dMO_moreMay_106 hl rfl (by rw [show Int32.ofInt (1) = 1 from by decide]) (by decide) rfl (fun ls hl => ?_)
  have hl : lv_has ls 5 [(4, .int (l4 + 1)), (0, .ref (g.2.1 635)), (1, .int l1), (2, .int l2), (3, .int l3)] := hl
  refine lv_goto (tgt := 5) hx hb dMO_moreMay_109 rfl ?_
  exact hB5 l1 l2 l3 (l4 + 1) t602 h ls H locs (lv_sub hl [1, 2, 3, 4, 0] rfl) hP hS
set_option maxHeartbeats 4000000 in
set_option maxRecDepth 100000 in
theorem zw_MO_moreMay_100 (hM : zs_M p c cMO_moreMay 5 s m meth args "ThriftyStoresModel" (some .boolean) g)   {K : Int32 → zs_T → Prop} {B5 : Int32 → Int32 → Int32 → Int32 → zs_T → Prop} (hB5 : ∀ (l1 : Int32) (l2 : Int32) (l3 : Int32) (l4 : Int32) (st : zs_T), B5 l1 l2 l3 l4 st → zs_Go p l e (zs_rm 0 0) s m args below meth c g A (MQ below (zs_Qi g zs_ly zs_N A K) args s 0 0 A) 5 5 [(0, .ref (g.2.1 635)), (1, .int l1), (2, .int l2), (3, .int l3), (4, .int l4)] [] st) (l1 : Int32) (l2 : Int32) (l3 : Int32) (l4 : Int32) (s0 : Int32) (st : zs_T) (h : zf_MO_moreMay_100 K B5 l1 l2 l3 l4 s0 st) : zs_Go p l e (zs_rm 0 0) s m args below meth c g A (MQ below (zs_Qi g zs_ly zs_N A K) args s 0 0 A) 5 100 [(0, .ref (g.2.1 635)), (1, .int l1), (2, .int l2), (3, .int l3), (4, .int l4)] [.int s0, .ref (g.2.1 641)] st := by
  obtain ⟨hx, hb, hml, hr, hlk, hts, hown, hK⟩ := id hM
  intro ls H locs hl hP hS
  unfold zf_MO_moreMay_100 at h
  refine lv_iconst (v := 1) hx hb dMO_moreMay_100 (by decide) ?_
  refine lv_goto (tgt := 105) hx hb dMO_moreMay_101 rfl ?_
  exact zw_MO_moreMay_105 hM hB5 l1 l2 l3 l4 1 s0 st h ls H locs (lv_sub hl [0, 1, 2, 3, 4] rfl) hP hS
set_option maxHeartbeats 4000000 in
set_option maxRecDepth 100000 in
theorem zw_MO_moreMay_55 (hM : zs_M p c cMO_moreMay 5 s m meth args "ThriftyStoresModel" (some .boolean) g)   {K : Int32 → zs_T → Prop} {B5 : Int32 → Int32 → Int32 → Int32 → zs_T → Prop} (hB5 : ∀ (l1 : Int32) (l2 : Int32) (l3 : Int32) (l4 : Int32) (st : zs_T), B5 l1 l2 l3 l4 st → zs_Go p l e (zs_rm 0 0) s m args below meth c g A (MQ below (zs_Qi g zs_ly zs_N A K) args s 0 0 A) 5 5 [(0, .ref (g.2.1 635)), (1, .int l1), (2, .int l2), (3, .int l3), (4, .int l4)] [] st) (l1 : Int32) (l2 : Int32) (l4 : Int32) (s0 : Int32) (st : zs_T) (h : zf_MO_moreMay_55 K B5 l1 l2 l4 s0 st) : zs_Go p l e (zs_rm 0 0) s m args below meth c g A (MQ below (zs_Qi g zs_ly zs_N A K) args s 0 0 A) 5 55 [(0, .ref (g.2.1 635)), (1, .int l1), (2, .int l2), (4, .int l4)] [.int s0] st := by
  obtain ⟨hx, hb, hml, hr, hlk, hts, hown, hK⟩ := id hM
  intro ls H locs hl hP hS
  unfold zf_MO_moreMay_55 at h
  refine lv_istore_n hx hb dMO_moreMay_55 rfl hl (by decide) rfl (fun ls hl => ?_)
  have hl : lv_has ls 5 [(3, .int s0), (0, .ref (g.2.1 635)), (1, .int l1), (2, .int l2), (4, .int l4)] := hl
  refine lv_aload_n hx hb dMO_moreMay_56 rfl (lv_at hl 1 rfl) ?_
  refine zr_getr (b := 641) hx hb hts zi_MO hown hK.1 hP zl_635.1 zl_635.2 rfl 10 (by decide) rfl (hts _ zq_743) dMO_moreMay_57 ?_
  refine lv_sipush (v := 200) hx hb dMO_moreMay_60 (by decide) ?_
  refine lv_iload_n hx hb dMO_moreMay_63 rfl (lv_at hl 3 rfl) ?_
  refine lv_imul hx hb dMO_moreMay_64 ?_
  refine lv_iload hx hb dMO_moreMay_65 (lv_at hl 4 rfl) ?_
  refine lv_iadd hx hb dMO_moreMay_67 ?_
  refine lv_aload_n hx hb dMO_moreMay_68 rfl (lv_at hl 1 rfl) ?_
  refine zr_getr (b := 641) hx hb hts zi_MO hown hK.1 hP zl_635.1 zl_635.2 rfl 10 (by decide) rfl (hts _ zq_743) dMO_moreMay_69 ?_
  refine lv_sipush (v := 200) hx hb dMO_moreMay_72 (by decide) ?_
  refine lv_iload_n hx hb dMO_moreMay_75 rfl (lv_at hl 3 rfl) ?_
  refine lv_imul hx hb dMO_moreMay_76 ?_
  refine lv_iload hx hb dMO_moreMay_77 (lv_at hl 4 rfl) ?_
  refine lv_iadd hx hb dMO_moreMay_79 ?_
  obtain ⟨hi401, h⟩ := h
  refine zr_zald hx hb hK.1 hP zl_641.1 zl_641.2 hi401 dMO_moreMay_80 ?_
  refine lv_if_ne (tgt := 100) hx hb dMO_moreMay_81 rfl (fun hc => ?_) (fun hc => ?_)
  · have h := h.1 hc
    clear hc
    exact zw_MO_moreMay_100 hM hB5 l1 l2 s0 l4 ((200 * l2) + l4) st h ls H locs (lv_sub hl [1, 2, 3, 0, 4] rfl) hP hS
  · have h := h.2 hc
    clear hc
    refine lv_aload_n hx hb dMO_moreMay_84 rfl (lv_at hl 1 rfl) ?_
    refine zr_getr (b := 641) hx hb hts zi_MO hown hK.1 hP zl_635.1 zl_635.2 rfl 10 (by decide) rfl (hts _ zq_743) dMO_moreMay_85 ?_
    refine lv_sipush (v := 200) hx hb dMO_moreMay_88 (by decide) ?_
    refine lv_iload_n hx hb dMO_moreMay_91 rfl (lv_at hl 2 rfl) ?_
    refine lv_imul hx hb dMO_moreMay_92 ?_
    refine lv_iload hx hb dMO_moreMay_93 (lv_at hl 4 rfl) ?_
    refine lv_iadd hx hb dMO_moreMay_95 ?_
    obtain ⟨hi402, h⟩ := h
    refine zr_zald hx hb hK.1 hP zl_641.1 zl_641.2 hi402 dMO_moreMay_96 ?_
    refine lv_if_eq (tgt := 104) hx hb dMO_moreMay_97 rfl (fun hc => ?_) (fun hc => ?_)
    · have h := h.1 hc
      clear hc
      refine lv_iconst (v := 0) hx hb dMO_moreMay_104 (by decide) ?_
      exact zw_MO_moreMay_105 hM hB5 l1 l2 s0 l4 0 ((200 * l2) + l4) st h ls H locs (lv_sub hl [1, 2, 3, 0, 4] rfl) hP hS
    · have h := h.2 hc
      clear hc
      exact zw_MO_moreMay_100 hM hB5 l1 l2 s0 l4 ((200 * l2) + l4) st h ls H locs (lv_sub hl [1, 2, 3, 0, 4] rfl) hP hS
set_option maxHeartbeats 4000000 in
set_option maxRecDepth 100000 in
theorem zw_MO_moreMay_50 (hM : zs_M p c cMO_moreMay 5 s m meth args "ThriftyStoresModel" (some .boolean) g)   {K : Int32 → zs_T → Prop} {B5 : Int32 → Int32 → Int32 → Int32 → zs_T → Prop} (hB5 : ∀ (l1 : Int32) (l2 : Int32) (l3 : Int32) (l4 : Int32) (st : zs_T), B5 l1 l2 l3 l4 st → zs_Go p l e (zs_rm 0 0) s m args below meth c g A (MQ below (zs_Qi g zs_ly zs_N A K) args s 0 0 A) 5 5 [(0, .ref (g.2.1 635)), (1, .int l1), (2, .int l2), (3, .int l3), (4, .int l4)] [] st) (l1 : Int32) (l2 : Int32) (l4 : Int32) (st : zs_T) (h : zf_MO_moreMay_50 K B5 l1 l2 l4 st) : zs_Go p l e (zs_rm 0 0) s m args below meth c g A (MQ below (zs_Qi g zs_ly zs_N A K) args s 0 0 A) 5 50 [(0, .ref (g.2.1 635)), (1, .int l1), (2, .int l2), (4, .int l4)] [] st := by
  obtain ⟨hx, hb, hml, hr, hlk, hts, hown, hK⟩ := id hM
  intro ls H locs hl hP hS
  unfold zf_MO_moreMay_50 at h
  refine lv_iconst (v := 1) hx hb dMO_moreMay_50 (by decide) ?_
  refine lv_goto (tgt := 55) hx hb dMO_moreMay_51 rfl ?_
  exact zw_MO_moreMay_55 hM hB5 l1 l2 l4 1 st h ls H locs (lv_sub hl [0, 1, 2, 3] rfl) hP hS
set_option maxHeartbeats 4000000 in
set_option maxRecDepth 100000 in
theorem zw_MO_moreMay_54 (hM : zs_M p c cMO_moreMay 5 s m meth args "ThriftyStoresModel" (some .boolean) g)   {K : Int32 → zs_T → Prop} {B5 : Int32 → Int32 → Int32 → Int32 → zs_T → Prop} (hB5 : ∀ (l1 : Int32) (l2 : Int32) (l3 : Int32) (l4 : Int32) (st : zs_T), B5 l1 l2 l3 l4 st → zs_Go p l e (zs_rm 0 0) s m args below meth c g A (MQ below (zs_Qi g zs_ly zs_N A K) args s 0 0 A) 5 5 [(0, .ref (g.2.1 635)), (1, .int l1), (2, .int l2), (3, .int l3), (4, .int l4)] [] st) (l1 : Int32) (l2 : Int32) (l4 : Int32) (st : zs_T) (h : zf_MO_moreMay_54 K B5 l1 l2 l4 st) : zs_Go p l e (zs_rm 0 0) s m args below meth c g A (MQ below (zs_Qi g zs_ly zs_N A K) args s 0 0 A) 5 54 [(0, .ref (g.2.1 635)), (1, .int l1), (2, .int l2), (4, .int l4)] [] st := by
  obtain ⟨hx, hb, hml, hr, hlk, hts, hown, hK⟩ := id hM
  intro ls H locs hl hP hS
  unfold zf_MO_moreMay_54 at h
  refine lv_iconst (v := 0) hx hb dMO_moreMay_54 (by decide) ?_
  exact zw_MO_moreMay_55 hM hB5 l1 l2 l4 0 st h ls H locs (lv_sub hl [0, 1, 2, 3] rfl) hP hS
set_option maxHeartbeats 4000000 in
set_option maxRecDepth 100000 in
theorem zw_MO_moreMay_5_s (hM : zs_M p c cMO_moreMay 5 s m meth args "ThriftyStoresModel" (some .boolean) g)   {K : Int32 → zs_T → Prop}  {B5 : Int32 → Int32 → Int32 → Int32 → zs_T → Prop}  (hB5 : ∀ (l1 : Int32) (l2 : Int32) (l3 : Int32) (l4 : Int32) (st : zs_T), B5 l1 l2 l3 l4 st → zs_Go p l e (zs_rm 0 0) s m args below meth c g A (MQ below (zs_Qi g zs_ly zs_N A K) args s 0 0 A) 5 5 [(0, .ref (g.2.1 635)), (1, .int l1), (2, .int l2), (3, .int l3), (4, .int l4)] [] st) (l1 : Int32) (l2 : Int32) (l3 : Int32) (l4 : Int32) (st : zs_T) (h : zf_MO_moreMay_5_s K B5 l1 l2 l3 l4 st) : zs_Go p l e (zs_rm 0 0) s m args below meth c g A (MQ below (zs_Qi g zs_ly zs_N A K) args s 0 0 A) 5 5 [(0, .ref (g.2.1 635)), (1, .int l1), (2, .int l2), (3, .int l3), (4, .int l4)] [] st := by
  obtain ⟨hx, hb, hml, hr, hlk, hts, hown, hK⟩ := id hM
  intro ls H locs hl hP hS
  unfold zf_MO_moreMay_5_s at h
  refine lv_iload hx hb dMO_moreMay_5 (lv_at hl 4 rfl) ?_
  refine lv_aload_n hx hb dMO_moreMay_7 rfl (lv_at hl 0 rfl) ?_
  refine zr_geti hx hb hts zi_MO hown hK.1 hP zl_635.1 zl_635.2 rfl 5 (by decide) rfl (hts _ zq_738) dMO_moreMay_8 ?_
  refine lv_icmp_ge (tgt := 112) hx hb dMO_moreMay_11 rfl (fun hc => ?_) (fun hc => ?_)
  · have h := h.1 hc
    clear hc
    refine lv_iload_n hx hb dMO_moreMay_112 rfl (lv_at hl 3 rfl) ?_
    exact zr_zret hx hb hr hlk hP hS (zs_bn h.1) h.2 dMO_moreMay_113
  · have h := h.2 hc
    clear hc
    refine lv_iload_n hx hb dMO_moreMay_14 rfl (lv_at hl 3 rfl) ?_
    refine lv_if_ne (tgt := 50) hx hb dMO_moreMay_15 rfl (fun hc => ?_) (fun hc => ?_)
    · have h := h.1 hc
      clear hc
      exact zw_MO_moreMay_50 hM hB5 l1 l2 l4 st h ls H locs (lv_sub hl [0, 1, 2, 4] rfl) hP hS
    · have h := h.2 hc
      clear hc
      refine lv_aload_n hx hb dMO_moreMay_18 rfl (lv_at hl 0 rfl) ?_
      refine zr_getr (b := 641) hx hb hts zi_MO hown hK.1 hP zl_635.1 zl_635.2 rfl 10 (by decide) rfl (hts _ zq_743) dMO_moreMay_19 ?_
      refine lv_sipush (v := 200) hx hb dMO_moreMay_22 (by decide) ?_
      refine lv_iload_n hx hb dMO_moreMay_25 rfl (lv_at hl 1 rfl) ?_
      refine lv_imul hx hb dMO_moreMay_26 ?_
      refine lv_iload hx hb dMO_moreMay_27 (lv_at hl 4 rfl) ?_
      refine lv_iadd hx hb dMO_moreMay_29 ?_
      obtain ⟨hi102, h⟩ := h
      refine zr_zald hx hb hK.1 hP zl_641.1 zl_641.2 hi102 dMO_moreMay_30 ?_
      refine lv_if_eq (tgt := 54) hx hb dMO_moreMay_31 rfl (fun hc => ?_) (fun hc => ?_)
      · have h := h.1 hc
        clear hc
        exact zw_MO_moreMay_54 hM hB5 l1 l2 l4 st h ls H locs (lv_sub hl [0, 1, 2, 4] rfl) hP hS
      · have h := h.2 hc
        clear hc
        refine lv_aload_n hx hb dMO_moreMay_34 rfl (lv_at hl 0 rfl) ?_
        refine zr_getr (b := 641) hx hb hts zi_MO hown hK.1 hP zl_635.1 zl_635.2 rfl 10 (by decide) rfl (hts _ zq_743) dMO_moreMay_35 ?_
        refine lv_sipush (v := 200) hx hb dMO_moreMay_38 (by decide) ?_
        refine lv_iload_n hx hb dMO_moreMay_41 rfl (lv_at hl 2 rfl) ?_
        refine lv_imul hx hb dMO_moreMay_42 ?_
        refine lv_iload hx hb dMO_moreMay_43 (lv_at hl 4 rfl) ?_
        refine lv_iadd hx hb dMO_moreMay_45 ?_
        obtain ⟨hi103, h⟩ := h
        refine zr_zald hx hb hK.1 hP zl_641.1 zl_641.2 hi103 dMO_moreMay_46 ?_
        refine lv_if_ne (tgt := 54) hx hb dMO_moreMay_47 rfl (fun hc => ?_) (fun hc => ?_)
        · have h := h.1 hc
          clear hc
          exact zw_MO_moreMay_54 hM hB5 l1 l2 l4 st h ls H locs (lv_sub hl [0, 1, 2, 4] rfl) hP hS
        · have h := h.2 hc
          clear hc
          exact zw_MO_moreMay_50 hM hB5 l1 l2 l4 st h ls H locs (lv_sub hl [0, 1, 2, 4] rfl) hP hS
theorem zw_MO_moreMay_5 (hM : zs_M p c cMO_moreMay 5 s m meth args "ThriftyStoresModel" (some .boolean) g)   {K : Int32 → zs_T → Prop}   : ∀ (n : Nat) (l1 : Int32) (l2 : Int32) (l3 : Int32) (l4 : Int32) (st : zs_T), zf_MO_moreMay_5 K n l1 l2 l3 l4 st → zs_Go p l e (zs_rm 0 0) s m args below meth c g A (MQ below (zs_Qi g zs_ly zs_N A K) args s 0 0 A) 5 5 [(0, .ref (g.2.1 635)), (1, .int l1), (2, .int l2), (3, .int l3), (4, .int l4)] [] st := by
  intro n
  induction n with
  | zero => intro l1 l2 l3 l4 st h; exact False.elim h
  | succ n ih => intro l1 l2 l3 l4 st h; exact zw_MO_moreMay_5_s hM  ih l1 l2 l3 l4 st h
set_option maxHeartbeats 4000000 in
set_option maxRecDepth 100000 in
theorem zc_MO_moreMay (l : Launch) (g : zs_G) (A : Nat → Prop) {l1 : Int32} {l2 : Int32}  {st : zs_T} {K : Int32 → zs_T → Prop} (h : zf_MO_moreMay l1 l2 st K) : Met l yMO_moreMay (.code yMO_moreMay cMO_moreMay 5 (some .boolean) :: zs_tb) (zs_rm 0 0) (zs_Pc zs_nl g zs_ly zs_N A [.ref (g.2.1 635), .int l1, .int l2] st) (zs_Qi g zs_ly zs_N A K) 0 0 A := by
  refine zs_met (cc := cMO_moreMay) (maxL := 5) (ret := (some .boolean)) (by decide) (Nat.le_of_ble_eq_true rfl) (fun p e s m below meth c hM => ?_)
  have hM : zs_M p c cMO_moreMay 5 s m meth [.ref (g.2.1 635), .int l1, .int l2].toArray "ThriftyStoresModel" (some .boolean) g := hM
  obtain ⟨hx, hb, hml, hr, hlk, hts, hown, hK⟩ := id hM
  intro ls H locs hl hP hS
  have hl : lv_has ls 5 [(0, .ref (g.2.1 635)), (1, .int l1), (2, .int l2)] := hl
  unfold zf_MO_moreMay at h
  refine lv_iconst (v := 0) hx hb dMO_moreMay_0 (by decide) ?_
  refine lv_istore_n hx hb dMO_moreMay_1 rfl hl (by decide) rfl (fun ls hl => ?_)
  have hl : lv_has ls 5 [(3, .int 0), (0, .ref (g.2.1 635)), (1, .int l1), (2, .int l2)] := hl
  refine lv_iconst (v := 0) hx hb dMO_moreMay_2 (by decide) ?_
  refine lv_istore hx hb dMO_moreMay_3 hl (by decide) rfl (fun ls hl => ?_)
  have hl : lv_has ls 5 [(4, .int 0), (3, .int 0), (0, .ref (g.2.1 635)), (1, .int l1), (2, .int l2)] := hl
  obtain ⟨n, h⟩ := h
  exact zw_MO_moreMay_5 hM  n l1 l2 0 0 st h ls H locs (lv_sub hl [2, 3, 4, 1, 0] rfl) hP hS
set_option maxHeartbeats 4000000 in
set_option maxRecDepth 100000 in
theorem zw_MO_moreFromCells_105 (hM : zs_M p c cMO_moreFromCells 5 s m meth args "ThriftyStoresModel" (some .boolean) g)   {K : Int32 → zs_T → Prop} {B5 : Int32 → Int32 → Int32 → Int32 → zs_T → Prop} (hB5 : ∀ (l1 : Int32) (l2 : Int32) (l3 : Int32) (l4 : Int32) (st : zs_T), B5 l1 l2 l3 l4 st → zs_Go p l e (zs_rm 0 0) s m args below meth c g A (MQ below (zs_Qi g zs_ly zs_N A K) args s 0 0 A) 5 5 [(0, .ref (g.2.1 635)), (1, .int l1), (2, .int l2), (3, .int l3), (4, .int l4)] [] st) (l1 : Int32) (l2 : Int32) (l3 : Int32) (l4 : Int32) (s0 : Int32) (s1 : Int32) (st : zs_T) (h : zf_MO_moreFromCells_105 K B5 l1 l2 l3 l4 s0 s1 st) : zs_Go p l e (zs_rm 0 0) s m args below meth c g A (MQ below (zs_Qi g zs_ly zs_N A K) args s 0 0 A) 5 105 [(0, .ref (g.2.1 635)), (1, .int l1), (2, .int l2), (3, .int l3), (4, .int l4)] [.int s0, .int s1, .ref (g.2.1 641)] st := by
  obtain ⟨hx, hb, hml, hr, hlk, hts, hown, hK⟩ := id hM
  intro ls H locs hl hP hS
  unfold zf_MO_moreFromCells_105 at h
  obtain ⟨hi601, h⟩ := h
  refine zr_zast hx hb hK.1 hP hS zl_641.1 zl_641.2 hi601 dMO_moreFromCells_105 (fun H locs hP hS => ?_)
  obtain ⟨t602, ez⟩ : ∃ tz : zs_T, tz = zs_i st 641 s1.toNatClampNeg (vp_nar .boolean s0) := ⟨_, rfl⟩
  have h := h t602 ez
  have hP : zs_P g zs_ly zs_N A t602 H := by rw [ez]; exact hP
  clear ez
  refine lv_iinc (k := 4) (v := l4 + 1) hx hb dMO_moreFromCells_106 hl rfl (by rw [show Int32.ofInt (1) = 1 from by decide]) (by decide) rfl (fun ls hl => ?_)
  have hl : lv_has ls 5 [(4, .int (l4 + 1)), (0, .ref (g.2.1 635)), (1, .int l1), (2, .int l2), (3, .int l3)] := hl
  refine lv_goto (tgt := 5) hx hb dMO_moreFromCells_109 rfl ?_
  exact hB5 l1 l2 l3 (l4 + 1) t602 h ls H locs (lv_sub hl [1, 2, 3, 4, 0] rfl) hP hS
set_option maxHeartbeats 4000000 in
set_option maxRecDepth 100000 in
theorem zw_MO_moreFromCells_100 (hM : zs_M p c cMO_moreFromCells 5 s m meth args "ThriftyStoresModel" (some .boolean) g)   {K : Int32 → zs_T → Prop} {B5 : Int32 → Int32 → Int32 → Int32 → zs_T → Prop} (hB5 : ∀ (l1 : Int32) (l2 : Int32) (l3 : Int32) (l4 : Int32) (st : zs_T), B5 l1 l2 l3 l4 st → zs_Go p l e (zs_rm 0 0) s m args below meth c g A (MQ below (zs_Qi g zs_ly zs_N A K) args s 0 0 A) 5 5 [(0, .ref (g.2.1 635)), (1, .int l1), (2, .int l2), (3, .int l3), (4, .int l4)] [] st) (l1 : Int32) (l2 : Int32) (l3 : Int32) (l4 : Int32) (s0 : Int32) (st : zs_T) (h : zf_MO_moreFromCells_100 K B5 l1 l2 l3 l4 s0 st) : zs_Go p l e (zs_rm 0 0) s m args below meth c g A (MQ below (zs_Qi g zs_ly zs_N A K) args s 0 0 A) 5 100 [(0, .ref (g.2.1 635)), (1, .int l1), (2, .int l2), (3, .int l3), (4, .int l4)] [.int s0, .ref (g.2.1 641)] st := by
  obtain ⟨hx, hb, hml, hr, hlk, hts, hown, hK⟩ := id hM
  intro ls H locs hl hP hS
  unfold zf_MO_moreFromCells_100 at h
  refine lv_iconst (v := 1) hx hb dMO_moreFromCells_100 (by decide) ?_
  refine lv_goto (tgt := 105) hx hb dMO_moreFromCells_101 rfl ?_
  exact zw_MO_moreFromCells_105 hM hB5 l1 l2 l3 l4 1 s0 st h ls H locs (lv_sub hl [0, 1, 2, 3, 4] rfl) hP hS
set_option maxHeartbeats 4000000 in
set_option maxRecDepth 100000 in
theorem zw_MO_moreFromCells_55 (hM : zs_M p c cMO_moreFromCells 5 s m meth args "ThriftyStoresModel" (some .boolean) g)   {K : Int32 → zs_T → Prop} {B5 : Int32 → Int32 → Int32 → Int32 → zs_T → Prop} (hB5 : ∀ (l1 : Int32) (l2 : Int32) (l3 : Int32) (l4 : Int32) (st : zs_T), B5 l1 l2 l3 l4 st → zs_Go p l e (zs_rm 0 0) s m args below meth c g A (MQ below (zs_Qi g zs_ly zs_N A K) args s 0 0 A) 5 5 [(0, .ref (g.2.1 635)), (1, .int l1), (2, .int l2), (3, .int l3), (4, .int l4)] [] st) (l1 : Int32) (l2 : Int32) (l4 : Int32) (s0 : Int32) (st : zs_T) (h : zf_MO_moreFromCells_55 K B5 l1 l2 l4 s0 st) : zs_Go p l e (zs_rm 0 0) s m args below meth c g A (MQ below (zs_Qi g zs_ly zs_N A K) args s 0 0 A) 5 55 [(0, .ref (g.2.1 635)), (1, .int l1), (2, .int l2), (4, .int l4)] [.int s0] st := by
  obtain ⟨hx, hb, hml, hr, hlk, hts, hown, hK⟩ := id hM
  intro ls H locs hl hP hS
  unfold zf_MO_moreFromCells_55 at h
  refine lv_istore_n hx hb dMO_moreFromCells_55 rfl hl (by decide) rfl (fun ls hl => ?_)
  have hl : lv_has ls 5 [(3, .int s0), (0, .ref (g.2.1 635)), (1, .int l1), (2, .int l2), (4, .int l4)] := hl
  refine lv_aload_n hx hb dMO_moreFromCells_56 rfl (lv_at hl 1 rfl) ?_
  refine zr_getr (b := 641) hx hb hts zi_MO hown hK.1 hP zl_635.1 zl_635.2 rfl 10 (by decide) rfl (hts _ zq_743) dMO_moreFromCells_57 ?_
  refine lv_sipush (v := 200) hx hb dMO_moreFromCells_60 (by decide) ?_
  refine lv_iload_n hx hb dMO_moreFromCells_63 rfl (lv_at hl 3 rfl) ?_
  refine lv_imul hx hb dMO_moreFromCells_64 ?_
  refine lv_iload hx hb dMO_moreFromCells_65 (lv_at hl 4 rfl) ?_
  refine lv_iadd hx hb dMO_moreFromCells_67 ?_
  refine lv_aload_n hx hb dMO_moreFromCells_68 rfl (lv_at hl 1 rfl) ?_
  refine zr_getr (b := 641) hx hb hts zi_MO hown hK.1 hP zl_635.1 zl_635.2 rfl 10 (by decide) rfl (hts _ zq_743) dMO_moreFromCells_69 ?_
  refine lv_sipush (v := 200) hx hb dMO_moreFromCells_72 (by decide) ?_
  refine lv_iload_n hx hb dMO_moreFromCells_75 rfl (lv_at hl 3 rfl) ?_
  refine lv_imul hx hb dMO_moreFromCells_76 ?_
  refine lv_iload hx hb dMO_moreFromCells_77 (lv_at hl 4 rfl) ?_
  refine lv_iadd hx hb dMO_moreFromCells_79 ?_
  obtain ⟨hi401, h⟩ := h
  refine zr_zald hx hb hK.1 hP zl_641.1 zl_641.2 hi401 dMO_moreFromCells_80 ?_
  refine lv_if_ne (tgt := 100) hx hb dMO_moreFromCells_81 rfl (fun hc => ?_) (fun hc => ?_)
  · have h := h.1 hc
    clear hc
    exact zw_MO_moreFromCells_100 hM hB5 l1 l2 s0 l4 ((200 * l2) + l4) st h ls H locs (lv_sub hl [1, 2, 3, 0, 4] rfl) hP hS
  · have h := h.2 hc
    clear hc
    refine lv_aload_n hx hb dMO_moreFromCells_84 rfl (lv_at hl 1 rfl) ?_
    refine zr_getr (b := 642) hx hb hts zi_MO hown hK.1 hP zl_635.1 zl_635.2 rfl 11 (by decide) rfl (hts _ zq_744) dMO_moreFromCells_85 ?_
    refine lv_sipush (v := 200) hx hb dMO_moreFromCells_88 (by decide) ?_
    refine lv_iload_n hx hb dMO_moreFromCells_91 rfl (lv_at hl 2 rfl) ?_
    refine lv_imul hx hb dMO_moreFromCells_92 ?_
    refine lv_iload hx hb dMO_moreFromCells_93 (lv_at hl 4 rfl) ?_
    refine lv_iadd hx hb dMO_moreFromCells_95 ?_
    obtain ⟨hi402, h⟩ := h
    refine zr_zald hx hb hK.1 hP zl_642.1 zl_642.2 hi402 dMO_moreFromCells_96 ?_
    refine lv_if_eq (tgt := 104) hx hb dMO_moreFromCells_97 rfl (fun hc => ?_) (fun hc => ?_)
    · have h := h.1 hc
      clear hc
      refine lv_iconst (v := 0) hx hb dMO_moreFromCells_104 (by decide) ?_
      exact zw_MO_moreFromCells_105 hM hB5 l1 l2 s0 l4 0 ((200 * l2) + l4) st h ls H locs (lv_sub hl [1, 2, 3, 0, 4] rfl) hP hS
    · have h := h.2 hc
      clear hc
      exact zw_MO_moreFromCells_100 hM hB5 l1 l2 s0 l4 ((200 * l2) + l4) st h ls H locs (lv_sub hl [1, 2, 3, 0, 4] rfl) hP hS
set_option maxHeartbeats 4000000 in
set_option maxRecDepth 100000 in
theorem zw_MO_moreFromCells_50 (hM : zs_M p c cMO_moreFromCells 5 s m meth args "ThriftyStoresModel" (some .boolean) g)   {K : Int32 → zs_T → Prop} {B5 : Int32 → Int32 → Int32 → Int32 → zs_T → Prop} (hB5 : ∀ (l1 : Int32) (l2 : Int32) (l3 : Int32) (l4 : Int32) (st : zs_T), B5 l1 l2 l3 l4 st → zs_Go p l e (zs_rm 0 0) s m args below meth c g A (MQ below (zs_Qi g zs_ly zs_N A K) args s 0 0 A) 5 5 [(0, .ref (g.2.1 635)), (1, .int l1), (2, .int l2), (3, .int l3), (4, .int l4)] [] st) (l1 : Int32) (l2 : Int32) (l4 : Int32) (st : zs_T) (h : zf_MO_moreFromCells_50 K B5 l1 l2 l4 st) : zs_Go p l e (zs_rm 0 0) s m args below meth c g A (MQ below (zs_Qi g zs_ly zs_N A K) args s 0 0 A) 5 50 [(0, .ref (g.2.1 635)), (1, .int l1), (2, .int l2), (4, .int l4)] [] st := by
  obtain ⟨hx, hb, hml, hr, hlk, hts, hown, hK⟩ := id hM
  intro ls H locs hl hP hS
  unfold zf_MO_moreFromCells_50 at h
  refine lv_iconst (v := 1) hx hb dMO_moreFromCells_50 (by decide) ?_
  refine lv_goto (tgt := 55) hx hb dMO_moreFromCells_51 rfl ?_
  exact zw_MO_moreFromCells_55 hM hB5 l1 l2 l4 1 st h ls H locs (lv_sub hl [0, 1, 2, 3] rfl) hP hS
set_option maxHeartbeats 4000000 in
set_option maxRecDepth 100000 in
theorem zw_MO_moreFromCells_54 (hM : zs_M p c cMO_moreFromCells 5 s m meth args "ThriftyStoresModel" (some .boolean) g)   {K : Int32 → zs_T → Prop} {B5 : Int32 → Int32 → Int32 → Int32 → zs_T → Prop} (hB5 : ∀ (l1 : Int32) (l2 : Int32) (l3 : Int32) (l4 : Int32) (st : zs_T), B5 l1 l2 l3 l4 st → zs_Go p l e (zs_rm 0 0) s m args below meth c g A (MQ below (zs_Qi g zs_ly zs_N A K) args s 0 0 A) 5 5 [(0, .ref (g.2.1 635)), (1, .int l1), (2, .int l2), (3, .int l3), (4, .int l4)] [] st) (l1 : Int32) (l2 : Int32) (l4 : Int32) (st : zs_T) (h : zf_MO_moreFromCells_54 K B5 l1 l2 l4 st) : zs_Go p l e (zs_rm 0 0) s m args below meth c g A (MQ below (zs_Qi g zs_ly zs_N A K) args s 0 0 A) 5 54 [(0, .ref (g.2.1 635)), (1, .int l1), (2, .int l2), (4, .int l4)] [] st := by
  obtain ⟨hx, hb, hml, hr, hlk, hts, hown, hK⟩ := id hM
  intro ls H locs hl hP hS
  unfold zf_MO_moreFromCells_54 at h
  refine lv_iconst (v := 0) hx hb dMO_moreFromCells_54 (by decide) ?_
  exact zw_MO_moreFromCells_55 hM hB5 l1 l2 l4 0 st h ls H locs (lv_sub hl [0, 1, 2, 3] rfl) hP hS
set_option maxHeartbeats 4000000 in
set_option maxRecDepth 100000 in
theorem zw_MO_moreFromCells_5_s (hM : zs_M p c cMO_moreFromCells 5 s m meth args "ThriftyStoresModel" (some .boolean) g)   {K : Int32 → zs_T → Prop}  {B5 : Int32 → Int32 → Int32 → Int32 → zs_T → Prop}  (hB5 : ∀ (l1 : Int32) (l2 : Int32) (l3 : Int32) (l4 : Int32) (st : zs_T), B5 l1 l2 l3 l4 st → zs_Go p l e (zs_rm 0 0) s m args below meth c g A (MQ below (zs_Qi g zs_ly zs_N A K) args s 0 0 A) 5 5 [(0, .ref (g.2.1 635)), (1, .int l1), (2, .int l2), (3, .int l3), (4, .int l4)] [] st) (l1 : Int32) (l2 : Int32) (l3 : Int32) (l4 : Int32) (st : zs_T) (h : zf_MO_moreFromCells_5_s K B5 l1 l2 l3 l4 st) : zs_Go p l e (zs_rm 0 0) s m args below meth c g A (MQ below (zs_Qi g zs_ly zs_N A K) args s 0 0 A) 5 5 [(0, .ref (g.2.1 635)), (1, .int l1), (2, .int l2), (3, .int l3), (4, .int l4)] [] st := by
  obtain ⟨hx, hb, hml, hr, hlk, hts, hown, hK⟩ := id hM
  intro ls H locs hl hP hS
  unfold zf_MO_moreFromCells_5_s at h
  refine lv_iload hx hb dMO_moreFromCells_5 (lv_at hl 4 rfl) ?_
  refine lv_aload_n hx hb dMO_moreFromCells_7 rfl (lv_at hl 0 rfl) ?_
  refine zr_geti hx hb hts zi_MO hown hK.1 hP zl_635.1 zl_635.2 rfl 5 (by decide) rfl (hts _ zq_738) dMO_moreFromCells_8 ?_
  refine lv_icmp_ge (tgt := 112) hx hb dMO_moreFromCells_11 rfl (fun hc => ?_) (fun hc => ?_)
  · have h := h.1 hc
    clear hc
    refine lv_iload_n hx hb dMO_moreFromCells_112 rfl (lv_at hl 3 rfl) ?_
    exact zr_zret hx hb hr hlk hP hS (zs_bn h.1) h.2 dMO_moreFromCells_113
  · have h := h.2 hc
    clear hc
    refine lv_iload_n hx hb dMO_moreFromCells_14 rfl (lv_at hl 3 rfl) ?_
    refine lv_if_ne (tgt := 50) hx hb dMO_moreFromCells_15 rfl (fun hc => ?_) (fun hc => ?_)
    · have h := h.1 hc
      clear hc
      exact zw_MO_moreFromCells_50 hM hB5 l1 l2 l4 st h ls H locs (lv_sub hl [0, 1, 2, 4] rfl) hP hS
    · have h := h.2 hc
      clear hc
      refine lv_aload_n hx hb dMO_moreFromCells_18 rfl (lv_at hl 0 rfl) ?_
      refine zr_getr (b := 642) hx hb hts zi_MO hown hK.1 hP zl_635.1 zl_635.2 rfl 11 (by decide) rfl (hts _ zq_744) dMO_moreFromCells_19 ?_
      refine lv_sipush (v := 200) hx hb dMO_moreFromCells_22 (by decide) ?_
      refine lv_iload_n hx hb dMO_moreFromCells_25 rfl (lv_at hl 1 rfl) ?_
      refine lv_imul hx hb dMO_moreFromCells_26 ?_
      refine lv_iload hx hb dMO_moreFromCells_27 (lv_at hl 4 rfl) ?_
      refine lv_iadd hx hb dMO_moreFromCells_29 ?_
      obtain ⟨hi102, h⟩ := h
      refine zr_zald hx hb hK.1 hP zl_642.1 zl_642.2 hi102 dMO_moreFromCells_30 ?_
      refine lv_if_eq (tgt := 54) hx hb dMO_moreFromCells_31 rfl (fun hc => ?_) (fun hc => ?_)
      · have h := h.1 hc
        clear hc
        exact zw_MO_moreFromCells_54 hM hB5 l1 l2 l4 st h ls H locs (lv_sub hl [0, 1, 2, 4] rfl) hP hS
      · have h := h.2 hc
        clear hc
        refine lv_aload_n hx hb dMO_moreFromCells_34 rfl (lv_at hl 0 rfl) ?_
        refine zr_getr (b := 641) hx hb hts zi_MO hown hK.1 hP zl_635.1 zl_635.2 rfl 10 (by decide) rfl (hts _ zq_743) dMO_moreFromCells_35 ?_
        refine lv_sipush (v := 200) hx hb dMO_moreFromCells_38 (by decide) ?_
        refine lv_iload_n hx hb dMO_moreFromCells_41 rfl (lv_at hl 2 rfl) ?_
        refine lv_imul hx hb dMO_moreFromCells_42 ?_
        refine lv_iload hx hb dMO_moreFromCells_43 (lv_at hl 4 rfl) ?_
        refine lv_iadd hx hb dMO_moreFromCells_45 ?_
        obtain ⟨hi103, h⟩ := h
        refine zr_zald hx hb hK.1 hP zl_641.1 zl_641.2 hi103 dMO_moreFromCells_46 ?_
        refine lv_if_ne (tgt := 54) hx hb dMO_moreFromCells_47 rfl (fun hc => ?_) (fun hc => ?_)
        · have h := h.1 hc
          clear hc
          exact zw_MO_moreFromCells_54 hM hB5 l1 l2 l4 st h ls H locs (lv_sub hl [0, 1, 2, 4] rfl) hP hS
        · have h := h.2 hc
          clear hc
          exact zw_MO_moreFromCells_50 hM hB5 l1 l2 l4 st h ls H locs (lv_sub hl [0, 1, 2, 4] rfl) hP hS
theorem zw_MO_moreFromCells_5 (hM : zs_M p c cMO_moreFromCells 5 s m meth args "ThriftyStoresModel" (some .boolean) g)   {K : Int32 → zs_T → Prop}   : ∀ (n : Nat) (l1 : Int32) (l2 : Int32) (l3 : Int32) (l4 : Int32) (st : zs_T), zf_MO_moreFromCells_5 K n l1 l2 l3 l4 st → zs_Go p l e (zs_rm 0 0) s m args below meth c g A (MQ below (zs_Qi g zs_ly zs_N A K) args s 0 0 A) 5 5 [(0, .ref (g.2.1 635)), (1, .int l1), (2, .int l2), (3, .int l3), (4, .int l4)] [] st := by
  intro n
  induction n with
  | zero => intro l1 l2 l3 l4 st h; exact False.elim h
  | succ n ih => intro l1 l2 l3 l4 st h; exact zw_MO_moreFromCells_5_s hM  ih l1 l2 l3 l4 st h
set_option maxHeartbeats 4000000 in
set_option maxRecDepth 100000 in
theorem zc_MO_moreFromCells (l : Launch) (g : zs_G) (A : Nat → Prop) {l1 : Int32} {l2 : Int32}  {st : zs_T} {K : Int32 → zs_T → Prop} (h : zf_MO_moreFromCells l1 l2 st K) : Met l yMO_moreFromCells (.code yMO_moreFromCells cMO_moreFromCells 5 (some .boolean) :: zs_tb) (zs_rm 0 0) (zs_Pc zs_nl g zs_ly zs_N A [.ref (g.2.1 635), .int l1, .int l2] st) (zs_Qi g zs_ly zs_N A K) 0 0 A := by
  refine zs_met (cc := cMO_moreFromCells) (maxL := 5) (ret := (some .boolean)) (by decide) (Nat.le_of_ble_eq_true rfl) (fun p e s m below meth c hM => ?_)
  have hM : zs_M p c cMO_moreFromCells 5 s m meth [.ref (g.2.1 635), .int l1, .int l2].toArray "ThriftyStoresModel" (some .boolean) g := hM
  obtain ⟨hx, hb, hml, hr, hlk, hts, hown, hK⟩ := id hM
  intro ls H locs hl hP hS
  have hl : lv_has ls 5 [(0, .ref (g.2.1 635)), (1, .int l1), (2, .int l2)] := hl
  unfold zf_MO_moreFromCells at h
  refine lv_iconst (v := 0) hx hb dMO_moreFromCells_0 (by decide) ?_
  refine lv_istore_n hx hb dMO_moreFromCells_1 rfl hl (by decide) rfl (fun ls hl => ?_)
  have hl : lv_has ls 5 [(3, .int 0), (0, .ref (g.2.1 635)), (1, .int l1), (2, .int l2)] := hl
  refine lv_iconst (v := 0) hx hb dMO_moreFromCells_2 (by decide) ?_
  refine lv_istore hx hb dMO_moreFromCells_3 hl (by decide) rfl (fun ls hl => ?_)
  have hl : lv_has ls 5 [(4, .int 0), (3, .int 0), (0, .ref (g.2.1 635)), (1, .int l1), (2, .int l2)] := hl
  obtain ⟨n, h⟩ := h
  exact zw_MO_moreFromCells_5 hM  n l1 l2 0 0 st h ls H locs (lv_sub hl [2, 3, 4, 1, 0] rfl) hP hS
set_option maxHeartbeats 4000000 in
set_option maxRecDepth 100000 in
theorem zw_MO_moreToCells_105 (hM : zs_M p c cMO_moreToCells 5 s m meth args "ThriftyStoresModel" (some .boolean) g)   {K : Int32 → zs_T → Prop} {B5 : Int32 → Int32 → Int32 → Int32 → zs_T → Prop} (hB5 : ∀ (l1 : Int32) (l2 : Int32) (l3 : Int32) (l4 : Int32) (st : zs_T), B5 l1 l2 l3 l4 st → zs_Go p l e (zs_rm 0 0) s m args below meth c g A (MQ below (zs_Qi g zs_ly zs_N A K) args s 0 0 A) 5 5 [(0, .ref (g.2.1 635)), (1, .int l1), (2, .int l2), (3, .int l3), (4, .int l4)] [] st) (l1 : Int32) (l2 : Int32) (l3 : Int32) (l4 : Int32) (s0 : Int32) (s1 : Int32) (st : zs_T) (h : zf_MO_moreToCells_105 K B5 l1 l2 l3 l4 s0 s1 st) : zs_Go p l e (zs_rm 0 0) s m args below meth c g A (MQ below (zs_Qi g zs_ly zs_N A K) args s 0 0 A) 5 105 [(0, .ref (g.2.1 635)), (1, .int l1), (2, .int l2), (3, .int l3), (4, .int l4)] [.int s0, .int s1, .ref (g.2.1 642)] st := by
  obtain ⟨hx, hb, hml, hr, hlk, hts, hown, hK⟩ := id hM
  intro ls H locs hl hP hS
  unfold zf_MO_moreToCells_105 at h
  obtain ⟨hi601, h⟩ := h
  refine zr_zast hx hb hK.1 hP hS zl_642.1 zl_642.2 hi601 dMO_moreToCells_105 (fun H locs hP hS => ?_)
  obtain ⟨t602, ez⟩ : ∃ tz : zs_T, tz = zs_i st 642 s1.toNatClampNeg (vp_nar .boolean s0) := ⟨_, rfl⟩
  have h := h t602 ez
  have hP : zs_P g zs_ly zs_N A t602 H := by rw [ez]; exact hP
  clear ez
  refine lv_iinc (k := 4) (v := l4 + 1) hx hb dMO_moreToCells_106 hl rfl (by rw [show Int32.ofInt (1) = 1 from by decide]) (by decide) rfl (fun ls hl => ?_)
  have hl : lv_has ls 5 [(4, .int (l4 + 1)), (0, .ref (g.2.1 635)), (1, .int l1), (2, .int l2), (3, .int l3)] := hl
  refine lv_goto (tgt := 5) hx hb dMO_moreToCells_109 rfl ?_
  exact hB5 l1 l2 l3 (l4 + 1) t602 h ls H locs (lv_sub hl [1, 2, 3, 4, 0] rfl) hP hS
set_option maxHeartbeats 4000000 in
set_option maxRecDepth 100000 in
theorem zw_MO_moreToCells_100 (hM : zs_M p c cMO_moreToCells 5 s m meth args "ThriftyStoresModel" (some .boolean) g)   {K : Int32 → zs_T → Prop} {B5 : Int32 → Int32 → Int32 → Int32 → zs_T → Prop} (hB5 : ∀ (l1 : Int32) (l2 : Int32) (l3 : Int32) (l4 : Int32) (st : zs_T), B5 l1 l2 l3 l4 st → zs_Go p l e (zs_rm 0 0) s m args below meth c g A (MQ below (zs_Qi g zs_ly zs_N A K) args s 0 0 A) 5 5 [(0, .ref (g.2.1 635)), (1, .int l1), (2, .int l2), (3, .int l3), (4, .int l4)] [] st) (l1 : Int32) (l2 : Int32) (l3 : Int32) (l4 : Int32) (s0 : Int32) (st : zs_T) (h : zf_MO_moreToCells_100 K B5 l1 l2 l3 l4 s0 st) : zs_Go p l e (zs_rm 0 0) s m args below meth c g A (MQ below (zs_Qi g zs_ly zs_N A K) args s 0 0 A) 5 100 [(0, .ref (g.2.1 635)), (1, .int l1), (2, .int l2), (3, .int l3), (4, .int l4)] [.int s0, .ref (g.2.1 642)] st := by
  obtain ⟨hx, hb, hml, hr, hlk, hts, hown, hK⟩ := id hM
  intro ls H locs hl hP hS
  unfold zf_MO_moreToCells_100 at h
  refine lv_iconst (v := 1) hx hb dMO_moreToCells_100 (by decide) ?_
  refine lv_goto (tgt := 105) hx hb dMO_moreToCells_101 rfl ?_
  exact zw_MO_moreToCells_105 hM hB5 l1 l2 l3 l4 1 s0 st h ls H locs (lv_sub hl [0, 1, 2, 3, 4] rfl) hP hS
set_option maxHeartbeats 4000000 in
set_option maxRecDepth 100000 in
theorem zw_MO_moreToCells_55 (hM : zs_M p c cMO_moreToCells 5 s m meth args "ThriftyStoresModel" (some .boolean) g)   {K : Int32 → zs_T → Prop} {B5 : Int32 → Int32 → Int32 → Int32 → zs_T → Prop} (hB5 : ∀ (l1 : Int32) (l2 : Int32) (l3 : Int32) (l4 : Int32) (st : zs_T), B5 l1 l2 l3 l4 st → zs_Go p l e (zs_rm 0 0) s m args below meth c g A (MQ below (zs_Qi g zs_ly zs_N A K) args s 0 0 A) 5 5 [(0, .ref (g.2.1 635)), (1, .int l1), (2, .int l2), (3, .int l3), (4, .int l4)] [] st) (l1 : Int32) (l2 : Int32) (l4 : Int32) (s0 : Int32) (st : zs_T) (h : zf_MO_moreToCells_55 K B5 l1 l2 l4 s0 st) : zs_Go p l e (zs_rm 0 0) s m args below meth c g A (MQ below (zs_Qi g zs_ly zs_N A K) args s 0 0 A) 5 55 [(0, .ref (g.2.1 635)), (1, .int l1), (2, .int l2), (4, .int l4)] [.int s0] st := by
  obtain ⟨hx, hb, hml, hr, hlk, hts, hown, hK⟩ := id hM
  intro ls H locs hl hP hS
  unfold zf_MO_moreToCells_55 at h
  refine lv_istore_n hx hb dMO_moreToCells_55 rfl hl (by decide) rfl (fun ls hl => ?_)
  have hl : lv_has ls 5 [(3, .int s0), (0, .ref (g.2.1 635)), (1, .int l1), (2, .int l2), (4, .int l4)] := hl
  refine lv_aload_n hx hb dMO_moreToCells_56 rfl (lv_at hl 1 rfl) ?_
  refine zr_getr (b := 642) hx hb hts zi_MO hown hK.1 hP zl_635.1 zl_635.2 rfl 11 (by decide) rfl (hts _ zq_744) dMO_moreToCells_57 ?_
  refine lv_sipush (v := 200) hx hb dMO_moreToCells_60 (by decide) ?_
  refine lv_iload_n hx hb dMO_moreToCells_63 rfl (lv_at hl 3 rfl) ?_
  refine lv_imul hx hb dMO_moreToCells_64 ?_
  refine lv_iload hx hb dMO_moreToCells_65 (lv_at hl 4 rfl) ?_
  refine lv_iadd hx hb dMO_moreToCells_67 ?_
  refine lv_aload_n hx hb dMO_moreToCells_68 rfl (lv_at hl 1 rfl) ?_
  refine zr_getr (b := 642) hx hb hts zi_MO hown hK.1 hP zl_635.1 zl_635.2 rfl 11 (by decide) rfl (hts _ zq_744) dMO_moreToCells_69 ?_
  refine lv_sipush (v := 200) hx hb dMO_moreToCells_72 (by decide) ?_
  refine lv_iload_n hx hb dMO_moreToCells_75 rfl (lv_at hl 3 rfl) ?_
  refine lv_imul hx hb dMO_moreToCells_76 ?_
  refine lv_iload hx hb dMO_moreToCells_77 (lv_at hl 4 rfl) ?_
  refine lv_iadd hx hb dMO_moreToCells_79 ?_
  obtain ⟨hi401, h⟩ := h
  refine zr_zald hx hb hK.1 hP zl_642.1 zl_642.2 hi401 dMO_moreToCells_80 ?_
  refine lv_if_ne (tgt := 100) hx hb dMO_moreToCells_81 rfl (fun hc => ?_) (fun hc => ?_)
  · have h := h.1 hc
    clear hc
    exact zw_MO_moreToCells_100 hM hB5 l1 l2 s0 l4 ((200 * l2) + l4) st h ls H locs (lv_sub hl [1, 2, 3, 0, 4] rfl) hP hS
  · have h := h.2 hc
    clear hc
    refine lv_aload_n hx hb dMO_moreToCells_84 rfl (lv_at hl 1 rfl) ?_
    refine zr_getr (b := 641) hx hb hts zi_MO hown hK.1 hP zl_635.1 zl_635.2 rfl 10 (by decide) rfl (hts _ zq_743) dMO_moreToCells_85 ?_
    refine lv_sipush (v := 200) hx hb dMO_moreToCells_88 (by decide) ?_
    refine lv_iload_n hx hb dMO_moreToCells_91 rfl (lv_at hl 2 rfl) ?_
    refine lv_imul hx hb dMO_moreToCells_92 ?_
    refine lv_iload hx hb dMO_moreToCells_93 (lv_at hl 4 rfl) ?_
    refine lv_iadd hx hb dMO_moreToCells_95 ?_
    obtain ⟨hi402, h⟩ := h
    refine zr_zald hx hb hK.1 hP zl_641.1 zl_641.2 hi402 dMO_moreToCells_96 ?_
    refine lv_if_eq (tgt := 104) hx hb dMO_moreToCells_97 rfl (fun hc => ?_) (fun hc => ?_)
    · have h := h.1 hc
      clear hc
      refine lv_iconst (v := 0) hx hb dMO_moreToCells_104 (by decide) ?_
      exact zw_MO_moreToCells_105 hM hB5 l1 l2 s0 l4 0 ((200 * l2) + l4) st h ls H locs (lv_sub hl [1, 2, 3, 0, 4] rfl) hP hS
    · have h := h.2 hc
      clear hc
      exact zw_MO_moreToCells_100 hM hB5 l1 l2 s0 l4 ((200 * l2) + l4) st h ls H locs (lv_sub hl [1, 2, 3, 0, 4] rfl) hP hS
set_option maxHeartbeats 4000000 in
set_option maxRecDepth 100000 in
theorem zw_MO_moreToCells_50 (hM : zs_M p c cMO_moreToCells 5 s m meth args "ThriftyStoresModel" (some .boolean) g)   {K : Int32 → zs_T → Prop} {B5 : Int32 → Int32 → Int32 → Int32 → zs_T → Prop} (hB5 : ∀ (l1 : Int32) (l2 : Int32) (l3 : Int32) (l4 : Int32) (st : zs_T), B5 l1 l2 l3 l4 st → zs_Go p l e (zs_rm 0 0) s m args below meth c g A (MQ below (zs_Qi g zs_ly zs_N A K) args s 0 0 A) 5 5 [(0, .ref (g.2.1 635)), (1, .int l1), (2, .int l2), (3, .int l3), (4, .int l4)] [] st) (l1 : Int32) (l2 : Int32) (l4 : Int32) (st : zs_T) (h : zf_MO_moreToCells_50 K B5 l1 l2 l4 st) : zs_Go p l e (zs_rm 0 0) s m args below meth c g A (MQ below (zs_Qi g zs_ly zs_N A K) args s 0 0 A) 5 50 [(0, .ref (g.2.1 635)), (1, .int l1), (2, .int l2), (4, .int l4)] [] st := by
  obtain ⟨hx, hb, hml, hr, hlk, hts, hown, hK⟩ := id hM
  intro ls H locs hl hP hS
  unfold zf_MO_moreToCells_50 at h
  refine lv_iconst (v := 1) hx hb dMO_moreToCells_50 (by decide) ?_
  refine lv_goto (tgt := 55) hx hb dMO_moreToCells_51 rfl ?_
  exact zw_MO_moreToCells_55 hM hB5 l1 l2 l4 1 st h ls H locs (lv_sub hl [0, 1, 2, 3] rfl) hP hS
set_option maxHeartbeats 4000000 in
set_option maxRecDepth 100000 in
theorem zw_MO_moreToCells_54 (hM : zs_M p c cMO_moreToCells 5 s m meth args "ThriftyStoresModel" (some .boolean) g)   {K : Int32 → zs_T → Prop} {B5 : Int32 → Int32 → Int32 → Int32 → zs_T → Prop} (hB5 : ∀ (l1 : Int32) (l2 : Int32) (l3 : Int32) (l4 : Int32) (st : zs_T), B5 l1 l2 l3 l4 st → zs_Go p l e (zs_rm 0 0) s m args below meth c g A (MQ below (zs_Qi g zs_ly zs_N A K) args s 0 0 A) 5 5 [(0, .ref (g.2.1 635)), (1, .int l1), (2, .int l2), (3, .int l3), (4, .int l4)] [] st) (l1 : Int32) (l2 : Int32) (l4 : Int32) (st : zs_T) (h : zf_MO_moreToCells_54 K B5 l1 l2 l4 st) : zs_Go p l e (zs_rm 0 0) s m args below meth c g A (MQ below (zs_Qi g zs_ly zs_N A K) args s 0 0 A) 5 54 [(0, .ref (g.2.1 635)), (1, .int l1), (2, .int l2), (4, .int l4)] [] st := by
  obtain ⟨hx, hb, hml, hr, hlk, hts, hown, hK⟩ := id hM
  intro ls H locs hl hP hS
  unfold zf_MO_moreToCells_54 at h
  refine lv_iconst (v := 0) hx hb dMO_moreToCells_54 (by decide) ?_
  exact zw_MO_moreToCells_55 hM hB5 l1 l2 l4 0 st h ls H locs (lv_sub hl [0, 1, 2, 3] rfl) hP hS
set_option maxHeartbeats 4000000 in
set_option maxRecDepth 100000 in
theorem zw_MO_moreToCells_5_s (hM : zs_M p c cMO_moreToCells 5 s m meth args "ThriftyStoresModel" (some .boolean) g)   {K : Int32 → zs_T → Prop}  {B5 : Int32 → Int32 → Int32 → Int32 → zs_T → Prop}  (hB5 : ∀ (l1 : Int32) (l2 : Int32) (l3 : Int32) (l4 : Int32) (st : zs_T), B5 l1 l2 l3 l4 st → zs_Go p l e (zs_rm 0 0) s m args below meth c g A (MQ below (zs_Qi g zs_ly zs_N A K) args s 0 0 A) 5 5 [(0, .ref (g.2.1 635)), (1, .int l1), (2, .int l2), (3, .int l3), (4, .int l4)] [] st) (l1 : Int32) (l2 : Int32) (l3 : Int32) (l4 : Int32) (st : zs_T) (h : zf_MO_moreToCells_5_s K B5 l1 l2 l3 l4 st) : zs_Go p l e (zs_rm 0 0) s m args below meth c g A (MQ below (zs_Qi g zs_ly zs_N A K) args s 0 0 A) 5 5 [(0, .ref (g.2.1 635)), (1, .int l1), (2, .int l2), (3, .int l3), (4, .int l4)] [] st := by
  obtain ⟨hx, hb, hml, hr, hlk, hts, hown, hK⟩ := id hM
  intro ls H locs hl hP hS
  unfold zf_MO_moreToCells_5_s at h
  refine lv_iload hx hb dMO_moreToCells_5 (lv_at hl 4 rfl) ?_
  refine lv_aload_n hx hb dMO_moreToCells_7 rfl (lv_at hl 0 rfl) ?_
  refine zr_geti hx hb hts zi_MO hown hK.1 hP zl_635.1 zl_635.2 rfl 5 (by decide) rfl (hts _ zq_738) dMO_moreToCells_8 ?_
  refine lv_icmp_ge (tgt := 112) hx hb dMO_moreToCells_11 rfl (fun hc => ?_) (fun hc => ?_)
  · have h := h.1 hc
    clear hc
    refine lv_iload_n hx hb dMO_moreToCells_112 rfl (lv_at hl 3 rfl) ?_
    exact zr_zret hx hb hr hlk hP hS (zs_bn h.1) h.2 dMO_moreToCells_113
  · have h := h.2 hc
    clear hc
    refine lv_iload_n hx hb dMO_moreToCells_14 rfl (lv_at hl 3 rfl) ?_
    refine lv_if_ne (tgt := 50) hx hb dMO_moreToCells_15 rfl (fun hc => ?_) (fun hc => ?_)
    · have h := h.1 hc
      clear hc
      exact zw_MO_moreToCells_50 hM hB5 l1 l2 l4 st h ls H locs (lv_sub hl [0, 1, 2, 4] rfl) hP hS
    · have h := h.2 hc
      clear hc
      refine lv_aload_n hx hb dMO_moreToCells_18 rfl (lv_at hl 0 rfl) ?_
      refine zr_getr (b := 641) hx hb hts zi_MO hown hK.1 hP zl_635.1 zl_635.2 rfl 10 (by decide) rfl (hts _ zq_743) dMO_moreToCells_19 ?_
      refine lv_sipush (v := 200) hx hb dMO_moreToCells_22 (by decide) ?_
      refine lv_iload_n hx hb dMO_moreToCells_25 rfl (lv_at hl 1 rfl) ?_
      refine lv_imul hx hb dMO_moreToCells_26 ?_
      refine lv_iload hx hb dMO_moreToCells_27 (lv_at hl 4 rfl) ?_
      refine lv_iadd hx hb dMO_moreToCells_29 ?_
      obtain ⟨hi102, h⟩ := h
      refine zr_zald hx hb hK.1 hP zl_641.1 zl_641.2 hi102 dMO_moreToCells_30 ?_
      refine lv_if_eq (tgt := 54) hx hb dMO_moreToCells_31 rfl (fun hc => ?_) (fun hc => ?_)
      · have h := h.1 hc
        clear hc
        exact zw_MO_moreToCells_54 hM hB5 l1 l2 l4 st h ls H locs (lv_sub hl [0, 1, 2, 4] rfl) hP hS
      · have h := h.2 hc
        clear hc
        refine lv_aload_n hx hb dMO_moreToCells_34 rfl (lv_at hl 0 rfl) ?_
        refine zr_getr (b := 642) hx hb hts zi_MO hown hK.1 hP zl_635.1 zl_635.2 rfl 11 (by decide) rfl (hts _ zq_744) dMO_moreToCells_35 ?_
        refine lv_sipush (v := 200) hx hb dMO_moreToCells_38 (by decide) ?_
        refine lv_iload_n hx hb dMO_moreToCells_41 rfl (lv_at hl 2 rfl) ?_
        refine lv_imul hx hb dMO_moreToCells_42 ?_
        refine lv_iload hx hb dMO_moreToCells_43 (lv_at hl 4 rfl) ?_
        refine lv_iadd hx hb dMO_moreToCells_45 ?_
        obtain ⟨hi103, h⟩ := h
        refine zr_zald hx hb hK.1 hP zl_642.1 zl_642.2 hi103 dMO_moreToCells_46 ?_
        refine lv_if_ne (tgt := 54) hx hb dMO_moreToCells_47 rfl (fun hc => ?_) (fun hc => ?_)
        · have h := h.1 hc
          clear hc
          exact zw_MO_moreToCells_54 hM hB5 l1 l2 l4 st h ls H locs (lv_sub hl [0, 1, 2, 4] rfl) hP hS
        · have h := h.2 hc
          clear hc
          exact zw_MO_moreToCells_50 hM hB5 l1 l2 l4 st h ls H locs (lv_sub hl [0, 1, 2, 4] rfl) hP hS
theorem zw_MO_moreToCells_5 (hM : zs_M p c cMO_moreToCells 5 s m meth args "ThriftyStoresModel" (some .boolean) g)   {K : Int32 → zs_T → Prop}   : ∀ (n : Nat) (l1 : Int32) (l2 : Int32) (l3 : Int32) (l4 : Int32) (st : zs_T), zf_MO_moreToCells_5 K n l1 l2 l3 l4 st → zs_Go p l e (zs_rm 0 0) s m args below meth c g A (MQ below (zs_Qi g zs_ly zs_N A K) args s 0 0 A) 5 5 [(0, .ref (g.2.1 635)), (1, .int l1), (2, .int l2), (3, .int l3), (4, .int l4)] [] st := by
  intro n
  induction n with
  | zero => intro l1 l2 l3 l4 st h; exact False.elim h
  | succ n ih => intro l1 l2 l3 l4 st h; exact zw_MO_moreToCells_5_s hM  ih l1 l2 l3 l4 st h
set_option maxHeartbeats 4000000 in
set_option maxRecDepth 100000 in
theorem zc_MO_moreToCells (l : Launch) (g : zs_G) (A : Nat → Prop) {l1 : Int32} {l2 : Int32}  {st : zs_T} {K : Int32 → zs_T → Prop} (h : zf_MO_moreToCells l1 l2 st K) : Met l yMO_moreToCells (.code yMO_moreToCells cMO_moreToCells 5 (some .boolean) :: zs_tb) (zs_rm 0 0) (zs_Pc zs_nl g zs_ly zs_N A [.ref (g.2.1 635), .int l1, .int l2] st) (zs_Qi g zs_ly zs_N A K) 0 0 A := by
  refine zs_met (cc := cMO_moreToCells) (maxL := 5) (ret := (some .boolean)) (by decide) (Nat.le_of_ble_eq_true rfl) (fun p e s m below meth c hM => ?_)
  have hM : zs_M p c cMO_moreToCells 5 s m meth [.ref (g.2.1 635), .int l1, .int l2].toArray "ThriftyStoresModel" (some .boolean) g := hM
  obtain ⟨hx, hb, hml, hr, hlk, hts, hown, hK⟩ := id hM
  intro ls H locs hl hP hS
  have hl : lv_has ls 5 [(0, .ref (g.2.1 635)), (1, .int l1), (2, .int l2)] := hl
  unfold zf_MO_moreToCells at h
  refine lv_iconst (v := 0) hx hb dMO_moreToCells_0 (by decide) ?_
  refine lv_istore_n hx hb dMO_moreToCells_1 rfl hl (by decide) rfl (fun ls hl => ?_)
  have hl : lv_has ls 5 [(3, .int 0), (0, .ref (g.2.1 635)), (1, .int l1), (2, .int l2)] := hl
  refine lv_iconst (v := 0) hx hb dMO_moreToCells_2 (by decide) ?_
  refine lv_istore hx hb dMO_moreToCells_3 hl (by decide) rfl (fun ls hl => ?_)
  have hl : lv_has ls 5 [(4, .int 0), (3, .int 0), (0, .ref (g.2.1 635)), (1, .int l1), (2, .int l2)] := hl
  obtain ⟨n, h⟩ := h
  exact zw_MO_moreToCells_5 hM  n l1 l2 0 0 st h ls H locs (lv_sub hl [2, 3, 4, 1, 0] rfl) hP hS
set_option maxHeartbeats 4000000 in
set_option maxRecDepth 100000 in
theorem zw_MO_findSets_277 (hM : zs_M p c cMO_findSets 7 s m meth args "ThriftyStoresModel" none g)   {K : zs_T → Prop} {B45 : Int32 → zs_T → Prop} {B53 : Int32 → Int32 → zs_T → Prop} {B180 : Int32 → Int32 → Int32 → Int32 → Int32 → Int32 → zs_T → Prop} (hB45 : ∀ (l1 : Int32) (st : zs_T), B45 l1 st → zs_Go p l e (zs_rm 1 24) s m args below meth c g A (MQ below (zs_Qv g zs_ly zs_N A K) args s 0 0 A) 7 45 [(0, .ref (g.2.1 635)), (1, .int l1)] [] st) (hB53 : ∀ (l1 : Int32) (l2 : Int32) (st : zs_T), B53 l1 l2 st → zs_Go p l e (zs_rm 1 24) s m args below meth c g A (MQ below (zs_Qv g zs_ly zs_N A K) args s 0 0 A) 7 53 [(0, .ref (g.2.1 635)), (1, .int l1), (2, .int l2)] [] st) (hB180 : ∀ (l1 : Int32) (l2 : Int32) (l3 : Int32) (l4 : Int32) (l5 : Int32) (l6 : Int32) (st : zs_T), B180 l1 l2 l3 l4 l5 l6 st → zs_Go p l e (zs_rm 1 24) s m args below meth c g A (MQ below (zs_Qv g zs_ly zs_N A K) args s 0 0 A) 7 180 [(0, .ref (g.2.1 635)), (1, .int l1), (2, .int l2), (3, .int l3), (4, .int l4), (5, .int l5), (6, .int l6)] [] st) (l1 : Int32) (l2 : Int32) (l3 : Int32) (l4 : Int32) (l5 : Int32) (l6 : Int32) (st : zs_T) (h : zf_MO_findSets_277 K B45 B53 B180 l1 l2 l3 l4 l5 l6 st) : zs_Go p l e (zs_rm 1 24) s m args below meth c g A (MQ below (zs_Qv g zs_ly zs_N A K) args s 0 0 A) 7 277 [(0, .ref (g.2.1 635)), (1, .int l1), (2, .int l2), (3, .int l3), (4, .int l4), (5, .int l5), (6, .int l6)] [] st := by
  obtain ⟨hx, hb, hml, hr, hlk, hts, hown, hK⟩ := id hM
  intro ls H locs hl hP hS
  unfold zf_MO_findSets_277 at h
  refine lv_iinc (k := 6) (v := l6 + 1) hx hb dMO_findSets_277 hl rfl (by rw [show Int32.ofInt (1) = 1 from by decide]) (by decide) rfl (fun ls hl => ?_)
  have hl : lv_has ls 7 [(6, .int (l6 + 1)), (0, .ref (g.2.1 635)), (1, .int l1), (2, .int l2), (3, .int l3), (4, .int l4), (5, .int l5)] := hl
  refine lv_goto (tgt := 180) hx hb dMO_findSets_280 rfl ?_
  exact hB180 l1 l2 l3 l4 l5 (l6 + 1) st h ls H locs (lv_sub hl [1, 2, 3, 4, 5, 6, 0] rfl) hP hS
set_option maxHeartbeats 4000000 in
set_option maxRecDepth 100000 in
theorem zw_MO_findSets_276 (hM : zs_M p c cMO_findSets 7 s m meth args "ThriftyStoresModel" none g)   {K : zs_T → Prop} {B45 : Int32 → zs_T → Prop} {B53 : Int32 → Int32 → zs_T → Prop} {B180 : Int32 → Int32 → Int32 → Int32 → Int32 → Int32 → zs_T → Prop} (hB45 : ∀ (l1 : Int32) (st : zs_T), B45 l1 st → zs_Go p l e (zs_rm 1 24) s m args below meth c g A (MQ below (zs_Qv g zs_ly zs_N A K) args s 0 0 A) 7 45 [(0, .ref (g.2.1 635)), (1, .int l1)] [] st) (hB53 : ∀ (l1 : Int32) (l2 : Int32) (st : zs_T), B53 l1 l2 st → zs_Go p l e (zs_rm 1 24) s m args below meth c g A (MQ below (zs_Qv g zs_ly zs_N A K) args s 0 0 A) 7 53 [(0, .ref (g.2.1 635)), (1, .int l1), (2, .int l2)] [] st) (hB180 : ∀ (l1 : Int32) (l2 : Int32) (l3 : Int32) (l4 : Int32) (l5 : Int32) (l6 : Int32) (st : zs_T), B180 l1 l2 l3 l4 l5 l6 st → zs_Go p l e (zs_rm 1 24) s m args below meth c g A (MQ below (zs_Qv g zs_ly zs_N A K) args s 0 0 A) 7 180 [(0, .ref (g.2.1 635)), (1, .int l1), (2, .int l2), (3, .int l3), (4, .int l4), (5, .int l5), (6, .int l6)] [] st) (l2 : Int32) (l3 : Int32) (l4 : Int32) (l5 : Int32) (l6 : Int32) (s0 : Int32) (st : zs_T) (h : zf_MO_findSets_276 K B45 B53 B180 l2 l3 l4 l5 l6 s0 st) : zs_Go p l e (zs_rm 1 24) s m args below meth c g A (MQ below (zs_Qv g zs_ly zs_N A K) args s 0 0 A) 7 276 [(0, .ref (g.2.1 635)), (2, .int l2), (3, .int l3), (4, .int l4), (5, .int l5), (6, .int l6)] [.int s0] st := by
  obtain ⟨hx, hb, hml, hr, hlk, hts, hown, hK⟩ := id hM
  intro ls H locs hl hP hS
  unfold zf_MO_findSets_276 at h
  refine lv_istore_n hx hb dMO_findSets_276 rfl hl (by decide) rfl (fun ls hl => ?_)
  have hl : lv_has ls 7 [(1, .int s0), (0, .ref (g.2.1 635)), (2, .int l2), (3, .int l3), (4, .int l4), (5, .int l5), (6, .int l6)] := hl
  exact zw_MO_findSets_277 hM hB45 hB53 hB180 s0 l2 l3 l4 l5 l6 st h ls H locs (lv_sub hl [1, 0, 2, 3, 4, 5, 6] rfl) hP hS
set_option maxHeartbeats 4000000 in
set_option maxRecDepth 100000 in
theorem zw_MO_findSets_271 (hM : zs_M p c cMO_findSets 7 s m meth args "ThriftyStoresModel" none g)   {K : zs_T → Prop} {B45 : Int32 → zs_T → Prop} {B53 : Int32 → Int32 → zs_T → Prop} {B180 : Int32 → Int32 → Int32 → Int32 → Int32 → Int32 → zs_T → Prop} (hB45 : ∀ (l1 : Int32) (st : zs_T), B45 l1 st → zs_Go p l e (zs_rm 1 24) s m args below meth c g A (MQ below (zs_Qv g zs_ly zs_N A K) args s 0 0 A) 7 45 [(0, .ref (g.2.1 635)), (1, .int l1)] [] st) (hB53 : ∀ (l1 : Int32) (l2 : Int32) (st : zs_T), B53 l1 l2 st → zs_Go p l e (zs_rm 1 24) s m args below meth c g A (MQ below (zs_Qv g zs_ly zs_N A K) args s 0 0 A) 7 53 [(0, .ref (g.2.1 635)), (1, .int l1), (2, .int l2)] [] st) (hB180 : ∀ (l1 : Int32) (l2 : Int32) (l3 : Int32) (l4 : Int32) (l5 : Int32) (l6 : Int32) (st : zs_T), B180 l1 l2 l3 l4 l5 l6 st → zs_Go p l e (zs_rm 1 24) s m args below meth c g A (MQ below (zs_Qv g zs_ly zs_N A K) args s 0 0 A) 7 180 [(0, .ref (g.2.1 635)), (1, .int l1), (2, .int l2), (3, .int l3), (4, .int l4), (5, .int l5), (6, .int l6)] [] st) (l2 : Int32) (l3 : Int32) (l4 : Int32) (l5 : Int32) (l6 : Int32) (st : zs_T) (h : zf_MO_findSets_271 K B45 B53 B180 l2 l3 l4 l5 l6 st) : zs_Go p l e (zs_rm 1 24) s m args below meth c g A (MQ below (zs_Qv g zs_ly zs_N A K) args s 0 0 A) 7 271 [(0, .ref (g.2.1 635)), (2, .int l2), (3, .int l3), (4, .int l4), (5, .int l5), (6, .int l6)] [] st := by
  obtain ⟨hx, hb, hml, hr, hlk, hts, hown, hK⟩ := id hM
  intro ls H locs hl hP hS
  unfold zf_MO_findSets_271 at h
  refine lv_iconst (v := 1) hx hb dMO_findSets_271 (by decide) ?_
  refine lv_goto (tgt := 276) hx hb dMO_findSets_272 rfl ?_
  exact zw_MO_findSets_276 hM hB45 hB53 hB180 l2 l3 l4 l5 l6 1 st h ls H locs (lv_sub hl [0, 1, 2, 3, 4, 5] rfl) hP hS
set_option maxHeartbeats 4000000 in
set_option maxRecDepth 100000 in
theorem zw_MO_findSets_233 (hM : zs_M p c cMO_findSets 7 s m meth args "ThriftyStoresModel" none g)   {K : zs_T → Prop} {B45 : Int32 → zs_T → Prop} {B53 : Int32 → Int32 → zs_T → Prop} {B180 : Int32 → Int32 → Int32 → Int32 → Int32 → Int32 → zs_T → Prop} (hB45 : ∀ (l1 : Int32) (st : zs_T), B45 l1 st → zs_Go p l e (zs_rm 1 24) s m args below meth c g A (MQ below (zs_Qv g zs_ly zs_N A K) args s 0 0 A) 7 45 [(0, .ref (g.2.1 635)), (1, .int l1)] [] st) (hB53 : ∀ (l1 : Int32) (l2 : Int32) (st : zs_T), B53 l1 l2 st → zs_Go p l e (zs_rm 1 24) s m args below meth c g A (MQ below (zs_Qv g zs_ly zs_N A K) args s 0 0 A) 7 53 [(0, .ref (g.2.1 635)), (1, .int l1), (2, .int l2)] [] st) (hB180 : ∀ (l1 : Int32) (l2 : Int32) (l3 : Int32) (l4 : Int32) (l5 : Int32) (l6 : Int32) (st : zs_T), B180 l1 l2 l3 l4 l5 l6 st → zs_Go p l e (zs_rm 1 24) s m args below meth c g A (MQ below (zs_Qv g zs_ly zs_N A K) args s 0 0 A) 7 180 [(0, .ref (g.2.1 635)), (1, .int l1), (2, .int l2), (3, .int l3), (4, .int l4), (5, .int l5), (6, .int l6)] [] st) (l1 : Int32) (l2 : Int32) (l3 : Int32) (l4 : Int32) (l5 : Int32) (l6 : Int32) (st : zs_T) (h : zf_MO_findSets_233 K B45 B53 B180 l1 l2 l3 l4 l5 l6 st) : zs_Go p l e (zs_rm 1 24) s m args below meth c g A (MQ below (zs_Qv g zs_ly zs_N A K) args s 0 0 A) 7 233 [(0, .ref (g.2.1 635)), (1, .int l1), (2, .int l2), (3, .int l3), (4, .int l4), (5, .int l5), (6, .int l6)] [] st := by
  obtain ⟨hx, hb, hml, hr, hlk, hts, hown, hK⟩ := id hM
  intro ls H locs hl hP hS
  unfold zf_MO_findSets_233 at h
  refine lv_iload_n hx hb dMO_findSets_233 rfl (lv_at hl 3 rfl) ?_
  refine lv_bipush (v := 10) hx hb dMO_findSets_234 (by decide) ?_
  refine lv_icmp_ne (tgt := 277) hx hb dMO_findSets_236 rfl (fun hc => ?_) (fun hc => ?_)
  · have h := h.1 hc
    clear hc
    exact zw_MO_findSets_277 hM hB45 hB53 hB180 l1 l2 l3 l4 l5 l6 st h ls H locs (lv_sub hl [0, 1, 2, 3, 4, 5, 6] rfl) hP hS
  · have h := h.2 hc
    clear hc
    refine lv_aload_n hx hb dMO_findSets_239 rfl (lv_at hl 0 rfl) ?_
    refine zr_getr (b := 641) hx hb hts zi_MO hown hK.1 hP zl_635.1 zl_635.2 rfl 10 (by decide) rfl (hts _ zq_743) dMO_findSets_240 ?_
    refine lv_sipush (v := 200) hx hb dMO_findSets_243 (by decide) ?_
    refine lv_iload hx hb dMO_findSets_246 (lv_at hl 4 rfl) ?_
    refine lv_imul hx hb dMO_findSets_248 ?_
    refine lv_iload hx hb dMO_findSets_249 (lv_at hl 6 rfl) ?_
    refine lv_iadd hx hb dMO_findSets_251 ?_
    obtain ⟨hi1301, h⟩ := h
    refine zr_zald hx hb hK.1 hP zl_641.1 zl_641.2 hi1301 dMO_findSets_252 ?_
    refine lv_if_eq (tgt := 277) hx hb dMO_findSets_253 rfl (fun hc => ?_) (fun hc => ?_)
    · have h := h.1 hc
      clear hc
      exact zw_MO_findSets_277 hM hB45 hB53 hB180 l1 l2 l3 l4 l5 l6 st h ls H locs (lv_sub hl [0, 1, 2, 3, 4, 5, 6] rfl) hP hS
    · have h := h.2 hc
      clear hc
      refine lv_aload_n hx hb dMO_findSets_256 rfl (lv_at hl 0 rfl) ?_
      refine lv_iload hx hb dMO_findSets_257 (lv_at hl 5 rfl) ?_
      refine lv_iload hx hb dMO_findSets_259 (lv_at hl 6 rfl) ?_
      refine zr_calli (va_runV (As := [.int l5, .int l6]) (rest := []) ⟨hx, hb, hml, hown, hts⟩ (zc_MO_moreToCells l g A  h) (cwV 2 hts (zs_gV zq_869 zq_871 zp_39 zq_8 zq_872) rfl rfl rfl ⟨rfl, by decide, by decide, by decide +kernel⟩ ⟨Nat.le_of_ble_eq_true rfl, Nat.le_of_ble_eq_true rfl⟩) (zs_preV zs_nwk hK hP zl_635.1 zl_635.2 rfl) rfl rfl hl.1 rfl (lv_room (Nat.le_of_ble_eq_true rfl)) dMO_findSets_261 ⟨Nat.le_refl _, Nat.le_refl _⟩) hS (fun r1303 u1302 H locs h hP hS => ?_)
      refine lv_if_ne (tgt := 271) hx hb dMO_findSets_264 rfl (fun hc => ?_) (fun hc => ?_)
      · have h := h.1 hc
        clear hc
        exact zw_MO_findSets_271 hM hB45 hB53 hB180 l2 l3 l4 l5 l6 u1302 h ls H locs (lv_sub hl [0, 2, 3, 4, 5, 6] rfl) hP hS
      · have h := h.2 hc
        clear hc
        refine lv_iload_n hx hb dMO_findSets_267 rfl (lv_at hl 1 rfl) ?_
        refine lv_if_eq (tgt := 275) hx hb dMO_findSets_268 rfl (fun hc => ?_) (fun hc => ?_)
        · have h := h.1 hc
          clear hc
          refine lv_iconst (v := 0) hx hb dMO_findSets_275 (by decide) ?_
          exact zw_MO_findSets_276 hM hB45 hB53 hB180 l2 l3 l4 l5 l6 0 u1302 h ls H locs (lv_sub hl [0, 2, 3, 4, 5, 6] rfl) hP hS
        · have h := h.2 hc
          clear hc
          exact zw_MO_findSets_271 hM hB45 hB53 hB180 l2 l3 l4 l5 l6 u1302 h ls H locs (lv_sub hl [0, 2, 3, 4, 5, 6] rfl) hP hS
set_option maxHeartbeats 4000000 in
set_option maxRecDepth 100000 in
theorem zw_MO_findSets_232 (hM : zs_M p c cMO_findSets 7 s m meth args "ThriftyStoresModel" none g)   {K : zs_T → Prop} {B45 : Int32 → zs_T → Prop} {B53 : Int32 → Int32 → zs_T → Prop} {B180 : Int32 → Int32 → Int32 → Int32 → Int32 → Int32 → zs_T → Prop} (hB45 : ∀ (l1 : Int32) (st : zs_T), B45 l1 st → zs_Go p l e (zs_rm 1 24) s m args below meth c g A (MQ below (zs_Qv g zs_ly zs_N A K) args s 0 0 A) 7 45 [(0, .ref (g.2.1 635)), (1, .int l1)] [] st) (hB53 : ∀ (l1 : Int32) (l2 : Int32) (st : zs_T), B53 l1 l2 st → zs_Go p l e (zs_rm 1 24) s m args below meth c g A (MQ below (zs_Qv g zs_ly zs_N A K) args s 0 0 A) 7 53 [(0, .ref (g.2.1 635)), (1, .int l1), (2, .int l2)] [] st) (hB180 : ∀ (l1 : Int32) (l2 : Int32) (l3 : Int32) (l4 : Int32) (l5 : Int32) (l6 : Int32) (st : zs_T), B180 l1 l2 l3 l4 l5 l6 st → zs_Go p l e (zs_rm 1 24) s m args below meth c g A (MQ below (zs_Qv g zs_ly zs_N A K) args s 0 0 A) 7 180 [(0, .ref (g.2.1 635)), (1, .int l1), (2, .int l2), (3, .int l3), (4, .int l4), (5, .int l5), (6, .int l6)] [] st) (l2 : Int32) (l3 : Int32) (l4 : Int32) (l5 : Int32) (l6 : Int32) (s0 : Int32) (st : zs_T) (h : zf_MO_findSets_232 K B45 B53 B180 l2 l3 l4 l5 l6 s0 st) : zs_Go p l e (zs_rm 1 24) s m args below meth c g A (MQ below (zs_Qv g zs_ly zs_N A K) args s 0 0 A) 7 232 [(0, .ref (g.2.1 635)), (2, .int l2), (3, .int l3), (4, .int l4), (5, .int l5), (6, .int l6)] [.int s0] st := by
  obtain ⟨hx, hb, hml, hr, hlk, hts, hown, hK⟩ := id hM
  intro ls H locs hl hP hS
  unfold zf_MO_findSets_232 at h
  refine lv_istore_n hx hb dMO_findSets_232 rfl hl (by decide) rfl (fun ls hl => ?_)
  have hl : lv_has ls 7 [(1, .int s0), (0, .ref (g.2.1 635)), (2, .int l2), (3, .int l3), (4, .int l4), (5, .int l5), (6, .int l6)] := hl
  exact zw_MO_findSets_233 hM hB45 hB53 hB180 s0 l2 l3 l4 l5 l6 st h ls H locs (lv_sub hl [1, 0, 2, 3, 4, 5, 6] rfl) hP hS
set_option maxHeartbeats 4000000 in
set_option maxRecDepth 100000 in
theorem zw_MO_findSets_227 (hM : zs_M p c cMO_findSets 7 s m meth args "ThriftyStoresModel" none g)   {K : zs_T → Prop} {B45 : Int32 → zs_T → Prop} {B53 : Int32 → Int32 → zs_T → Prop} {B180 : Int32 → Int32 → Int32 → Int32 → Int32 → Int32 → zs_T → Prop} (hB45 : ∀ (l1 : Int32) (st : zs_T), B45 l1 st → zs_Go p l e (zs_rm 1 24) s m args below meth c g A (MQ below (zs_Qv g zs_ly zs_N A K) args s 0 0 A) 7 45 [(0, .ref (g.2.1 635)), (1, .int l1)] [] st) (hB53 : ∀ (l1 : Int32) (l2 : Int32) (st : zs_T), B53 l1 l2 st → zs_Go p l e (zs_rm 1 24) s m args below meth c g A (MQ below (zs_Qv g zs_ly zs_N A K) args s 0 0 A) 7 53 [(0, .ref (g.2.1 635)), (1, .int l1), (2, .int l2)] [] st) (hB180 : ∀ (l1 : Int32) (l2 : Int32) (l3 : Int32) (l4 : Int32) (l5 : Int32) (l6 : Int32) (st : zs_T), B180 l1 l2 l3 l4 l5 l6 st → zs_Go p l e (zs_rm 1 24) s m args below meth c g A (MQ below (zs_Qv g zs_ly zs_N A K) args s 0 0 A) 7 180 [(0, .ref (g.2.1 635)), (1, .int l1), (2, .int l2), (3, .int l3), (4, .int l4), (5, .int l5), (6, .int l6)] [] st) (l2 : Int32) (l3 : Int32) (l4 : Int32) (l5 : Int32) (l6 : Int32) (st : zs_T) (h : zf_MO_findSets_227 K B45 B53 B180 l2 l3 l4 l5 l6 st) : zs_Go p l e (zs_rm 1 24) s m args below meth c g A (MQ below (zs_Qv g zs_ly zs_N A K) args s 0 0 A) 7 227 [(0, .ref (g.2.1 635)), (2, .int l2), (3, .int l3), (4, .int l4), (5, .int l5), (6, .int l6)] [] st := by
  obtain ⟨hx, hb, hml, hr, hlk, hts, hown, hK⟩ := id hM
  intro ls H locs hl hP hS
  unfold zf_MO_findSets_227 at h
  refine lv_iconst (v := 1) hx hb dMO_findSets_227 (by decide) ?_
  refine lv_goto (tgt := 232) hx hb dMO_findSets_228 rfl ?_
  exact zw_MO_findSets_232 hM hB45 hB53 hB180 l2 l3 l4 l5 l6 1 st h ls H locs (lv_sub hl [0, 1, 2, 3, 4, 5] rfl) hP hS
set_option maxHeartbeats 4000000 in
set_option maxRecDepth 100000 in
theorem zw_MO_findSets_180_s (hM : zs_M p c cMO_findSets 7 s m meth args "ThriftyStoresModel" none g)   {K : zs_T → Prop} {B45 : Int32 → zs_T → Prop} {B53 : Int32 → Int32 → zs_T → Prop} {B180 : Int32 → Int32 → Int32 → Int32 → Int32 → Int32 → zs_T → Prop} (hB45 : ∀ (l1 : Int32) (st : zs_T), B45 l1 st → zs_Go p l e (zs_rm 1 24) s m args below meth c g A (MQ below (zs_Qv g zs_ly zs_N A K) args s 0 0 A) 7 45 [(0, .ref (g.2.1 635)), (1, .int l1)] [] st) (hB53 : ∀ (l1 : Int32) (l2 : Int32) (st : zs_T), B53 l1 l2 st → zs_Go p l e (zs_rm 1 24) s m args below meth c g A (MQ below (zs_Qv g zs_ly zs_N A K) args s 0 0 A) 7 53 [(0, .ref (g.2.1 635)), (1, .int l1), (2, .int l2)] [] st) (hB180 : ∀ (l1 : Int32) (l2 : Int32) (l3 : Int32) (l4 : Int32) (l5 : Int32) (l6 : Int32) (st : zs_T), B180 l1 l2 l3 l4 l5 l6 st → zs_Go p l e (zs_rm 1 24) s m args below meth c g A (MQ below (zs_Qv g zs_ly zs_N A K) args s 0 0 A) 7 180 [(0, .ref (g.2.1 635)), (1, .int l1), (2, .int l2), (3, .int l3), (4, .int l4), (5, .int l5), (6, .int l6)] [] st) (l1 : Int32) (l2 : Int32) (l3 : Int32) (l4 : Int32) (l5 : Int32) (l6 : Int32) (st : zs_T) (h : zf_MO_findSets_180_s K B45 B53 B180 l1 l2 l3 l4 l5 l6 st) : zs_Go p l e (zs_rm 1 24) s m args below meth c g A (MQ below (zs_Qv g zs_ly zs_N A K) args s 0 0 A) 7 180 [(0, .ref (g.2.1 635)), (1, .int l1), (2, .int l2), (3, .int l3), (4, .int l4), (5, .int l5), (6, .int l6)] [] st := by
  obtain ⟨hx, hb, hml, hr, hlk, hts, hown, hK⟩ := id hM
  intro ls H locs hl hP hS
  unfold zf_MO_findSets_180_s at h
  refine lv_iload hx hb dMO_findSets_180 (lv_at hl 6 rfl) ?_
  refine lv_aload_n hx hb dMO_findSets_182 rfl (lv_at hl 0 rfl) ?_
  refine zr_geti hx hb hts zi_MO hown hK.1 hP zl_635.1 zl_635.2 rfl 5 (by decide) rfl (hts _ zq_738) dMO_findSets_183 ?_
  refine lv_icmp_ge (tgt := 283) hx hb dMO_findSets_186 rfl (fun hc => ?_) (fun hc => ?_)
  · have h := h.1 hc
    clear hc
    refine lv_iinc (k := 2) (v := l2 + 1) hx hb dMO_findSets_283 hl rfl (by rw [show Int32.ofInt (1) = 1 from by decide]) (by decide) rfl (fun ls hl => ?_)
    have hl : lv_has ls 7 [(2, .int (l2 + 1)), (0, .ref (g.2.1 635)), (1, .int l1), (3, .int l3), (4, .int l4), (5, .int l5), (6, .int l6)] := hl
    refine lv_goto (tgt := 53) hx hb dMO_findSets_286 rfl ?_
    exact hB53 l1 (l2 + 1) st h ls H locs (lv_sub hl [1, 2, 0] rfl) hP hS
  · have h := h.2 hc
    clear hc
    refine lv_iload_n hx hb dMO_findSets_189 rfl (lv_at hl 3 rfl) ?_
    refine lv_bipush (v := 9) hx hb dMO_findSets_190 (by decide) ?_
    refine lv_icmp_ne (tgt := 233) hx hb dMO_findSets_192 rfl (fun hc => ?_) (fun hc => ?_)
    · have h := h.1 hc
      clear hc
      exact zw_MO_findSets_233 hM hB45 hB53 hB180 l1 l2 l3 l4 l5 l6 st h ls H locs (lv_sub hl [0, 1, 2, 3, 4, 5, 6] rfl) hP hS
    · have h := h.2 hc
      clear hc
      refine lv_aload_n hx hb dMO_findSets_195 rfl (lv_at hl 0 rfl) ?_
      refine zr_getr (b := 641) hx hb hts zi_MO hown hK.1 hP zl_635.1 zl_635.2 rfl 10 (by decide) rfl (hts _ zq_743) dMO_findSets_196 ?_
      refine lv_sipush (v := 200) hx hb dMO_findSets_199 (by decide) ?_
      refine lv_iload hx hb dMO_findSets_202 (lv_at hl 5 rfl) ?_
      refine lv_imul hx hb dMO_findSets_204 ?_
      refine lv_iload hx hb dMO_findSets_205 (lv_at hl 6 rfl) ?_
      refine lv_iadd hx hb dMO_findSets_207 ?_
      obtain ⟨hi1201, h⟩ := h
      refine zr_zald hx hb hK.1 hP zl_641.1 zl_641.2 hi1201 dMO_findSets_208 ?_
      refine lv_if_eq (tgt := 233) hx hb dMO_findSets_209 rfl (fun hc => ?_) (fun hc => ?_)
      · have h := h.1 hc
        clear hc
        exact zw_MO_findSets_233 hM hB45 hB53 hB180 l1 l2 l3 l4 l5 l6 st h ls H locs (lv_sub hl [0, 1, 2, 3, 4, 5, 6] rfl) hP hS
      · have h := h.2 hc
        clear hc
        refine lv_aload_n hx hb dMO_findSets_212 rfl (lv_at hl 0 rfl) ?_
        refine lv_iload hx hb dMO_findSets_213 (lv_at hl 6 rfl) ?_
        refine lv_iload hx hb dMO_findSets_215 (lv_at hl 4 rfl) ?_
        refine zr_calli (va_runV (As := [.int l6, .int l4]) (rest := []) ⟨hx, hb, hml, hown, hts⟩ (zc_MO_moreFromCells l g A  h) (cwV 2 hts (zs_gV zq_865 zq_867 zp_38 zq_8 zq_868) rfl rfl rfl ⟨rfl, by decide, by decide, by decide +kernel⟩ ⟨Nat.le_of_ble_eq_true rfl, Nat.le_of_ble_eq_true rfl⟩) (zs_preV zs_nwk hK hP zl_635.1 zl_635.2 rfl) rfl rfl hl.1 rfl (lv_room (Nat.le_of_ble_eq_true rfl)) dMO_findSets_217 ⟨Nat.le_refl _, Nat.le_refl _⟩) hS (fun r1203 u1202 H locs h hP hS => ?_)
        refine lv_if_ne (tgt := 227) hx hb dMO_findSets_220 rfl (fun hc => ?_) (fun hc => ?_)
        · have h := h.1 hc
          clear hc
          exact zw_MO_findSets_227 hM hB45 hB53 hB180 l2 l3 l4 l5 l6 u1202 h ls H locs (lv_sub hl [0, 2, 3, 4, 5, 6] rfl) hP hS
        · have h := h.2 hc
          clear hc
          refine lv_iload_n hx hb dMO_findSets_223 rfl (lv_at hl 1 rfl) ?_
          refine lv_if_eq (tgt := 231) hx hb dMO_findSets_224 rfl (fun hc => ?_) (fun hc => ?_)
          · have h := h.1 hc
            clear hc
            refine lv_iconst (v := 0) hx hb dMO_findSets_231 (by decide) ?_
            exact zw_MO_findSets_232 hM hB45 hB53 hB180 l2 l3 l4 l5 l6 0 u1202 h ls H locs (lv_sub hl [0, 2, 3, 4, 5, 6] rfl) hP hS
          · have h := h.2 hc
            clear hc
            exact zw_MO_findSets_227 hM hB45 hB53 hB180 l2 l3 l4 l5 l6 u1202 h ls H locs (lv_sub hl [0, 2, 3, 4, 5, 6] rfl) hP hS
theorem zw_MO_findSets_180 (hM : zs_M p c cMO_findSets 7 s m meth args "ThriftyStoresModel" none g)   {K : zs_T → Prop} {B45 : Int32 → zs_T → Prop} {B53 : Int32 → Int32 → zs_T → Prop} (hB45 : ∀ (l1 : Int32) (st : zs_T), B45 l1 st → zs_Go p l e (zs_rm 1 24) s m args below meth c g A (MQ below (zs_Qv g zs_ly zs_N A K) args s 0 0 A) 7 45 [(0, .ref (g.2.1 635)), (1, .int l1)] [] st) (hB53 : ∀ (l1 : Int32) (l2 : Int32) (st : zs_T), B53 l1 l2 st → zs_Go p l e (zs_rm 1 24) s m args below meth c g A (MQ below (zs_Qv g zs_ly zs_N A K) args s 0 0 A) 7 53 [(0, .ref (g.2.1 635)), (1, .int l1), (2, .int l2)] [] st) : ∀ (n : Nat) (l1 : Int32) (l2 : Int32) (l3 : Int32) (l4 : Int32) (l5 : Int32) (l6 : Int32) (st : zs_T), zf_MO_findSets_180 K B45 B53 n l1 l2 l3 l4 l5 l6 st → zs_Go p l e (zs_rm 1 24) s m args below meth c g A (MQ below (zs_Qv g zs_ly zs_N A K) args s 0 0 A) 7 180 [(0, .ref (g.2.1 635)), (1, .int l1), (2, .int l2), (3, .int l3), (4, .int l4), (5, .int l5), (6, .int l6)] [] st := by
  intro n
  induction n with
  | zero => intro l1 l2 l3 l4 l5 l6 st h; exact False.elim h
  | succ n ih => intro l1 l2 l3 l4 l5 l6 st h; exact zw_MO_findSets_180_s hM hB45 hB53 ih l1 l2 l3 l4 l5 l6 st h
set_option maxHeartbeats 4000000 in
set_option maxRecDepth 100000 in
theorem zw_MO_findSets_177 (hM : zs_M p c cMO_findSets 7 s m meth args "ThriftyStoresModel" none g)   {K : zs_T → Prop} {B45 : Int32 → zs_T → Prop} {B53 : Int32 → Int32 → zs_T → Prop} (hB45 : ∀ (l1 : Int32) (st : zs_T), B45 l1 st → zs_Go p l e (zs_rm 1 24) s m args below meth c g A (MQ below (zs_Qv g zs_ly zs_N A K) args s 0 0 A) 7 45 [(0, .ref (g.2.1 635)), (1, .int l1)] [] st) (hB53 : ∀ (l1 : Int32) (l2 : Int32) (st : zs_T), B53 l1 l2 st → zs_Go p l e (zs_rm 1 24) s m args below meth c g A (MQ below (zs_Qv g zs_ly zs_N A K) args s 0 0 A) 7 53 [(0, .ref (g.2.1 635)), (1, .int l1), (2, .int l2)] [] st) (l1 : Int32) (l2 : Int32) (l3 : Int32) (l4 : Int32) (l5 : Int32) (st : zs_T) (h : zf_MO_findSets_177 K B45 B53 l1 l2 l3 l4 l5 st) : zs_Go p l e (zs_rm 1 24) s m args below meth c g A (MQ below (zs_Qv g zs_ly zs_N A K) args s 0 0 A) 7 177 [(0, .ref (g.2.1 635)), (1, .int l1), (2, .int l2), (3, .int l3), (4, .int l4), (5, .int l5)] [] st := by
  obtain ⟨hx, hb, hml, hr, hlk, hts, hown, hK⟩ := id hM
  intro ls H locs hl hP hS
  unfold zf_MO_findSets_177 at h
  refine lv_iconst (v := 0) hx hb dMO_findSets_177 (by decide) ?_
  refine lv_istore hx hb dMO_findSets_178 hl (by decide) rfl (fun ls hl => ?_)
  have hl : lv_has ls 7 [(6, .int 0), (0, .ref (g.2.1 635)), (1, .int l1), (2, .int l2), (3, .int l3), (4, .int l4), (5, .int l5)] := hl
  obtain ⟨n, h⟩ := h
  exact zw_MO_findSets_180 hM hB45 hB53 n l1 l2 l3 l4 l5 0 st h ls H locs (lv_sub hl [1, 2, 3, 4, 5, 6, 0] rfl) hP hS
set_option maxHeartbeats 4000000 in
set_option maxRecDepth 100000 in
theorem zw_MO_findSets_176 (hM : zs_M p c cMO_findSets 7 s m meth args "ThriftyStoresModel" none g)   {K : zs_T → Prop} {B45 : Int32 → zs_T → Prop} {B53 : Int32 → Int32 → zs_T → Prop} (hB45 : ∀ (l1 : Int32) (st : zs_T), B45 l1 st → zs_Go p l e (zs_rm 1 24) s m args below meth c g A (MQ below (zs_Qv g zs_ly zs_N A K) args s 0 0 A) 7 45 [(0, .ref (g.2.1 635)), (1, .int l1)] [] st) (hB53 : ∀ (l1 : Int32) (l2 : Int32) (st : zs_T), B53 l1 l2 st → zs_Go p l e (zs_rm 1 24) s m args below meth c g A (MQ below (zs_Qv g zs_ly zs_N A K) args s 0 0 A) 7 53 [(0, .ref (g.2.1 635)), (1, .int l1), (2, .int l2)] [] st) (l2 : Int32) (l3 : Int32) (l4 : Int32) (l5 : Int32) (s0 : Int32) (st : zs_T) (h : zf_MO_findSets_176 K B45 B53 l2 l3 l4 l5 s0 st) : zs_Go p l e (zs_rm 1 24) s m args below meth c g A (MQ below (zs_Qv g zs_ly zs_N A K) args s 0 0 A) 7 176 [(0, .ref (g.2.1 635)), (2, .int l2), (3, .int l3), (4, .int l4), (5, .int l5)] [.int s0] st := by
  obtain ⟨hx, hb, hml, hr, hlk, hts, hown, hK⟩ := id hM
  intro ls H locs hl hP hS
  unfold zf_MO_findSets_176 at h
  refine lv_istore_n hx hb dMO_findSets_176 rfl hl (by decide) rfl (fun ls hl => ?_)
  have hl : lv_has ls 7 [(1, .int s0), (0, .ref (g.2.1 635)), (2, .int l2), (3, .int l3), (4, .int l4), (5, .int l5)] := hl
  exact zw_MO_findSets_177 hM hB45 hB53 s0 l2 l3 l4 l5 st h ls H locs (lv_sub hl [1, 0, 2, 3, 4, 5] rfl) hP hS
set_option maxHeartbeats 4000000 in
set_option maxRecDepth 100000 in
theorem zw_MO_findSets_171 (hM : zs_M p c cMO_findSets 7 s m meth args "ThriftyStoresModel" none g)   {K : zs_T → Prop} {B45 : Int32 → zs_T → Prop} {B53 : Int32 → Int32 → zs_T → Prop} (hB45 : ∀ (l1 : Int32) (st : zs_T), B45 l1 st → zs_Go p l e (zs_rm 1 24) s m args below meth c g A (MQ below (zs_Qv g zs_ly zs_N A K) args s 0 0 A) 7 45 [(0, .ref (g.2.1 635)), (1, .int l1)] [] st) (hB53 : ∀ (l1 : Int32) (l2 : Int32) (st : zs_T), B53 l1 l2 st → zs_Go p l e (zs_rm 1 24) s m args below meth c g A (MQ below (zs_Qv g zs_ly zs_N A K) args s 0 0 A) 7 53 [(0, .ref (g.2.1 635)), (1, .int l1), (2, .int l2)] [] st) (l2 : Int32) (l3 : Int32) (l4 : Int32) (l5 : Int32) (st : zs_T) (h : zf_MO_findSets_171 K B45 B53 l2 l3 l4 l5 st) : zs_Go p l e (zs_rm 1 24) s m args below meth c g A (MQ below (zs_Qv g zs_ly zs_N A K) args s 0 0 A) 7 171 [(0, .ref (g.2.1 635)), (2, .int l2), (3, .int l3), (4, .int l4), (5, .int l5)] [] st := by
  obtain ⟨hx, hb, hml, hr, hlk, hts, hown, hK⟩ := id hM
  intro ls H locs hl hP hS
  unfold zf_MO_findSets_171 at h
  refine lv_iconst (v := 1) hx hb dMO_findSets_171 (by decide) ?_
  refine lv_goto (tgt := 176) hx hb dMO_findSets_172 rfl ?_
  exact zw_MO_findSets_176 hM hB45 hB53 l2 l3 l4 l5 1 st h ls H locs (lv_sub hl [0, 1, 2, 3, 4] rfl) hP hS
set_option maxHeartbeats 4000000 in
set_option maxRecDepth 100000 in
theorem zw_MO_findSets_156 (hM : zs_M p c cMO_findSets 7 s m meth args "ThriftyStoresModel" none g)   {K : zs_T → Prop} {B45 : Int32 → zs_T → Prop} {B53 : Int32 → Int32 → zs_T → Prop} (hB45 : ∀ (l1 : Int32) (st : zs_T), B45 l1 st → zs_Go p l e (zs_rm 1 24) s m args below meth c g A (MQ below (zs_Qv g zs_ly zs_N A K) args s 0 0 A) 7 45 [(0, .ref (g.2.1 635)), (1, .int l1)] [] st) (hB53 : ∀ (l1 : Int32) (l2 : Int32) (st : zs_T), B53 l1 l2 st → zs_Go p l e (zs_rm 1 24) s m args below meth c g A (MQ below (zs_Qv g zs_ly zs_N A K) args s 0 0 A) 7 53 [(0, .ref (g.2.1 635)), (1, .int l1), (2, .int l2)] [] st) (l1 : Int32) (l2 : Int32) (l3 : Int32) (l4 : Int32) (l5 : Int32) (st : zs_T) (h : zf_MO_findSets_156 K B45 B53 l1 l2 l3 l4 l5 st) : zs_Go p l e (zs_rm 1 24) s m args below meth c g A (MQ below (zs_Qv g zs_ly zs_N A K) args s 0 0 A) 7 156 [(0, .ref (g.2.1 635)), (1, .int l1), (2, .int l2), (3, .int l3), (4, .int l4), (5, .int l5)] [] st := by
  obtain ⟨hx, hb, hml, hr, hlk, hts, hown, hK⟩ := id hM
  intro ls H locs hl hP hS
  unfold zf_MO_findSets_156 at h
  refine lv_aload_n hx hb dMO_findSets_156 rfl (lv_at hl 0 rfl) ?_
  refine lv_iload hx hb dMO_findSets_157 (lv_at hl 5 rfl) ?_
  refine lv_iload hx hb dMO_findSets_159 (lv_at hl 4 rfl) ?_
  refine zr_calli (va_runV (As := [.int l5, .int l4]) (rest := []) ⟨hx, hb, hml, hown, hts⟩ (zc_MO_moreMay l g A  h) (cwV 2 hts (zs_gV zq_861 zq_863 zp_37 zq_8 zq_864) rfl rfl rfl ⟨rfl, by decide, by decide, by decide +kernel⟩ ⟨Nat.le_of_ble_eq_true rfl, Nat.le_of_ble_eq_true rfl⟩) (zs_preV zs_nwk hK hP zl_635.1 zl_635.2 rfl) rfl rfl hl.1 rfl (lv_room (Nat.le_of_ble_eq_true rfl)) dMO_findSets_161 ⟨Nat.le_refl _, Nat.le_refl _⟩) hS (fun r802 u801 H locs h hP hS => ?_)
  refine lv_if_ne (tgt := 171) hx hb dMO_findSets_164 rfl (fun hc => ?_) (fun hc => ?_)
  · have h := h.1 hc
    clear hc
    exact zw_MO_findSets_171 hM hB45 hB53 l2 l3 l4 l5 u801 h ls H locs (lv_sub hl [0, 2, 3, 4, 5] rfl) hP hS
  · have h := h.2 hc
    clear hc
    refine lv_iload_n hx hb dMO_findSets_167 rfl (lv_at hl 1 rfl) ?_
    refine lv_if_eq (tgt := 175) hx hb dMO_findSets_168 rfl (fun hc => ?_) (fun hc => ?_)
    · have h := h.1 hc
      clear hc
      refine lv_iconst (v := 0) hx hb dMO_findSets_175 (by decide) ?_
      exact zw_MO_findSets_176 hM hB45 hB53 l2 l3 l4 l5 0 u801 h ls H locs (lv_sub hl [0, 2, 3, 4, 5] rfl) hP hS
    · have h := h.2 hc
      clear hc
      exact zw_MO_findSets_171 hM hB45 hB53 l2 l3 l4 l5 u801 h ls H locs (lv_sub hl [0, 2, 3, 4, 5] rfl) hP hS
set_option maxHeartbeats 4000000 in
set_option maxRecDepth 100000 in
theorem zw_MO_findSets_145 (hM : zs_M p c cMO_findSets 7 s m meth args "ThriftyStoresModel" none g)   {K : zs_T → Prop} {B45 : Int32 → zs_T → Prop} {B53 : Int32 → Int32 → zs_T → Prop} (hB45 : ∀ (l1 : Int32) (st : zs_T), B45 l1 st → zs_Go p l e (zs_rm 1 24) s m args below meth c g A (MQ below (zs_Qv g zs_ly zs_N A K) args s 0 0 A) 7 45 [(0, .ref (g.2.1 635)), (1, .int l1)] [] st) (hB53 : ∀ (l1 : Int32) (l2 : Int32) (st : zs_T), B53 l1 l2 st → zs_Go p l e (zs_rm 1 24) s m args below meth c g A (MQ below (zs_Qv g zs_ly zs_N A K) args s 0 0 A) 7 53 [(0, .ref (g.2.1 635)), (1, .int l1), (2, .int l2)] [] st) (l1 : Int32) (l2 : Int32) (l3 : Int32) (l4 : Int32) (l5 : Int32) (st : zs_T) (h : zf_MO_findSets_145 K B45 B53 l1 l2 l3 l4 l5 st) : zs_Go p l e (zs_rm 1 24) s m args below meth c g A (MQ below (zs_Qv g zs_ly zs_N A K) args s 0 0 A) 7 145 [(0, .ref (g.2.1 635)), (1, .int l1), (2, .int l2), (3, .int l3), (4, .int l4), (5, .int l5)] [] st := by
  obtain ⟨hx, hb, hml, hr, hlk, hts, hown, hK⟩ := id hM
  intro ls H locs hl hP hS
  unfold zf_MO_findSets_145 at h
  refine lv_iload_n hx hb dMO_findSets_145 rfl (lv_at hl 3 rfl) ?_
  refine lv_iconst (v := 1) hx hb dMO_findSets_146 (by decide) ?_
  refine lv_icmp_eq (tgt := 156) hx hb dMO_findSets_147 rfl (fun hc => ?_) (fun hc => ?_)
  · have h := h.1 hc
    clear hc
    exact zw_MO_findSets_156 hM hB45 hB53 l1 l2 l3 l4 l5 st h ls H locs (lv_sub hl [0, 1, 2, 3, 4, 5] rfl) hP hS
  · have h := h.2 hc
    clear hc
    refine lv_iload_n hx hb dMO_findSets_150 rfl (lv_at hl 3 rfl) ?_
    refine lv_bipush (v := 7) hx hb dMO_findSets_151 (by decide) ?_
    refine lv_icmp_ne (tgt := 177) hx hb dMO_findSets_153 rfl (fun hc => ?_) (fun hc => ?_)
    · have h := h.1 hc
      clear hc
      exact zw_MO_findSets_177 hM hB45 hB53 l1 l2 l3 l4 l5 st h ls H locs (lv_sub hl [0, 1, 2, 3, 4, 5] rfl) hP hS
    · have h := h.2 hc
      clear hc
      exact zw_MO_findSets_156 hM hB45 hB53 l1 l2 l3 l4 l5 st h ls H locs (lv_sub hl [0, 1, 2, 3, 4, 5] rfl) hP hS
set_option maxHeartbeats 4000000 in
set_option maxRecDepth 100000 in
theorem zw_MO_findSets_130 (hM : zs_M p c cMO_findSets 7 s m meth args "ThriftyStoresModel" none g)   {K : zs_T → Prop} {B45 : Int32 → zs_T → Prop} {B53 : Int32 → Int32 → zs_T → Prop} (hB45 : ∀ (l1 : Int32) (st : zs_T), B45 l1 st → zs_Go p l e (zs_rm 1 24) s m args below meth c g A (MQ below (zs_Qv g zs_ly zs_N A K) args s 0 0 A) 7 45 [(0, .ref (g.2.1 635)), (1, .int l1)] [] st) (hB53 : ∀ (l1 : Int32) (l2 : Int32) (st : zs_T), B53 l1 l2 st → zs_Go p l e (zs_rm 1 24) s m args below meth c g A (MQ below (zs_Qv g zs_ly zs_N A K) args s 0 0 A) 7 53 [(0, .ref (g.2.1 635)), (1, .int l1), (2, .int l2)] [] st) (l2 : Int32) (l3 : Int32) (l4 : Int32) (l5 : Int32) (s0 : Int32) (st : zs_T) (h : zf_MO_findSets_130 K B45 B53 l2 l3 l4 l5 s0 st) : zs_Go p l e (zs_rm 1 24) s m args below meth c g A (MQ below (zs_Qv g zs_ly zs_N A K) args s 0 0 A) 7 130 [(0, .ref (g.2.1 635)), (2, .int l2), (3, .int l3), (4, .int l4), (5, .int l5)] [.int s0] st := by
  obtain ⟨hx, hb, hml, hr, hlk, hts, hown, hK⟩ := id hM
  intro ls H locs hl hP hS
  unfold zf_MO_findSets_130 at h
  refine lv_istore_n hx hb dMO_findSets_130 rfl hl (by decide) rfl (fun ls hl => ?_)
  have hl : lv_has ls 7 [(1, .int s0), (0, .ref (g.2.1 635)), (2, .int l2), (3, .int l3), (4, .int l4), (5, .int l5)] := hl
  refine lv_aload_n hx hb dMO_findSets_131 rfl (lv_at hl 1 rfl) ?_
  refine zr_getr (b := 641) hx hb hts zi_MO hown hK.1 hP zl_635.1 zl_635.2 rfl 10 (by decide) rfl (hts _ zq_743) dMO_findSets_132 ?_
  refine lv_sipush (v := 200) hx hb dMO_findSets_135 (by decide) ?_
  refine lv_iload hx hb dMO_findSets_138 (lv_at hl 4 rfl) ?_
  refine lv_imul hx hb dMO_findSets_140 ?_
  refine lv_iload_n hx hb dMO_findSets_141 rfl (lv_at hl 2 rfl) ?_
  refine lv_iadd hx hb dMO_findSets_142 ?_
  refine lv_iconst (v := 1) hx hb dMO_findSets_143 (by decide) ?_
  obtain ⟨hi701, h⟩ := h
  refine zr_zast hx hb hK.1 hP hS zl_641.1 zl_641.2 hi701 dMO_findSets_144 (fun H locs hP hS => ?_)
  obtain ⟨t702, ez⟩ : ∃ tz : zs_T, tz = zs_i st 641 ((200 * l4) + l2).toNatClampNeg (vp_nar .boolean 1) := ⟨_, rfl⟩
  have h := h t702 ez
  have hP : zs_P g zs_ly zs_N A t702 H := by rw [ez]; exact hP
  clear ez
  exact zw_MO_findSets_145 hM hB45 hB53 s0 l2 l3 l4 l5 t702 h ls H locs (lv_sub hl [1, 0, 2, 3, 4, 5] rfl) hP hS
set_option maxHeartbeats 4000000 in
set_option maxRecDepth 100000 in
theorem zw_MO_findSets_125 (hM : zs_M p c cMO_findSets 7 s m meth args "ThriftyStoresModel" none g)   {K : zs_T → Prop} {B45 : Int32 → zs_T → Prop} {B53 : Int32 → Int32 → zs_T → Prop} (hB45 : ∀ (l1 : Int32) (st : zs_T), B45 l1 st → zs_Go p l e (zs_rm 1 24) s m args below meth c g A (MQ below (zs_Qv g zs_ly zs_N A K) args s 0 0 A) 7 45 [(0, .ref (g.2.1 635)), (1, .int l1)] [] st) (hB53 : ∀ (l1 : Int32) (l2 : Int32) (st : zs_T), B53 l1 l2 st → zs_Go p l e (zs_rm 1 24) s m args below meth c g A (MQ below (zs_Qv g zs_ly zs_N A K) args s 0 0 A) 7 53 [(0, .ref (g.2.1 635)), (1, .int l1), (2, .int l2)] [] st) (l2 : Int32) (l3 : Int32) (l4 : Int32) (l5 : Int32) (st : zs_T) (h : zf_MO_findSets_125 K B45 B53 l2 l3 l4 l5 st) : zs_Go p l e (zs_rm 1 24) s m args below meth c g A (MQ below (zs_Qv g zs_ly zs_N A K) args s 0 0 A) 7 125 [(0, .ref (g.2.1 635)), (2, .int l2), (3, .int l3), (4, .int l4), (5, .int l5)] [] st := by
  obtain ⟨hx, hb, hml, hr, hlk, hts, hown, hK⟩ := id hM
  intro ls H locs hl hP hS
  unfold zf_MO_findSets_125 at h
  refine lv_iconst (v := 1) hx hb dMO_findSets_125 (by decide) ?_
  refine lv_goto (tgt := 130) hx hb dMO_findSets_126 rfl ?_
  exact zw_MO_findSets_130 hM hB45 hB53 l2 l3 l4 l5 1 st h ls H locs (lv_sub hl [0, 1, 2, 3, 4] rfl) hP hS
set_option maxHeartbeats 4000000 in
set_option maxRecDepth 100000 in
theorem zw_MO_findSets_53_s (hM : zs_M p c cMO_findSets 7 s m meth args "ThriftyStoresModel" none g)   {K : zs_T → Prop} {B45 : Int32 → zs_T → Prop} {B53 : Int32 → Int32 → zs_T → Prop} (hB45 : ∀ (l1 : Int32) (st : zs_T), B45 l1 st → zs_Go p l e (zs_rm 1 24) s m args below meth c g A (MQ below (zs_Qv g zs_ly zs_N A K) args s 0 0 A) 7 45 [(0, .ref (g.2.1 635)), (1, .int l1)] [] st) (hB53 : ∀ (l1 : Int32) (l2 : Int32) (st : zs_T), B53 l1 l2 st → zs_Go p l e (zs_rm 1 24) s m args below meth c g A (MQ below (zs_Qv g zs_ly zs_N A K) args s 0 0 A) 7 53 [(0, .ref (g.2.1 635)), (1, .int l1), (2, .int l2)] [] st) (l1 : Int32) (l2 : Int32) (st : zs_T) (h : zf_MO_findSets_53_s K B45 B53 l1 l2 st) : zs_Go p l e (zs_rm 1 24) s m args below meth c g A (MQ below (zs_Qv g zs_ly zs_N A K) args s 0 0 A) 7 53 [(0, .ref (g.2.1 635)), (1, .int l1), (2, .int l2)] [] st := by
  obtain ⟨hx, hb, hml, hr, hlk, hts, hown, hK⟩ := id hM
  intro ls H locs hl hP hS
  unfold zf_MO_findSets_53_s at h
  refine lv_iload_n hx hb dMO_findSets_53 rfl (lv_at hl 2 rfl) ?_
  refine lv_aload_n hx hb dMO_findSets_54 rfl (lv_at hl 0 rfl) ?_
  refine zr_geti hx hb hts zi_MO hown hK.1 hP zl_635.1 zl_635.2 rfl 5 (by decide) rfl (hts _ zq_738) dMO_findSets_55 ?_
  refine lv_icmp_ge (tgt := 289) hx hb dMO_findSets_58 rfl (fun hc => ?_) (fun hc => ?_)
  · have h := h.1 hc
    clear hc
    refine lv_goto (tgt := 45) hx hb dMO_findSets_289 rfl ?_
    exact hB45 l1 st h ls H locs (lv_sub hl [0, 1] rfl) hP hS
  · have h := h.2 hc
    clear hc
    refine lv_aload_n hx hb dMO_findSets_61 rfl (lv_at hl 0 rfl) ?_
    refine zr_getr (b := 636) hx hb hts zi_MO hown hK.1 hP zl_635.1 zl_635.2 rfl 1 (by decide) rfl (hts _ zq_734) dMO_findSets_62 ?_
    refine lv_aload_n hx hb dMO_findSets_65 rfl (lv_at hl 0 rfl) ?_
    refine zr_geti hx hb hts zi_MO hown hK.1 hP zl_635.1 zl_635.2 rfl 9 (by decide) rfl (hts _ zq_742) dMO_findSets_66 ?_
    refine lv_iload_n hx hb dMO_findSets_69 rfl (lv_at hl 2 rfl) ?_
    refine lv_iadd hx hb dMO_findSets_70 ?_
    obtain ⟨hi401, h⟩ := h
    refine zr_iald hx hb hK.1 hP zl_636.1 zl_636.2 hi401 dMO_findSets_71 ?_
    refine lv_istore_n hx hb dMO_findSets_72 rfl hl (by decide) rfl (fun ls hl => ?_)
    have hl : lv_has ls 7 [(3, .int (st.1 636 ((st.1 635 9) + l2).toNatClampNeg)), (0, .ref (g.2.1 635)), (1, .int l1), (2, .int l2)] := hl
    refine lv_aload_n hx hb dMO_findSets_73 rfl (lv_at hl 1 rfl) ?_
    refine zr_getr (b := 637) hx hb hts zi_MO hown hK.1 hP zl_635.1 zl_635.2 rfl 2 (by decide) rfl (hts _ zq_735) dMO_findSets_74 ?_
    refine lv_aload_n hx hb dMO_findSets_77 rfl (lv_at hl 1 rfl) ?_
    refine zr_geti hx hb hts zi_MO hown hK.1 hP zl_635.1 zl_635.2 rfl 9 (by decide) rfl (hts _ zq_742) dMO_findSets_78 ?_
    refine lv_iload_n hx hb dMO_findSets_81 rfl (lv_at hl 3 rfl) ?_
    refine lv_iadd hx hb dMO_findSets_82 ?_
    obtain ⟨hi402, h⟩ := h
    refine zr_iald hx hb hK.1 hP zl_637.1 zl_637.2 hi402 dMO_findSets_83 ?_
    refine lv_istore hx hb dMO_findSets_84 hl (by decide) rfl (fun ls hl => ?_)
    have hl : lv_has ls 7 [(4, .int (st.1 637 ((st.1 635 9) + l2).toNatClampNeg)), (3, .int (st.1 636 ((st.1 635 9) + l2).toNatClampNeg)), (0, .ref (g.2.1 635)), (1, .int l1), (2, .int l2)] := hl
    refine lv_aload_n hx hb dMO_findSets_86 rfl (lv_at hl 2 rfl) ?_
    refine zr_getr (b := 638) hx hb hts zi_MO hown hK.1 hP zl_635.1 zl_635.2 rfl 3 (by decide) rfl (hts _ zq_736) dMO_findSets_87 ?_
    refine lv_aload_n hx hb dMO_findSets_90 rfl (lv_at hl 2 rfl) ?_
    refine zr_geti hx hb hts zi_MO hown hK.1 hP zl_635.1 zl_635.2 rfl 9 (by decide) rfl (hts _ zq_742) dMO_findSets_91 ?_
    refine lv_iload_n hx hb dMO_findSets_94 rfl (lv_at hl 4 rfl) ?_
    refine lv_iadd hx hb dMO_findSets_95 ?_
    obtain ⟨hi403, h⟩ := h
    refine zr_iald hx hb hK.1 hP zl_638.1 zl_638.2 hi403 dMO_findSets_96 ?_
    refine lv_istore hx hb dMO_findSets_97 hl (by decide) rfl (fun ls hl => ?_)
    have hl : lv_has ls 7 [(5, .int (st.1 638 ((st.1 635 9) + l2).toNatClampNeg)), (4, .int (st.1 637 ((st.1 635 9) + l2).toNatClampNeg)), (3, .int (st.1 636 ((st.1 635 9) + l2).toNatClampNeg)), (0, .ref (g.2.1 635)), (1, .int l1), (2, .int l2)] := hl
    refine lv_iload_n hx hb dMO_findSets_99 rfl (lv_at hl 2 rfl) ?_
    refine lv_bipush (v := 8) hx hb dMO_findSets_100 (by decide) ?_
    refine lv_icmp_ne (tgt := 145) hx hb dMO_findSets_102 rfl (fun hc => ?_) (fun hc => ?_)
    · have h := h.1 hc
      clear hc
      exact zw_MO_findSets_145 hM hB45 hB53 l1 l2 (st.1 636 ((st.1 635 9) + l2).toNatClampNeg) (st.1 637 ((st.1 635 9) + l2).toNatClampNeg) (st.1 638 ((st.1 635 9) + l2).toNatClampNeg) st h ls H locs (lv_sub hl [3, 4, 5, 2, 1, 0] rfl) hP hS
    · have h := h.2 hc
      clear hc
      refine lv_iload_n hx hb dMO_findSets_105 rfl (lv_at hl 4 rfl) ?_
      refine lv_if_ne (tgt := 125) hx hb dMO_findSets_106 rfl (fun hc => ?_) (fun hc => ?_)
      · have h := h.1 hc
        clear hc
        exact zw_MO_findSets_125 hM hB45 hB53 l2 (st.1 636 ((st.1 635 9) + l2).toNatClampNeg) (st.1 637 ((st.1 635 9) + l2).toNatClampNeg) (st.1 638 ((st.1 635 9) + l2).toNatClampNeg) st h ls H locs (lv_sub hl [3, 5, 2, 1, 0] rfl) hP hS
      · have h := h.2 hc
        clear hc
        refine lv_aload_n hx hb dMO_findSets_109 rfl (lv_at hl 3 rfl) ?_
        refine zr_getr (b := 641) hx hb hts zi_MO hown hK.1 hP zl_635.1 zl_635.2 rfl 10 (by decide) rfl (hts _ zq_743) dMO_findSets_110 ?_
        refine lv_sipush (v := 200) hx hb dMO_findSets_113 (by decide) ?_
        refine lv_iload hx hb dMO_findSets_116 (lv_at hl 1 rfl) ?_
        refine lv_imul hx hb dMO_findSets_118 ?_
        refine lv_iload_n hx hb dMO_findSets_119 rfl (lv_at hl 5 rfl) ?_
        refine lv_iadd hx hb dMO_findSets_120 ?_
        obtain ⟨hi404, h⟩ := h
        refine zr_zald hx hb hK.1 hP zl_641.1 zl_641.2 hi404 dMO_findSets_121 ?_
        refine lv_if_ne (tgt := 129) hx hb dMO_findSets_122 rfl (fun hc => ?_) (fun hc => ?_)
        · have h := h.1 hc
          clear hc
          refine lv_iconst (v := 0) hx hb dMO_findSets_129 (by decide) ?_
          exact zw_MO_findSets_130 hM hB45 hB53 l2 (st.1 636 ((st.1 635 9) + l2).toNatClampNeg) (st.1 637 ((st.1 635 9) + l2).toNatClampNeg) (st.1 638 ((st.1 635 9) + l2).toNatClampNeg) 0 st h ls H locs (lv_sub hl [3, 5, 2, 1, 0] rfl) hP hS
        · have h := h.2 hc
          clear hc
          exact zw_MO_findSets_125 hM hB45 hB53 l2 (st.1 636 ((st.1 635 9) + l2).toNatClampNeg) (st.1 637 ((st.1 635 9) + l2).toNatClampNeg) (st.1 638 ((st.1 635 9) + l2).toNatClampNeg) st h ls H locs (lv_sub hl [3, 5, 2, 1, 0] rfl) hP hS
theorem zw_MO_findSets_53 (hM : zs_M p c cMO_findSets 7 s m meth args "ThriftyStoresModel" none g)   {K : zs_T → Prop} {B45 : Int32 → zs_T → Prop} (hB45 : ∀ (l1 : Int32) (st : zs_T), B45 l1 st → zs_Go p l e (zs_rm 1 24) s m args below meth c g A (MQ below (zs_Qv g zs_ly zs_N A K) args s 0 0 A) 7 45 [(0, .ref (g.2.1 635)), (1, .int l1)] [] st) : ∀ (n : Nat) (l1 : Int32) (l2 : Int32) (st : zs_T), zf_MO_findSets_53 K B45 n l1 l2 st → zs_Go p l e (zs_rm 1 24) s m args below meth c g A (MQ below (zs_Qv g zs_ly zs_N A K) args s 0 0 A) 7 53 [(0, .ref (g.2.1 635)), (1, .int l1), (2, .int l2)] [] st := by
  intro n
  induction n with
  | zero => intro l1 l2 st h; exact False.elim h
  | succ n ih => intro l1 l2 st h; exact zw_MO_findSets_53_s hM hB45 ih l1 l2 st h
set_option maxHeartbeats 4000000 in
set_option maxRecDepth 100000 in
theorem zw_MO_findSets_45_s (hM : zs_M p c cMO_findSets 7 s m meth args "ThriftyStoresModel" none g)   {K : zs_T → Prop}  {B45 : Int32 → zs_T → Prop}  (hB45 : ∀ (l1 : Int32) (st : zs_T), B45 l1 st → zs_Go p l e (zs_rm 1 24) s m args below meth c g A (MQ below (zs_Qv g zs_ly zs_N A K) args s 0 0 A) 7 45 [(0, .ref (g.2.1 635)), (1, .int l1)] [] st) (l1 : Int32) (st : zs_T) (h : zf_MO_findSets_45_s K B45 l1 st) : zs_Go p l e (zs_rm 1 24) s m args below meth c g A (MQ below (zs_Qv g zs_ly zs_N A K) args s 0 0 A) 7 45 [(0, .ref (g.2.1 635)), (1, .int l1)] [] st := by
  obtain ⟨hx, hb, hml, hr, hlk, hts, hown, hK⟩ := id hM
  intro ls H locs hl hP hS
  unfold zf_MO_findSets_45_s at h
  refine lv_iload_n hx hb dMO_findSets_45 rfl (lv_at hl 1 rfl) ?_
  refine lv_if_eq (tgt := 292) hx hb dMO_findSets_46 rfl (fun hc => ?_) (fun hc => ?_)
  · have h := h.1 hc
    clear hc
    exact zr_vret hx hb hr hlk hP hS h dMO_findSets_292
  · have h := h.2 hc
    clear hc
    refine lv_iconst (v := 0) hx hb dMO_findSets_49 (by decide) ?_
    refine lv_istore_n hx hb dMO_findSets_50 rfl hl (by decide) rfl (fun ls hl => ?_)
    have hl : lv_has ls 7 [(1, .int 0), (0, .ref (g.2.1 635))] := hl
    refine lv_iconst (v := 0) hx hb dMO_findSets_51 (by decide) ?_
    refine lv_istore_n hx hb dMO_findSets_52 rfl hl (by decide) rfl (fun ls hl => ?_)
    have hl : lv_has ls 7 [(2, .int 0), (1, .int 0), (0, .ref (g.2.1 635))] := hl
    obtain ⟨n, h⟩ := h
    exact zw_MO_findSets_53 hM hB45 n 0 0 st h ls H locs (lv_sub hl [2, 1, 0] rfl) hP hS
theorem zw_MO_findSets_45 (hM : zs_M p c cMO_findSets 7 s m meth args "ThriftyStoresModel" none g)   {K : zs_T → Prop}   : ∀ (n : Nat) (l1 : Int32) (st : zs_T), zf_MO_findSets_45 K n l1 st → zs_Go p l e (zs_rm 1 24) s m args below meth c g A (MQ below (zs_Qv g zs_ly zs_N A K) args s 0 0 A) 7 45 [(0, .ref (g.2.1 635)), (1, .int l1)] [] st := by
  intro n
  induction n with
  | zero => intro l1 st h; exact False.elim h
  | succ n ih => intro l1 st h; exact zw_MO_findSets_45_s hM  ih l1 st h
set_option maxHeartbeats 4000000 in
set_option maxRecDepth 100000 in
theorem zw_MO_findSets_24_s (hM : zs_M p c cMO_findSets 7 s m meth args "ThriftyStoresModel" none g)   {K : zs_T → Prop}  {B24 : Int32 → zs_T → Prop}  (hB24 : ∀ (l1 : Int32) (st : zs_T), B24 l1 st → zs_Go p l e (zs_rm 1 24) s m args below meth c g A (MQ below (zs_Qv g zs_ly zs_N A K) args s 0 0 A) 7 24 [(0, .ref (g.2.1 635)), (1, .int l1)] [] st) (l1 : Int32) (st : zs_T) (h : zf_MO_findSets_24_s K B24 l1 st) : zs_Go p l e (zs_rm 1 24) s m args below meth c g A (MQ below (zs_Qv g zs_ly zs_N A K) args s 0 0 A) 7 24 [(0, .ref (g.2.1 635)), (1, .int l1)] [] st := by
  obtain ⟨hx, hb, hml, hr, hlk, hts, hown, hK⟩ := id hM
  intro ls H locs hl hP hS
  unfold zf_MO_findSets_24_s at h
  refine lv_iload_n hx hb dMO_findSets_24 rfl (lv_at hl 1 rfl) ?_
  refine lv_ldc hx hb hown (hts _ zq_731) dMO_findSets_25 ?_
  refine lv_icmp_ge (tgt := 43) hx hb dMO_findSets_27 rfl (fun hc => ?_) (fun hc => ?_)
  · have h := h.1 hc
    clear hc
    refine lv_iconst (v := 1) hx hb dMO_findSets_43 (by decide) ?_
    refine lv_istore_n hx hb dMO_findSets_44 rfl hl (by decide) rfl (fun ls hl => ?_)
    have hl : lv_has ls 7 [(1, .int 1), (0, .ref (g.2.1 635))] := hl
    obtain ⟨n, h⟩ := h
    exact zw_MO_findSets_45 hM  n 1 st h ls H locs (lv_sub hl [1, 0] rfl) hP hS
  · have h := h.2 hc
    clear hc
    refine lv_aload_n hx hb dMO_findSets_30 rfl (lv_at hl 0 rfl) ?_
    refine zr_getr (b := 642) hx hb hts zi_MO hown hK.1 hP zl_635.1 zl_635.2 rfl 11 (by decide) rfl (hts _ zq_744) dMO_findSets_31 ?_
    refine lv_iload_n hx hb dMO_findSets_34 rfl (lv_at hl 1 rfl) ?_
    refine lv_iconst (v := 0) hx hb dMO_findSets_35 (by decide) ?_
    obtain ⟨hi201, h⟩ := h
    refine zr_zast hx hb hK.1 hP hS zl_642.1 zl_642.2 hi201 dMO_findSets_36 (fun H locs hP hS => ?_)
    obtain ⟨t202, ez⟩ : ∃ tz : zs_T, tz = zs_i st 642 l1.toNatClampNeg (vp_nar .boolean 0) := ⟨_, rfl⟩
    have h := h t202 ez
    have hP : zs_P g zs_ly zs_N A t202 H := by rw [ez]; exact hP
    clear ez
    refine lv_iinc (k := 1) (v := l1 + 1) hx hb dMO_findSets_37 hl rfl (by rw [show Int32.ofInt (1) = 1 from by decide]) (by decide) rfl (fun ls hl => ?_)
    have hl : lv_has ls 7 [(1, .int (l1 + 1)), (0, .ref (g.2.1 635))] := hl
    refine lv_goto (tgt := 24) hx hb dMO_findSets_40 rfl ?_
    exact hB24 (l1 + 1) t202 h ls H locs (lv_sub hl [1, 0] rfl) hP hS
theorem zw_MO_findSets_24 (hM : zs_M p c cMO_findSets 7 s m meth args "ThriftyStoresModel" none g)   {K : zs_T → Prop}   : ∀ (n : Nat) (l1 : Int32) (st : zs_T), zf_MO_findSets_24 K n l1 st → zs_Go p l e (zs_rm 1 24) s m args below meth c g A (MQ below (zs_Qv g zs_ly zs_N A K) args s 0 0 A) 7 24 [(0, .ref (g.2.1 635)), (1, .int l1)] [] st := by
  intro n
  induction n with
  | zero => intro l1 st h; exact False.elim h
  | succ n ih => intro l1 st h; exact zw_MO_findSets_24_s hM  ih l1 st h
set_option maxHeartbeats 4000000 in
set_option maxRecDepth 100000 in
theorem zw_MO_findSets_2_s (hM : zs_M p c cMO_findSets 7 s m meth args "ThriftyStoresModel" none g)   {K : zs_T → Prop}  {B2 : Int32 → zs_T → Prop}  (hB2 : ∀ (l1 : Int32) (st : zs_T), B2 l1 st → zs_Go p l e (zs_rm 1 24) s m args below meth c g A (MQ below (zs_Qv g zs_ly zs_N A K) args s 0 0 A) 7 2 [(0, .ref (g.2.1 635)), (1, .int l1)] [] st) (l1 : Int32) (st : zs_T) (h : zf_MO_findSets_2_s K B2 l1 st) : zs_Go p l e (zs_rm 1 24) s m args below meth c g A (MQ below (zs_Qv g zs_ly zs_N A K) args s 0 0 A) 7 2 [(0, .ref (g.2.1 635)), (1, .int l1)] [] st := by
  obtain ⟨hx, hb, hml, hr, hlk, hts, hown, hK⟩ := id hM
  intro ls H locs hl hP hS
  unfold zf_MO_findSets_2_s at h
  refine lv_iload_n hx hb dMO_findSets_2 rfl (lv_at hl 1 rfl) ?_
  refine lv_sipush (v := 3200) hx hb dMO_findSets_3 (by decide) ?_
  refine lv_icmp_ge (tgt := 22) hx hb dMO_findSets_6 rfl (fun hc => ?_) (fun hc => ?_)
  · have h := h.1 hc
    clear hc
    refine lv_iconst (v := 0) hx hb dMO_findSets_22 (by decide) ?_
    refine lv_istore_n hx hb dMO_findSets_23 rfl hl (by decide) rfl (fun ls hl => ?_)
    have hl : lv_has ls 7 [(1, .int 0), (0, .ref (g.2.1 635))] := hl
    obtain ⟨n, h⟩ := h
    exact zw_MO_findSets_24 hM  n 0 st h ls H locs (lv_sub hl [1, 0] rfl) hP hS
  · have h := h.2 hc
    clear hc
    refine lv_aload_n hx hb dMO_findSets_9 rfl (lv_at hl 0 rfl) ?_
    refine zr_getr (b := 641) hx hb hts zi_MO hown hK.1 hP zl_635.1 zl_635.2 rfl 10 (by decide) rfl (hts _ zq_743) dMO_findSets_10 ?_
    refine lv_iload_n hx hb dMO_findSets_13 rfl (lv_at hl 1 rfl) ?_
    refine lv_iconst (v := 0) hx hb dMO_findSets_14 (by decide) ?_
    obtain ⟨hi101, h⟩ := h
    refine zr_zast hx hb hK.1 hP hS zl_641.1 zl_641.2 hi101 dMO_findSets_15 (fun H locs hP hS => ?_)
    obtain ⟨t102, ez⟩ : ∃ tz : zs_T, tz = zs_i st 641 l1.toNatClampNeg (vp_nar .boolean 0) := ⟨_, rfl⟩
    have h := h t102 ez
    have hP : zs_P g zs_ly zs_N A t102 H := by rw [ez]; exact hP
    clear ez
    refine lv_iinc (k := 1) (v := l1 + 1) hx hb dMO_findSets_16 hl rfl (by rw [show Int32.ofInt (1) = 1 from by decide]) (by decide) rfl (fun ls hl => ?_)
    have hl : lv_has ls 7 [(1, .int (l1 + 1)), (0, .ref (g.2.1 635))] := hl
    refine lv_goto (tgt := 2) hx hb dMO_findSets_19 rfl ?_
    exact hB2 (l1 + 1) t102 h ls H locs (lv_sub hl [1, 0] rfl) hP hS
theorem zw_MO_findSets_2 (hM : zs_M p c cMO_findSets 7 s m meth args "ThriftyStoresModel" none g)   {K : zs_T → Prop}   : ∀ (n : Nat) (l1 : Int32) (st : zs_T), zf_MO_findSets_2 K n l1 st → zs_Go p l e (zs_rm 1 24) s m args below meth c g A (MQ below (zs_Qv g zs_ly zs_N A K) args s 0 0 A) 7 2 [(0, .ref (g.2.1 635)), (1, .int l1)] [] st := by
  intro n
  induction n with
  | zero => intro l1 st h; exact False.elim h
  | succ n ih => intro l1 st h; exact zw_MO_findSets_2_s hM  ih l1 st h
set_option maxHeartbeats 4000000 in
set_option maxRecDepth 100000 in
theorem zc_MO_findSets (l : Launch) (g : zs_G) (A : Nat → Prop)   {st : zs_T} {K : zs_T → Prop} (h : zf_MO_findSets  st K) : Met l yMO_findSets (.code yMO_findSets cMO_findSets 7 none :: zs_tb) (zs_rm 1 24) (zs_Pc zs_nl g zs_ly zs_N A [.ref (g.2.1 635)] st) (zs_Qv g zs_ly zs_N A K) 0 0 A := by
  refine zs_met (cc := cMO_findSets) (maxL := 7) (ret := none) (by decide) (Nat.le_of_ble_eq_true rfl) (fun p e s m below meth c hM => ?_)
  have hM : zs_M p c cMO_findSets 7 s m meth [.ref (g.2.1 635)].toArray "ThriftyStoresModel" none g := hM
  obtain ⟨hx, hb, hml, hr, hlk, hts, hown, hK⟩ := id hM
  intro ls H locs hl hP hS
  have hl : lv_has ls 7 [(0, .ref (g.2.1 635))] := hl
  unfold zf_MO_findSets at h
  refine lv_iconst (v := 0) hx hb dMO_findSets_0 (by decide) ?_
  refine lv_istore_n hx hb dMO_findSets_1 rfl hl (by decide) rfl (fun ls hl => ?_)
  have hl : lv_has ls 7 [(1, .int 0), (0, .ref (g.2.1 635))] := hl
  obtain ⟨n, h⟩ := h
  exact zw_MO_findSets_2 hM  n 0 st h ls H locs (lv_sub hl [1, 0] rfl) hP hS
set_option maxHeartbeats 4000000 in
set_option maxRecDepth 100000 in
theorem zw_MO_meet_55 (hM : zs_M p c cMO_meet 5 s m meth args "ThriftyStoresModel" (some .boolean) g)   {K : Int32 → zs_T → Prop} {B5 : Int32 → Int32 → Int32 → Int32 → zs_T → Prop} (hB5 : ∀ (l1 : Int32) (l2 : Int32) (l3 : Int32) (l4 : Int32) (st : zs_T), B5 l1 l2 l3 l4 st → zs_Go p l e (zs_rm 0 0) s m args below meth c g A (MQ below (zs_Qi g zs_ly zs_N A K) args s 0 0 A) 5 5 [(0, .ref (g.2.1 635)), (1, .int l1), (2, .int l2), (3, .int l3), (4, .int l4)] [] st) (l1 : Int32) (l2 : Int32) (l4 : Int32) (s0 : Int32) (st : zs_T) (h : zf_MO_meet_55 K B5 l1 l2 l4 s0 st) : zs_Go p l e (zs_rm 0 0) s m args below meth c g A (MQ below (zs_Qi g zs_ly zs_N A K) args s 0 0 A) 5 55 [(0, .ref (g.2.1 635)), (1, .int l1), (2, .int l2), (4, .int l4)] [.int s0] st := by
  obtain ⟨hx, hb, hml, hr, hlk, hts, hown, hK⟩ := id hM
  intro ls H locs hl hP hS
  unfold zf_MO_meet_55 at h
  refine lv_istore_n hx hb dMO_meet_55 rfl hl (by decide) rfl (fun ls hl => ?_)
  have hl : lv_has ls 5 [(3, .int s0), (0, .ref (g.2.1 635)), (1, .int l1), (2, .int l2), (4, .int l4)] := hl
  refine lv_iinc (k := 4) (v := l4 + 1) hx hb dMO_meet_56 hl rfl (by rw [show Int32.ofInt (1) = 1 from by decide]) (by decide) rfl (fun ls hl => ?_)
  have hl : lv_has ls 5 [(4, .int (l4 + 1)), (3, .int s0), (0, .ref (g.2.1 635)), (1, .int l1), (2, .int l2)] := hl
  refine lv_goto (tgt := 5) hx hb dMO_meet_59 rfl ?_
  exact hB5 l1 l2 s0 (l4 + 1) st h ls H locs (lv_sub hl [2, 3, 4, 1, 0] rfl) hP hS
set_option maxHeartbeats 4000000 in
set_option maxRecDepth 100000 in
theorem zw_MO_meet_50 (hM : zs_M p c cMO_meet 5 s m meth args "ThriftyStoresModel" (some .boolean) g)   {K : Int32 → zs_T → Prop} {B5 : Int32 → Int32 → Int32 → Int32 → zs_T → Prop} (hB5 : ∀ (l1 : Int32) (l2 : Int32) (l3 : Int32) (l4 : Int32) (st : zs_T), B5 l1 l2 l3 l4 st → zs_Go p l e (zs_rm 0 0) s m args below meth c g A (MQ below (zs_Qi g zs_ly zs_N A K) args s 0 0 A) 5 5 [(0, .ref (g.2.1 635)), (1, .int l1), (2, .int l2), (3, .int l3), (4, .int l4)] [] st) (l1 : Int32) (l2 : Int32) (l4 : Int32) (st : zs_T) (h : zf_MO_meet_50 K B5 l1 l2 l4 st) : zs_Go p l e (zs_rm 0 0) s m args below meth c g A (MQ below (zs_Qi g zs_ly zs_N A K) args s 0 0 A) 5 50 [(0, .ref (g.2.1 635)), (1, .int l1), (2, .int l2), (4, .int l4)] [] st := by
  obtain ⟨hx, hb, hml, hr, hlk, hts, hown, hK⟩ := id hM
  intro ls H locs hl hP hS
  unfold zf_MO_meet_50 at h
  refine lv_iconst (v := 1) hx hb dMO_meet_50 (by decide) ?_
  refine lv_goto (tgt := 55) hx hb dMO_meet_51 rfl ?_
  exact zw_MO_meet_55 hM hB5 l1 l2 l4 1 st h ls H locs (lv_sub hl [0, 1, 2, 3] rfl) hP hS
set_option maxHeartbeats 4000000 in
set_option maxRecDepth 100000 in
theorem zw_MO_meet_54 (hM : zs_M p c cMO_meet 5 s m meth args "ThriftyStoresModel" (some .boolean) g)   {K : Int32 → zs_T → Prop} {B5 : Int32 → Int32 → Int32 → Int32 → zs_T → Prop} (hB5 : ∀ (l1 : Int32) (l2 : Int32) (l3 : Int32) (l4 : Int32) (st : zs_T), B5 l1 l2 l3 l4 st → zs_Go p l e (zs_rm 0 0) s m args below meth c g A (MQ below (zs_Qi g zs_ly zs_N A K) args s 0 0 A) 5 5 [(0, .ref (g.2.1 635)), (1, .int l1), (2, .int l2), (3, .int l3), (4, .int l4)] [] st) (l1 : Int32) (l2 : Int32) (l4 : Int32) (st : zs_T) (h : zf_MO_meet_54 K B5 l1 l2 l4 st) : zs_Go p l e (zs_rm 0 0) s m args below meth c g A (MQ below (zs_Qi g zs_ly zs_N A K) args s 0 0 A) 5 54 [(0, .ref (g.2.1 635)), (1, .int l1), (2, .int l2), (4, .int l4)] [] st := by
  obtain ⟨hx, hb, hml, hr, hlk, hts, hown, hK⟩ := id hM
  intro ls H locs hl hP hS
  unfold zf_MO_meet_54 at h
  refine lv_iconst (v := 0) hx hb dMO_meet_54 (by decide) ?_
  exact zw_MO_meet_55 hM hB5 l1 l2 l4 0 st h ls H locs (lv_sub hl [0, 1, 2, 3] rfl) hP hS
set_option maxHeartbeats 4000000 in
set_option maxRecDepth 100000 in
theorem zw_MO_meet_5_s (hM : zs_M p c cMO_meet 5 s m meth args "ThriftyStoresModel" (some .boolean) g)   {K : Int32 → zs_T → Prop}  {B5 : Int32 → Int32 → Int32 → Int32 → zs_T → Prop}  (hB5 : ∀ (l1 : Int32) (l2 : Int32) (l3 : Int32) (l4 : Int32) (st : zs_T), B5 l1 l2 l3 l4 st → zs_Go p l e (zs_rm 0 0) s m args below meth c g A (MQ below (zs_Qi g zs_ly zs_N A K) args s 0 0 A) 5 5 [(0, .ref (g.2.1 635)), (1, .int l1), (2, .int l2), (3, .int l3), (4, .int l4)] [] st) (l1 : Int32) (l2 : Int32) (l3 : Int32) (l4 : Int32) (st : zs_T) (h : zf_MO_meet_5_s K B5 l1 l2 l3 l4 st) : zs_Go p l e (zs_rm 0 0) s m args below meth c g A (MQ below (zs_Qi g zs_ly zs_N A K) args s 0 0 A) 5 5 [(0, .ref (g.2.1 635)), (1, .int l1), (2, .int l2), (3, .int l3), (4, .int l4)] [] st := by
  obtain ⟨hx, hb, hml, hr, hlk, hts, hown, hK⟩ := id hM
  intro ls H locs hl hP hS
  unfold zf_MO_meet_5_s at h
  refine lv_iload hx hb dMO_meet_5 (lv_at hl 4 rfl) ?_
  refine lv_aload_n hx hb dMO_meet_7 rfl (lv_at hl 0 rfl) ?_
  refine zr_geti hx hb hts zi_MO hown hK.1 hP zl_635.1 zl_635.2 rfl 5 (by decide) rfl (hts _ zq_738) dMO_meet_8 ?_
  refine lv_icmp_ge (tgt := 62) hx hb dMO_meet_11 rfl (fun hc => ?_) (fun hc => ?_)
  · have h := h.1 hc
    clear hc
    refine lv_iload_n hx hb dMO_meet_62 rfl (lv_at hl 3 rfl) ?_
    exact zr_zret hx hb hr hlk hP hS (zs_bn h.1) h.2 dMO_meet_63
  · have h := h.2 hc
    clear hc
    refine lv_iload_n hx hb dMO_meet_14 rfl (lv_at hl 3 rfl) ?_
    refine lv_if_ne (tgt := 50) hx hb dMO_meet_15 rfl (fun hc => ?_) (fun hc => ?_)
    · have h := h.1 hc
      clear hc
      exact zw_MO_meet_50 hM hB5 l1 l2 l4 st h ls H locs (lv_sub hl [0, 1, 2, 4] rfl) hP hS
    · have h := h.2 hc
      clear hc
      refine lv_aload_n hx hb dMO_meet_18 rfl (lv_at hl 0 rfl) ?_
      refine zr_getr (b := 641) hx hb hts zi_MO hown hK.1 hP zl_635.1 zl_635.2 rfl 10 (by decide) rfl (hts _ zq_743) dMO_meet_19 ?_
      refine lv_sipush (v := 200) hx hb dMO_meet_22 (by decide) ?_
      refine lv_iload_n hx hb dMO_meet_25 rfl (lv_at hl 1 rfl) ?_
      refine lv_imul hx hb dMO_meet_26 ?_
      refine lv_iload hx hb dMO_meet_27 (lv_at hl 4 rfl) ?_
      refine lv_iadd hx hb dMO_meet_29 ?_
      obtain ⟨hi102, h⟩ := h
      refine zr_zald hx hb hK.1 hP zl_641.1 zl_641.2 hi102 dMO_meet_30 ?_
      refine lv_if_eq (tgt := 54) hx hb dMO_meet_31 rfl (fun hc => ?_) (fun hc => ?_)
      · have h := h.1 hc
        clear hc
        exact zw_MO_meet_54 hM hB5 l1 l2 l4 st h ls H locs (lv_sub hl [0, 1, 2, 4] rfl) hP hS
      · have h := h.2 hc
        clear hc
        refine lv_aload_n hx hb dMO_meet_34 rfl (lv_at hl 0 rfl) ?_
        refine zr_getr (b := 641) hx hb hts zi_MO hown hK.1 hP zl_635.1 zl_635.2 rfl 10 (by decide) rfl (hts _ zq_743) dMO_meet_35 ?_
        refine lv_sipush (v := 200) hx hb dMO_meet_38 (by decide) ?_
        refine lv_iload_n hx hb dMO_meet_41 rfl (lv_at hl 2 rfl) ?_
        refine lv_imul hx hb dMO_meet_42 ?_
        refine lv_iload hx hb dMO_meet_43 (lv_at hl 4 rfl) ?_
        refine lv_iadd hx hb dMO_meet_45 ?_
        obtain ⟨hi103, h⟩ := h
        refine zr_zald hx hb hK.1 hP zl_641.1 zl_641.2 hi103 dMO_meet_46 ?_
        refine lv_if_eq (tgt := 54) hx hb dMO_meet_47 rfl (fun hc => ?_) (fun hc => ?_)
        · have h := h.1 hc
          clear hc
          exact zw_MO_meet_54 hM hB5 l1 l2 l4 st h ls H locs (lv_sub hl [0, 1, 2, 4] rfl) hP hS
        · have h := h.2 hc
          clear hc
          exact zw_MO_meet_50 hM hB5 l1 l2 l4 st h ls H locs (lv_sub hl [0, 1, 2, 4] rfl) hP hS
theorem zw_MO_meet_5 (hM : zs_M p c cMO_meet 5 s m meth args "ThriftyStoresModel" (some .boolean) g)   {K : Int32 → zs_T → Prop}   : ∀ (n : Nat) (l1 : Int32) (l2 : Int32) (l3 : Int32) (l4 : Int32) (st : zs_T), zf_MO_meet_5 K n l1 l2 l3 l4 st → zs_Go p l e (zs_rm 0 0) s m args below meth c g A (MQ below (zs_Qi g zs_ly zs_N A K) args s 0 0 A) 5 5 [(0, .ref (g.2.1 635)), (1, .int l1), (2, .int l2), (3, .int l3), (4, .int l4)] [] st := by
  intro n
  induction n with
  | zero => intro l1 l2 l3 l4 st h; exact False.elim h
  | succ n ih => intro l1 l2 l3 l4 st h; exact zw_MO_meet_5_s hM  ih l1 l2 l3 l4 st h
set_option maxHeartbeats 4000000 in
set_option maxRecDepth 100000 in
theorem zc_MO_meet (l : Launch) (g : zs_G) (A : Nat → Prop) {l1 : Int32} {l2 : Int32}  {st : zs_T} {K : Int32 → zs_T → Prop} (h : zf_MO_meet l1 l2 st K) : Met l yMO_meet (.code yMO_meet cMO_meet 5 (some .boolean) :: zs_tb) (zs_rm 0 0) (zs_Pc zs_nl g zs_ly zs_N A [.ref (g.2.1 635), .int l1, .int l2] st) (zs_Qi g zs_ly zs_N A K) 0 0 A := by
  refine zs_met (cc := cMO_meet) (maxL := 5) (ret := (some .boolean)) (by decide) (Nat.le_of_ble_eq_true rfl) (fun p e s m below meth c hM => ?_)
  have hM : zs_M p c cMO_meet 5 s m meth [.ref (g.2.1 635), .int l1, .int l2].toArray "ThriftyStoresModel" (some .boolean) g := hM
  obtain ⟨hx, hb, hml, hr, hlk, hts, hown, hK⟩ := id hM
  intro ls H locs hl hP hS
  have hl : lv_has ls 5 [(0, .ref (g.2.1 635)), (1, .int l1), (2, .int l2)] := hl
  unfold zf_MO_meet at h
  refine lv_iconst (v := 0) hx hb dMO_meet_0 (by decide) ?_
  refine lv_istore_n hx hb dMO_meet_1 rfl hl (by decide) rfl (fun ls hl => ?_)
  have hl : lv_has ls 5 [(3, .int 0), (0, .ref (g.2.1 635)), (1, .int l1), (2, .int l2)] := hl
  refine lv_iconst (v := 0) hx hb dMO_meet_2 (by decide) ?_
  refine lv_istore hx hb dMO_meet_3 hl (by decide) rfl (fun ls hl => ?_)
  have hl : lv_has ls 5 [(4, .int 0), (3, .int 0), (0, .ref (g.2.1 635)), (1, .int l1), (2, .int l2)] := hl
  obtain ⟨n, h⟩ := h
  exact zw_MO_meet_5 hM  n l1 l2 0 0 st h ls H locs (lv_sub hl [2, 3, 4, 1, 0] rfl) hP hS
set_option maxHeartbeats 4000000 in
set_option maxRecDepth 100000 in
theorem zw_MO_findReached_23 (hM : zs_M p c cMO_findReached 5 s m meth args "ThriftyStoresModel" none g)   {K : zs_T → Prop} {B2 : Int32 → zs_T → Prop} (hB2 : ∀ (l1 : Int32) (st : zs_T), B2 l1 st → zs_Go p l e (zs_rm 1 23) s m args below meth c g A (MQ below (zs_Qv g zs_ly zs_N A K) args s 0 0 A) 5 2 [(0, .ref (g.2.1 635)), (1, .int l1)] [] st) (l1 : Int32) (s0 : Int32) (s1 : Int32) (st : zs_T) (h : zf_MO_findReached_23 K B2 l1 s0 s1 st) : zs_Go p l e (zs_rm 1 23) s m args below meth c g A (MQ below (zs_Qv g zs_ly zs_N A K) args s 0 0 A) 5 23 [(0, .ref (g.2.1 635)), (1, .int l1)] [.int s0, .int s1, .ref (g.2.1 643)] st := by
  obtain ⟨hx, hb, hml, hr, hlk, hts, hown, hK⟩ := id hM
  intro ls H locs hl hP hS
  unfold zf_MO_findReached_23 at h
  obtain ⟨hi301, h⟩ := h
  refine zr_zast hx hb hK.1 hP hS zl_643.1 zl_643.2 hi301 dMO_findReached_23 (fun H locs hP hS => ?_)
  obtain ⟨t302, ez⟩ : ∃ tz : zs_T, tz = zs_i st 643 s1.toNatClampNeg (vp_nar .boolean s0) := ⟨_, rfl⟩
  have h := h t302 ez
  have hP : zs_P g zs_ly zs_N A t302 H := by rw [ez]; exact hP
  clear ez
  refine lv_iinc (k := 1) (v := l1 + 1) hx hb dMO_findReached_24 hl rfl (by rw [show Int32.ofInt (1) = 1 from by decide]) (by decide) rfl (fun ls hl => ?_)
  have hl : lv_has ls 5 [(1, .int (l1 + 1)), (0, .ref (g.2.1 635))] := hl
  refine lv_goto (tgt := 2) hx hb dMO_findReached_27 rfl ?_
  exact hB2 (l1 + 1) t302 h ls H locs (lv_sub hl [1, 0] rfl) hP hS
set_option maxHeartbeats 4000000 in
set_option maxRecDepth 100000 in
theorem zw_MO_findReached_98 (hM : zs_M p c cMO_findReached 5 s m meth args "ThriftyStoresModel" none g)   {K : zs_T → Prop} {B32 : Int32 → zs_T → Prop} {B40 : Int32 → Int32 → zs_T → Prop} {B50 : Int32 → Int32 → Int32 → zs_T → Prop} (hB32 : ∀ (l1 : Int32) (st : zs_T), B32 l1 st → zs_Go p l e (zs_rm 1 23) s m args below meth c g A (MQ below (zs_Qv g zs_ly zs_N A K) args s 0 0 A) 5 32 [(0, .ref (g.2.1 635)), (1, .int l1)] [] st) (hB40 : ∀ (l1 : Int32) (l2 : Int32) (st : zs_T), B40 l1 l2 st → zs_Go p l e (zs_rm 1 23) s m args below meth c g A (MQ below (zs_Qv g zs_ly zs_N A K) args s 0 0 A) 5 40 [(0, .ref (g.2.1 635)), (1, .int l1), (2, .int l2)] [] st) (hB50 : ∀ (l1 : Int32) (l2 : Int32) (l3 : Int32) (st : zs_T), B50 l1 l2 l3 st → zs_Go p l e (zs_rm 1 23) s m args below meth c g A (MQ below (zs_Qv g zs_ly zs_N A K) args s 0 0 A) 5 50 [(0, .ref (g.2.1 635)), (1, .int l1), (2, .int l2), (3, .int l3)] [] st) (l1 : Int32) (l2 : Int32) (l3 : Int32) (st : zs_T) (h : zf_MO_findReached_98 K B32 B40 B50 l1 l2 l3 st) : zs_Go p l e (zs_rm 1 23) s m args below meth c g A (MQ below (zs_Qv g zs_ly zs_N A K) args s 0 0 A) 5 98 [(0, .ref (g.2.1 635)), (1, .int l1), (2, .int l2), (3, .int l3)] [] st := by
  obtain ⟨hx, hb, hml, hr, hlk, hts, hown, hK⟩ := id hM
  intro ls H locs hl hP hS
  unfold zf_MO_findReached_98 at h
  refine lv_iinc (k := 3) (v := l3 + 1) hx hb dMO_findReached_98 hl rfl (by rw [show Int32.ofInt (1) = 1 from by decide]) (by decide) rfl (fun ls hl => ?_)
  have hl : lv_has ls 5 [(3, .int (l3 + 1)), (0, .ref (g.2.1 635)), (1, .int l1), (2, .int l2)] := hl
  refine lv_goto (tgt := 50) hx hb dMO_findReached_101 rfl ?_
  exact hB50 l1 l2 (l3 + 1) st h ls H locs (lv_sub hl [1, 2, 3, 0] rfl) hP hS
set_option maxHeartbeats 4000000 in
set_option maxRecDepth 100000 in
theorem zw_MO_findReached_50_s (hM : zs_M p c cMO_findReached 5 s m meth args "ThriftyStoresModel" none g)   {K : zs_T → Prop} {B32 : Int32 → zs_T → Prop} {B40 : Int32 → Int32 → zs_T → Prop} {B50 : Int32 → Int32 → Int32 → zs_T → Prop} (hB32 : ∀ (l1 : Int32) (st : zs_T), B32 l1 st → zs_Go p l e (zs_rm 1 23) s m args below meth c g A (MQ below (zs_Qv g zs_ly zs_N A K) args s 0 0 A) 5 32 [(0, .ref (g.2.1 635)), (1, .int l1)] [] st) (hB40 : ∀ (l1 : Int32) (l2 : Int32) (st : zs_T), B40 l1 l2 st → zs_Go p l e (zs_rm 1 23) s m args below meth c g A (MQ below (zs_Qv g zs_ly zs_N A K) args s 0 0 A) 5 40 [(0, .ref (g.2.1 635)), (1, .int l1), (2, .int l2)] [] st) (hB50 : ∀ (l1 : Int32) (l2 : Int32) (l3 : Int32) (st : zs_T), B50 l1 l2 l3 st → zs_Go p l e (zs_rm 1 23) s m args below meth c g A (MQ below (zs_Qv g zs_ly zs_N A K) args s 0 0 A) 5 50 [(0, .ref (g.2.1 635)), (1, .int l1), (2, .int l2), (3, .int l3)] [] st) (l1 : Int32) (l2 : Int32) (l3 : Int32) (st : zs_T) (h : zf_MO_findReached_50_s K B32 B40 B50 l1 l2 l3 st) : zs_Go p l e (zs_rm 1 23) s m args below meth c g A (MQ below (zs_Qv g zs_ly zs_N A K) args s 0 0 A) 5 50 [(0, .ref (g.2.1 635)), (1, .int l1), (2, .int l2), (3, .int l3)] [] st := by
  obtain ⟨hx, hb, hml, hr, hlk, hts, hown, hK⟩ := id hM
  intro ls H locs hl hP hS
  unfold zf_MO_findReached_50_s at h
  refine lv_iload_n hx hb dMO_findReached_50 rfl (lv_at hl 3 rfl) ?_
  refine lv_iconst (v := 2) hx hb dMO_findReached_51 (by decide) ?_
  refine lv_icmp_ge (tgt := 104) hx hb dMO_findReached_52 rfl (fun hc => ?_) (fun hc => ?_)
  · have h := h.1 hc
    clear hc
    refine lv_iinc (k := 2) (v := l2 + 1) hx hb dMO_findReached_104 hl rfl (by rw [show Int32.ofInt (1) = 1 from by decide]) (by decide) rfl (fun ls hl => ?_)
    have hl : lv_has ls 5 [(2, .int (l2 + 1)), (0, .ref (g.2.1 635)), (1, .int l1), (3, .int l3)] := hl
    refine lv_goto (tgt := 40) hx hb dMO_findReached_107 rfl ?_
    exact hB40 l1 (l2 + 1) st h ls H locs (lv_sub hl [1, 2, 0] rfl) hP hS
  · have h := h.2 hc
    clear hc
    refine lv_aload_n hx hb dMO_findReached_55 rfl (lv_at hl 0 rfl) ?_
    refine lv_iload_n hx hb dMO_findReached_56 rfl (lv_at hl 2 rfl) ?_
    refine lv_iload_n hx hb dMO_findReached_57 rfl (lv_at hl 3 rfl) ?_
    refine zr_calli (va_runV (As := [.int l2, .int l3]) (rest := []) ⟨hx, hb, hml, hown, hts⟩ (zc_MO_next l g A  h) (cwV 2 hts (zs_gV zq_877 zq_879 zp_41 zq_8 zq_880) rfl rfl rfl ⟨rfl, by decide, by decide, by decide +kernel⟩ ⟨Nat.le_of_ble_eq_true rfl, Nat.le_of_ble_eq_true rfl⟩) (zs_preV zs_nwk hK hP zl_635.1 zl_635.2 rfl) rfl rfl hl.1 rfl (lv_room (Nat.le_of_ble_eq_true rfl)) dMO_findReached_58 ⟨Nat.le_refl _, Nat.le_refl _⟩) hS (fun r502 u501 H locs h hP hS => ?_)
    refine lv_istore hx hb dMO_findReached_61 hl (by decide) rfl (fun ls hl => ?_)
    have hl : lv_has ls 5 [(4, .int r502), (0, .ref (g.2.1 635)), (1, .int l1), (2, .int l2), (3, .int l3)] := hl
    refine lv_aload_n hx hb dMO_findReached_63 rfl (lv_at hl 1 rfl) ?_
    refine zr_getr (b := 643) hx hb hts zi_MO hown hK.1 hP zl_635.1 zl_635.2 rfl 12 (by decide) rfl (hts _ zq_745) dMO_findReached_64 ?_
    refine lv_iload_n hx hb dMO_findReached_67 rfl (lv_at hl 3 rfl) ?_
    obtain ⟨hi503, h⟩ := h
    refine zr_zald hx hb hK.1 hP zl_643.1 zl_643.2 hi503 dMO_findReached_68 ?_
    refine lv_if_eq (tgt := 98) hx hb dMO_findReached_69 rfl (fun hc => ?_) (fun hc => ?_)
    · have h := h.1 hc
      clear hc
      exact zw_MO_findReached_98 hM hB32 hB40 hB50 l1 l2 l3 u501 h ls H locs (lv_sub hl [1, 2, 3, 4] rfl) hP hS
    · have h := h.2 hc
      clear hc
      refine lv_iload hx hb dMO_findReached_72 (lv_at hl 0 rfl) ?_
      refine lv_iconst (v := (-1)) hx hb dMO_findReached_74 (by decide) ?_
      refine lv_icmp_eq (tgt := 98) hx hb dMO_findReached_75 rfl (fun hc => ?_) (fun hc => ?_)
      · have h := h.1 hc
        clear hc
        exact zw_MO_findReached_98 hM hB32 hB40 hB50 l1 l2 l3 u501 h ls H locs (lv_sub hl [1, 2, 3, 4] rfl) hP hS
      · have h := h.2 hc
        clear hc
        refine lv_aload_n hx hb dMO_findReached_78 rfl (lv_at hl 1 rfl) ?_
        refine zr_getr (b := 643) hx hb hts zi_MO hown hK.1 hP zl_635.1 zl_635.2 rfl 12 (by decide) rfl (hts _ zq_745) dMO_findReached_79 ?_
        refine lv_iload hx hb dMO_findReached_82 (lv_at hl 0 rfl) ?_
        obtain ⟨hi504, h⟩ := h
        refine zr_zald hx hb hK.1 hP zl_643.1 zl_643.2 hi504 dMO_findReached_84 ?_
        refine lv_if_ne (tgt := 98) hx hb dMO_findReached_85 rfl (fun hc => ?_) (fun hc => ?_)
        · have h := h.1 hc
          clear hc
          exact zw_MO_findReached_98 hM hB32 hB40 hB50 l1 l2 l3 u501 h ls H locs (lv_sub hl [1, 2, 3, 4] rfl) hP hS
        · have h := h.2 hc
          clear hc
          refine lv_aload_n hx hb dMO_findReached_88 rfl (lv_at hl 1 rfl) ?_
          refine zr_getr (b := 643) hx hb hts zi_MO hown hK.1 hP zl_635.1 zl_635.2 rfl 12 (by decide) rfl (hts _ zq_745) dMO_findReached_89 ?_
          refine lv_iload hx hb dMO_findReached_92 (lv_at hl 0 rfl) ?_
          refine lv_iconst (v := 1) hx hb dMO_findReached_94 (by decide) ?_
          obtain ⟨hi505, h⟩ := h
          refine zr_zast hx hb hK.1 hP hS zl_643.1 zl_643.2 hi505 dMO_findReached_95 (fun H locs hP hS => ?_)
          obtain ⟨t506, ez⟩ : ∃ tz : zs_T, tz = zs_i u501 643 r502.toNatClampNeg (vp_nar .boolean 1) := ⟨_, rfl⟩
          have h := h t506 ez
          have hP : zs_P g zs_ly zs_N A t506 H := by rw [ez]; exact hP
          clear ez
          refine lv_iconst (v := 1) hx hb dMO_findReached_96 (by decide) ?_
          refine lv_istore_n hx hb dMO_findReached_97 rfl hl (by decide) rfl (fun ls hl => ?_)
          have hl : lv_has ls 5 [(1, .int 1), (4, .int r502), (0, .ref (g.2.1 635)), (2, .int l2), (3, .int l3)] := hl
          exact zw_MO_findReached_98 hM hB32 hB40 hB50 1 l2 l3 t506 h ls H locs (lv_sub hl [2, 0, 3, 4] rfl) hP hS
theorem zw_MO_findReached_50 (hM : zs_M p c cMO_findReached 5 s m meth args "ThriftyStoresModel" none g)   {K : zs_T → Prop} {B32 : Int32 → zs_T → Prop} {B40 : Int32 → Int32 → zs_T → Prop} (hB32 : ∀ (l1 : Int32) (st : zs_T), B32 l1 st → zs_Go p l e (zs_rm 1 23) s m args below meth c g A (MQ below (zs_Qv g zs_ly zs_N A K) args s 0 0 A) 5 32 [(0, .ref (g.2.1 635)), (1, .int l1)] [] st) (hB40 : ∀ (l1 : Int32) (l2 : Int32) (st : zs_T), B40 l1 l2 st → zs_Go p l e (zs_rm 1 23) s m args below meth c g A (MQ below (zs_Qv g zs_ly zs_N A K) args s 0 0 A) 5 40 [(0, .ref (g.2.1 635)), (1, .int l1), (2, .int l2)] [] st) : ∀ (n : Nat) (l1 : Int32) (l2 : Int32) (l3 : Int32) (st : zs_T), zf_MO_findReached_50 K B32 B40 n l1 l2 l3 st → zs_Go p l e (zs_rm 1 23) s m args below meth c g A (MQ below (zs_Qv g zs_ly zs_N A K) args s 0 0 A) 5 50 [(0, .ref (g.2.1 635)), (1, .int l1), (2, .int l2), (3, .int l3)] [] st := by
  intro n
  induction n with
  | zero => intro l1 l2 l3 st h; exact False.elim h
  | succ n ih => intro l1 l2 l3 st h; exact zw_MO_findReached_50_s hM hB32 hB40 ih l1 l2 l3 st h
set_option maxHeartbeats 4000000 in
set_option maxRecDepth 100000 in
theorem zw_MO_findReached_40_s (hM : zs_M p c cMO_findReached 5 s m meth args "ThriftyStoresModel" none g)   {K : zs_T → Prop} {B32 : Int32 → zs_T → Prop} {B40 : Int32 → Int32 → zs_T → Prop} (hB32 : ∀ (l1 : Int32) (st : zs_T), B32 l1 st → zs_Go p l e (zs_rm 1 23) s m args below meth c g A (MQ below (zs_Qv g zs_ly zs_N A K) args s 0 0 A) 5 32 [(0, .ref (g.2.1 635)), (1, .int l1)] [] st) (hB40 : ∀ (l1 : Int32) (l2 : Int32) (st : zs_T), B40 l1 l2 st → zs_Go p l e (zs_rm 1 23) s m args below meth c g A (MQ below (zs_Qv g zs_ly zs_N A K) args s 0 0 A) 5 40 [(0, .ref (g.2.1 635)), (1, .int l1), (2, .int l2)] [] st) (l1 : Int32) (l2 : Int32) (st : zs_T) (h : zf_MO_findReached_40_s K B32 B40 l1 l2 st) : zs_Go p l e (zs_rm 1 23) s m args below meth c g A (MQ below (zs_Qv g zs_ly zs_N A K) args s 0 0 A) 5 40 [(0, .ref (g.2.1 635)), (1, .int l1), (2, .int l2)] [] st := by
  obtain ⟨hx, hb, hml, hr, hlk, hts, hown, hK⟩ := id hM
  intro ls H locs hl hP hS
  unfold zf_MO_findReached_40_s at h
  refine lv_iload_n hx hb dMO_findReached_40 rfl (lv_at hl 2 rfl) ?_
  refine lv_aload_n hx hb dMO_findReached_41 rfl (lv_at hl 0 rfl) ?_
  refine zr_geti hx hb hts zi_MO hown hK.1 hP zl_635.1 zl_635.2 rfl 5 (by decide) rfl (hts _ zq_738) dMO_findReached_42 ?_
  refine lv_icmp_ge (tgt := 110) hx hb dMO_findReached_45 rfl (fun hc => ?_) (fun hc => ?_)
  · have h := h.1 hc
    clear hc
    refine lv_goto (tgt := 32) hx hb dMO_findReached_110 rfl ?_
    exact hB32 l1 st h ls H locs (lv_sub hl [0, 1] rfl) hP hS
  · have h := h.2 hc
    clear hc
    refine lv_iconst (v := 0) hx hb dMO_findReached_48 (by decide) ?_
    refine lv_istore_n hx hb dMO_findReached_49 rfl hl (by decide) rfl (fun ls hl => ?_)
    have hl : lv_has ls 5 [(3, .int 0), (0, .ref (g.2.1 635)), (1, .int l1), (2, .int l2)] := hl
    obtain ⟨n, h⟩ := h
    exact zw_MO_findReached_50 hM hB32 hB40 n l1 l2 0 st h ls H locs (lv_sub hl [1, 2, 3, 0] rfl) hP hS
theorem zw_MO_findReached_40 (hM : zs_M p c cMO_findReached 5 s m meth args "ThriftyStoresModel" none g)   {K : zs_T → Prop} {B32 : Int32 → zs_T → Prop} (hB32 : ∀ (l1 : Int32) (st : zs_T), B32 l1 st → zs_Go p l e (zs_rm 1 23) s m args below meth c g A (MQ below (zs_Qv g zs_ly zs_N A K) args s 0 0 A) 5 32 [(0, .ref (g.2.1 635)), (1, .int l1)] [] st) : ∀ (n : Nat) (l1 : Int32) (l2 : Int32) (st : zs_T), zf_MO_findReached_40 K B32 n l1 l2 st → zs_Go p l e (zs_rm 1 23) s m args below meth c g A (MQ below (zs_Qv g zs_ly zs_N A K) args s 0 0 A) 5 40 [(0, .ref (g.2.1 635)), (1, .int l1), (2, .int l2)] [] st := by
  intro n
  induction n with
  | zero => intro l1 l2 st h; exact False.elim h
  | succ n ih => intro l1 l2 st h; exact zw_MO_findReached_40_s hM hB32 ih l1 l2 st h
set_option maxHeartbeats 4000000 in
set_option maxRecDepth 100000 in
theorem zw_MO_findReached_32_s (hM : zs_M p c cMO_findReached 5 s m meth args "ThriftyStoresModel" none g)   {K : zs_T → Prop}  {B32 : Int32 → zs_T → Prop}  (hB32 : ∀ (l1 : Int32) (st : zs_T), B32 l1 st → zs_Go p l e (zs_rm 1 23) s m args below meth c g A (MQ below (zs_Qv g zs_ly zs_N A K) args s 0 0 A) 5 32 [(0, .ref (g.2.1 635)), (1, .int l1)] [] st) (l1 : Int32) (st : zs_T) (h : zf_MO_findReached_32_s K B32 l1 st) : zs_Go p l e (zs_rm 1 23) s m args below meth c g A (MQ below (zs_Qv g zs_ly zs_N A K) args s 0 0 A) 5 32 [(0, .ref (g.2.1 635)), (1, .int l1)] [] st := by
  obtain ⟨hx, hb, hml, hr, hlk, hts, hown, hK⟩ := id hM
  intro ls H locs hl hP hS
  unfold zf_MO_findReached_32_s at h
  refine lv_iload_n hx hb dMO_findReached_32 rfl (lv_at hl 1 rfl) ?_
  refine lv_if_eq (tgt := 113) hx hb dMO_findReached_33 rfl (fun hc => ?_) (fun hc => ?_)
  · have h := h.1 hc
    clear hc
    exact zr_vret hx hb hr hlk hP hS h dMO_findReached_113
  · have h := h.2 hc
    clear hc
    refine lv_iconst (v := 0) hx hb dMO_findReached_36 (by decide) ?_
    refine lv_istore_n hx hb dMO_findReached_37 rfl hl (by decide) rfl (fun ls hl => ?_)
    have hl : lv_has ls 5 [(1, .int 0), (0, .ref (g.2.1 635))] := hl
    refine lv_iconst (v := 0) hx hb dMO_findReached_38 (by decide) ?_
    refine lv_istore_n hx hb dMO_findReached_39 rfl hl (by decide) rfl (fun ls hl => ?_)
    have hl : lv_has ls 5 [(2, .int 0), (1, .int 0), (0, .ref (g.2.1 635))] := hl
    obtain ⟨n, h⟩ := h
    exact zw_MO_findReached_40 hM hB32 n 0 0 st h ls H locs (lv_sub hl [2, 1, 0] rfl) hP hS
theorem zw_MO_findReached_32 (hM : zs_M p c cMO_findReached 5 s m meth args "ThriftyStoresModel" none g)   {K : zs_T → Prop}   : ∀ (n : Nat) (l1 : Int32) (st : zs_T), zf_MO_findReached_32 K n l1 st → zs_Go p l e (zs_rm 1 23) s m args below meth c g A (MQ below (zs_Qv g zs_ly zs_N A K) args s 0 0 A) 5 32 [(0, .ref (g.2.1 635)), (1, .int l1)] [] st := by
  intro n
  induction n with
  | zero => intro l1 st h; exact False.elim h
  | succ n ih => intro l1 st h; exact zw_MO_findReached_32_s hM  ih l1 st h
set_option maxHeartbeats 4000000 in
set_option maxRecDepth 100000 in
theorem zw_MO_findReached_2_s (hM : zs_M p c cMO_findReached 5 s m meth args "ThriftyStoresModel" none g)   {K : zs_T → Prop}  {B2 : Int32 → zs_T → Prop}  (hB2 : ∀ (l1 : Int32) (st : zs_T), B2 l1 st → zs_Go p l e (zs_rm 1 23) s m args below meth c g A (MQ below (zs_Qv g zs_ly zs_N A K) args s 0 0 A) 5 2 [(0, .ref (g.2.1 635)), (1, .int l1)] [] st) (l1 : Int32) (st : zs_T) (h : zf_MO_findReached_2_s K B2 l1 st) : zs_Go p l e (zs_rm 1 23) s m args below meth c g A (MQ below (zs_Qv g zs_ly zs_N A K) args s 0 0 A) 5 2 [(0, .ref (g.2.1 635)), (1, .int l1)] [] st := by
  obtain ⟨hx, hb, hml, hr, hlk, hts, hown, hK⟩ := id hM
  intro ls H locs hl hP hS
  unfold zf_MO_findReached_2_s at h
  refine lv_iload_n hx hb dMO_findReached_2 rfl (lv_at hl 1 rfl) ?_
  refine lv_sipush (v := 200) hx hb dMO_findReached_3 (by decide) ?_
  refine lv_icmp_gt (tgt := 30) hx hb dMO_findReached_6 rfl (fun hc => ?_) (fun hc => ?_)
  · have h := h.1 hc
    clear hc
    refine lv_iconst (v := 1) hx hb dMO_findReached_30 (by decide) ?_
    refine lv_istore_n hx hb dMO_findReached_31 rfl hl (by decide) rfl (fun ls hl => ?_)
    have hl : lv_has ls 5 [(1, .int 1), (0, .ref (g.2.1 635))] := hl
    obtain ⟨n, h⟩ := h
    exact zw_MO_findReached_32 hM  n 1 st h ls H locs (lv_sub hl [1, 0] rfl) hP hS
  · have h := h.2 hc
    clear hc
    refine lv_aload_n hx hb dMO_findReached_9 rfl (lv_at hl 0 rfl) ?_
    refine zr_getr (b := 643) hx hb hts zi_MO hown hK.1 hP zl_635.1 zl_635.2 rfl 12 (by decide) rfl (hts _ zq_745) dMO_findReached_10 ?_
    refine lv_iload_n hx hb dMO_findReached_13 rfl (lv_at hl 1 rfl) ?_
    refine lv_iload_n hx hb dMO_findReached_14 rfl (lv_at hl 1 rfl) ?_
    refine lv_if_ne (tgt := 22) hx hb dMO_findReached_15 rfl (fun hc => ?_) (fun hc => ?_)
    · have h := h.1 hc
      clear hc
      refine lv_iconst (v := 0) hx hb dMO_findReached_22 (by decide) ?_
      exact zw_MO_findReached_23 hM hB2 l1 0 l1 st h ls H locs (lv_sub hl [0, 1] rfl) hP hS
    · have h := h.2 hc
      clear hc
      refine lv_iconst (v := 1) hx hb dMO_findReached_18 (by decide) ?_
      refine lv_goto (tgt := 23) hx hb dMO_findReached_19 rfl ?_
      exact zw_MO_findReached_23 hM hB2 l1 1 l1 st h ls H locs (lv_sub hl [0, 1] rfl) hP hS
theorem zw_MO_findReached_2 (hM : zs_M p c cMO_findReached 5 s m meth args "ThriftyStoresModel" none g)   {K : zs_T → Prop}   : ∀ (n : Nat) (l1 : Int32) (st : zs_T), zf_MO_findReached_2 K n l1 st → zs_Go p l e (zs_rm 1 23) s m args below meth c g A (MQ below (zs_Qv g zs_ly zs_N A K) args s 0 0 A) 5 2 [(0, .ref (g.2.1 635)), (1, .int l1)] [] st := by
  intro n
  induction n with
  | zero => intro l1 st h; exact False.elim h
  | succ n ih => intro l1 st h; exact zw_MO_findReached_2_s hM  ih l1 st h
set_option maxHeartbeats 4000000 in
set_option maxRecDepth 100000 in
theorem zc_MO_findReached (l : Launch) (g : zs_G) (A : Nat → Prop)   {st : zs_T} {K : zs_T → Prop} (h : zf_MO_findReached  st K) : Met l yMO_findReached (.code yMO_findReached cMO_findReached 5 none :: zs_tb) (zs_rm 1 23) (zs_Pc zs_nl g zs_ly zs_N A [.ref (g.2.1 635)] st) (zs_Qv g zs_ly zs_N A K) 0 0 A := by
  refine zs_met (cc := cMO_findReached) (maxL := 5) (ret := none) (by decide) (Nat.le_of_ble_eq_true rfl) (fun p e s m below meth c hM => ?_)
  have hM : zs_M p c cMO_findReached 5 s m meth [.ref (g.2.1 635)].toArray "ThriftyStoresModel" none g := hM
  obtain ⟨hx, hb, hml, hr, hlk, hts, hown, hK⟩ := id hM
  intro ls H locs hl hP hS
  have hl : lv_has ls 5 [(0, .ref (g.2.1 635))] := hl
  unfold zf_MO_findReached at h
  refine lv_iconst (v := 0) hx hb dMO_findReached_0 (by decide) ?_
  refine lv_istore_n hx hb dMO_findReached_1 rfl hl (by decide) rfl (fun ls hl => ?_)
  have hl : lv_has ls 5 [(1, .int 0), (0, .ref (g.2.1 635))] := hl
  obtain ⟨n, h⟩ := h
  exact zw_MO_findReached_2 hM  n 0 st h ls H locs (lv_sub hl [1, 0] rfl) hP hS
end ZW
