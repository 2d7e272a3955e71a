section ZW
variable {p : Program} {l : Launch} {e : Env} {s : State} {m : MethodId} {args : Array Value} {below : List Frame} {meth : Method} {c : Code} {g : zs_G} {A : Nat → Prop}
set_option maxHeartbeats 4000000 in
set_option maxRecDepth 100000 in
theorem zc_MO_put (l : Launch) (g : zs_G) (A : Nat → Prop) {l1 : Int32} {l2 : Int32} {l3 : Int32}  {st : zs_T} {K : zs_T → Prop} (h : zf_MO_put l1 l2 l3 st K) : Met l yMO_put (.code yMO_put cMO_put 4 none :: zs_tb) (zs_rm 0 0) (zs_Pc zs_nl g zs_ly zs_N A [.ref (g.2.1 635), .int l1, .int l2, .int l3] st) (zs_Qv g zs_ly zs_N A K) 0 0 A := by
  refine zs_met (cc := cMO_put) (maxL := 4) (ret := none) (by decide) (Nat.le_of_ble_eq_true rfl) (fun p e s m below meth c hM => ?_)
  have hM : zs_M p c cMO_put 4 s m meth [.ref (g.2.1 635), .int l1, .int l2, .int l3].toArray "ThriftyStoresModel" none g := hM
  obtain ⟨hx, hb, hml, hr, hlk, hts, hown, hK⟩ := id hM
  intro ls H locs hl hP hS
  have hl : lv_has ls 4 [(0, .ref (g.2.1 635)), (1, .int l1), (2, .int l2), (3, .int l3)] := hl
  unfold zf_MO_put at h
  refine lv_aload_n hx hb dMO_put_0 rfl (lv_at hl 0 rfl) ?_
  refine zr_getr (b := 651) hx hb hts zi_MO hown hK.1 hP zl_635.1 zl_635.2 rfl 20 (by decide) rfl (hts _ zq_753) dMO_put_1 ?_
  refine lv_iload_n hx hb dMO_put_4 rfl (lv_at hl 1 rfl) ?_
  refine lv_iload_n hx hb dMO_put_5 rfl (lv_at hl 2 rfl) ?_
  obtain ⟨hi1, h⟩ := h
  refine zr_iast hx hb hK.1 hP hS zl_651.1 zl_651.2 hi1 dMO_put_6 (fun H locs hP hS => ?_)
  obtain ⟨t2, ez⟩ : ∃ tz : zs_T, tz = zs_i st 651 l1.toNatClampNeg l2 := ⟨_, rfl⟩
  have h := h t2 ez
  have hP : zs_P g zs_ly zs_N A t2 H := by rw [ez]; exact hP
  clear ez
  refine lv_aload_n hx hb dMO_put_7 rfl (lv_at hl 0 rfl) ?_
  refine zr_getr (b := 652) hx hb hts zi_MO hown hK.1 hP zl_635.1 zl_635.2 rfl 21 (by decide) rfl (hts _ zq_754) dMO_put_8 ?_
  refine lv_iload_n hx hb dMO_put_11 rfl (lv_at hl 1 rfl) ?_
  refine lv_iload_n hx hb dMO_put_12 rfl (lv_at hl 3 rfl) ?_
  obtain ⟨hi3, h⟩ := h
  refine zr_iast hx hb hK.1 hP hS zl_652.1 zl_652.2 hi3 dMO_put_13 (fun H locs hP hS => ?_)
  obtain ⟨t4, ez⟩ : ∃ tz : zs_T, tz = zs_i t2 652 l1.toNatClampNeg l3 := ⟨_, rfl⟩
  have h := h t4 ez
  have hP : zs_P g zs_ly zs_N A t4 H := by rw [ez]; exact hP
  clear ez
  exact zr_vret hx hb hr hlk hP hS h dMO_put_14
set_option maxHeartbeats 4000000 in
set_option maxRecDepth 100000 in
theorem zw_MO_make_48_s (hM : zs_M p c cMO_make 5 s m meth args "ThriftyStoresModel" none g)   {K : zs_T → Prop}  {B48 : Int32 → Int32 → Int32 → zs_T → Prop}  (hB48 : ∀ (l1 : Int32) (l2 : Int32) (l4 : Int32) (st : zs_T), B48 l1 l2 l4 st → zs_Go p l e (zs_rm 1 23) s m args below meth c g A (MQ below (zs_Qv g zs_ly zs_N A K) args s 0 0 A) 5 48 [(0, .ref (g.2.1 635)), (1, .int l1), (2, .int l2), (4, .int l4)] [] st) (l1 : Int32) (l2 : Int32) (l4 : Int32) (st : zs_T) (h : zf_MO_make_48_s K B48 l1 l2 l4 st) : zs_Go p l e (zs_rm 1 23) s m args below meth c g A (MQ below (zs_Qv g zs_ly zs_N A K) args s 0 0 A) 5 48 [(0, .ref (g.2.1 635)), (1, .int l1), (2, .int l2), (4, .int l4)] [] st := by
  obtain ⟨hx, hb, hml, hr, hlk, hts, hown, hK⟩ := id hM
  intro ls H locs hl hP hS
  unfold zf_MO_make_48_s at h
  refine lv_iload hx hb dMO_make_48 (lv_at hl 3 rfl) ?_
  refine lv_iload_n hx hb dMO_make_50 rfl (lv_at hl 2 rfl) ?_
  refine lv_icmp_ge (tgt := 92) hx hb dMO_make_51 rfl (fun hc => ?_) (fun hc => ?_)
  · have h := h.1 hc
    clear hc
    refine lv_aload_n hx hb dMO_make_92 rfl (lv_at hl 0 rfl) ?_
    refine lv_iload_n hx hb dMO_make_93 rfl (lv_at hl 1 rfl) ?_
    refine lv_aload_n hx hb dMO_make_94 rfl (lv_at hl 0 rfl) ?_
    refine zr_geti hx hb hts zi_MO hown hK.1 hP zl_635.1 zl_635.2 rfl 26 (by decide) rfl (hts _ zq_759) dMO_make_95 ?_
    refine lv_iconst (v := 0) hx hb dMO_make_98 (by decide) ?_
    refine zr_callv (va_runV (As := [.int l1, .int (st.1 635 26), .int 0]) (rest := []) ⟨hx, hb, hml, hown, hts⟩ (zc_MO_put l g A  h) (cwV 3 hts (zs_gV zq_981 zq_983 zp_58 zq_8 zq_984) rfl rfl rfl ⟨rfl, by decide, by decide, by decide +kernel⟩ ⟨Nat.le_of_ble_eq_true rfl, Nat.le_of_ble_eq_true rfl⟩) (zs_preV zs_nwk hK hP zl_635.1 zl_635.2 rfl) rfl rfl hl.1 rfl (lv_room (Nat.le_of_ble_eq_true rfl)) dMO_make_99 ⟨Nat.le_refl _, Nat.le_refl _⟩) hS (fun u201 H locs h hP hS => ?_)
    refine lv_aload_n hx hb dMO_make_102 rfl (lv_at hl 0 rfl) ?_
    refine lv_dup hx hb dMO_make_103 rfl ?_
    refine zr_geti hx hb hts zi_MO hown hK.1 hP zl_635.1 zl_635.2 rfl 26 (by decide) rfl (hts _ zq_759) dMO_make_104 ?_
    refine lv_iconst (v := 1) hx hb dMO_make_107 (by decide) ?_
    refine lv_iadd hx hb dMO_make_108 ?_
    refine zr_put hx hb hts zi_MO tyMO tyMO_ok nmMO hown hK.1 hP hS zl_635.1 zl_635.2 rfl 26 (by decide) rfl (hts _ zq_759) rfl rfl rfl dMO_make_109 (fun H locs hP hS => ?_)
    obtain ⟨t202, ez⟩ : ∃ tz : zs_T, tz = zs_i u201 635 26 ((u201.1 635 26) + 1) := ⟨_, rfl⟩
    have h := h t202 ez
    have hP : zs_P g zs_ly zs_N A t202 H := by rw [ez]; exact hP
    clear ez
    exact zr_vret hx hb hr hlk hP hS h dMO_make_112
  · have h := h.2 hc
    clear hc
    refine lv_aload_n hx hb dMO_make_54 rfl (lv_at hl 0 rfl) ?_
    refine zr_getr (b := 653) hx hb hts zi_MO hown hK.1 hP zl_635.1 zl_635.2 rfl 22 (by decide) rfl (hts _ zq_755) dMO_make_55 ?_
    refine lv_bipush (v := 16) hx hb dMO_make_58 (by decide) ?_
    refine lv_aload_n hx hb dMO_make_60 rfl (lv_at hl 0 rfl) ?_
    refine zr_geti hx hb hts zi_MO hown hK.1 hP zl_635.1 zl_635.2 rfl 26 (by decide) rfl (hts _ zq_759) dMO_make_61 ?_
    refine lv_imul hx hb dMO_make_64 ?_
    refine lv_iload hx hb dMO_make_65 (lv_at hl 3 rfl) ?_
    refine lv_iadd hx hb dMO_make_67 ?_
    refine lv_iconst (v := (-1)) hx hb dMO_make_68 (by decide) ?_
    obtain ⟨hi203, h⟩ := h
    refine zr_iast hx hb hK.1 hP hS zl_653.1 zl_653.2 hi203 dMO_make_69 (fun H locs hP hS => ?_)
    obtain ⟨t204, ez⟩ : ∃ tz : zs_T, tz = zs_i st 653 ((16 * (st.1 635 26)) + l4).toNatClampNeg (-1) := ⟨_, rfl⟩
    have h := h t204 ez
    have hP : zs_P g zs_ly zs_N A t204 H := by rw [ez]; exact hP
    clear ez
    refine lv_aload_n hx hb dMO_make_70 rfl (lv_at hl 0 rfl) ?_
    refine zr_getr (b := 654) hx hb hts zi_MO hown hK.1 hP zl_635.1 zl_635.2 rfl 23 (by decide) rfl (hts _ zq_756) dMO_make_71 ?_
    refine lv_bipush (v := 16) hx hb dMO_make_74 (by decide) ?_
    refine lv_aload_n hx hb dMO_make_76 rfl (lv_at hl 0 rfl) ?_
    refine zr_geti hx hb hts zi_MO hown hK.1 hP zl_635.1 zl_635.2 rfl 26 (by decide) rfl (hts _ zq_759) dMO_make_77 ?_
    refine lv_imul hx hb dMO_make_80 ?_
    refine lv_iload hx hb dMO_make_81 (lv_at hl 3 rfl) ?_
    refine lv_iadd hx hb dMO_make_83 ?_
    refine lv_iconst (v := 0) hx hb dMO_make_84 (by decide) ?_
    obtain ⟨hi205, h⟩ := h
    refine zr_iast hx hb hK.1 hP hS zl_654.1 zl_654.2 hi205 dMO_make_85 (fun H locs hP hS => ?_)
    obtain ⟨t206, ez⟩ : ∃ tz : zs_T, tz = zs_i t204 654 ((16 * (t204.1 635 26)) + l4).toNatClampNeg 0 := ⟨_, rfl⟩
    have h := h t206 ez
    have hP : zs_P g zs_ly zs_N A t206 H := by rw [ez]; exact hP
    clear ez
    refine lv_iinc (k := 3) (v := l4 + 1) hx hb dMO_make_86 hl rfl (by rw [show Int32.ofInt (1) = 1 from by decide]) (by decide) rfl (fun ls hl => ?_)
    have hl : lv_has ls 5 [(4, .int (l4 + 1)), (0, .ref (g.2.1 635)), (1, .int l1), (2, .int l2)] := hl
    refine lv_goto (tgt := 48) hx hb dMO_make_89 rfl ?_
    exact hB48 l1 l2 (l4 + 1) t206 h ls H locs (lv_sub hl [1, 2, 3, 0] rfl) hP hS
theorem zw_MO_make_48 (hM : zs_M p c cMO_make 5 s m meth args "ThriftyStoresModel" none g)   {K : zs_T → Prop}   : ∀ (n : Nat) (l1 : Int32) (l2 : Int32) (l4 : Int32) (st : zs_T), zf_MO_make_48 K n l1 l2 l4 st → zs_Go p l e (zs_rm 1 23) s m args below meth c g A (MQ below (zs_Qv g zs_ly zs_N A K) args s 0 0 A) 5 48 [(0, .ref (g.2.1 635)), (1, .int l1), (2, .int l2), (4, .int l4)] [] st := by
  intro n
  induction n with
  | zero => intro l1 l2 l4 st h; exact False.elim h
  | succ n ih => intro l1 l2 l4 st h; exact zw_MO_make_48_s hM  ih l1 l2 l4 st h
set_option maxHeartbeats 4000000 in
set_option maxRecDepth 100000 in
theorem zw_MO_make_44 (hM : zs_M p c cMO_make 5 s m meth args "ThriftyStoresModel" none g)   {K : zs_T → Prop}   (l1 : Int32) (l2 : Int32) (s0 : Int32) (s1 : Int32) (st : zs_T) (h : zf_MO_make_44 K l1 l2 s0 s1 st) : zs_Go p l e (zs_rm 1 23) s m args below meth c g A (MQ below (zs_Qv g zs_ly zs_N A K) args s 0 0 A) 5 44 [(0, .ref (g.2.1 635)), (1, .int l1), (2, .int l2)] [.int s0, .int s1, .ref (g.2.1 656)] st := by
  obtain ⟨hx, hb, hml, hr, hlk, hts, hown, hK⟩ := id hM
  intro ls H locs hl hP hS
  unfold zf_MO_make_44 at h
  obtain ⟨hi101, h⟩ := h
  refine zr_zast hx hb hK.1 hP hS zl_656.1 zl_656.2 hi101 dMO_make_44 (fun H locs hP hS => ?_)
  obtain ⟨t102, ez⟩ : ∃ tz : zs_T, tz = zs_i st 656 s1.toNatClampNeg (vp_nar .boolean s0) := ⟨_, rfl⟩
  have h := h t102 ez
  have hP : zs_P g zs_ly zs_N A t102 H := by rw [ez]; exact hP
  clear ez
  refine lv_iconst (v := 0) hx hb dMO_make_45 (by decide) ?_
  refine lv_istore hx hb dMO_make_46 hl (by decide) rfl (fun ls hl => ?_)
  have hl : lv_has ls 5 [(4, .int 0), (0, .ref (g.2.1 635)), (1, .int l1), (2, .int l2)] := hl
  obtain ⟨n, h⟩ := h
  exact zw_MO_make_48 hM  n l1 l2 0 t102 h ls H locs (lv_sub hl [1, 2, 3, 0] rfl) hP hS
set_option maxHeartbeats 4000000 in
set_option maxRecDepth 100000 in
theorem zc_MO_make (l : Launch) (g : zs_G) (A : Nat → Prop) {l1 : Int32} {l2 : Int32} {l3 : Int32}  {st : zs_T} {K : zs_T → Prop} (h : zf_MO_make l1 l2 l3 st K) : Met l yMO_make (.code yMO_make cMO_make 5 none :: zs_tb) (zs_rm 1 23) (zs_Pc zs_nl g zs_ly zs_N A [.ref (g.2.1 635), .int l1, .int l2, .int l3] st) (zs_Qv g zs_ly zs_N A K) 0 0 A := by
  refine zs_met (cc := cMO_make) (maxL := 5) (ret := none) (by decide) (Nat.le_of_ble_eq_true rfl) (fun p e s m below meth c hM => ?_)
  have hM : zs_M p c cMO_make 5 s m meth [.ref (g.2.1 635), .int l1, .int l2, .int l3].toArray "ThriftyStoresModel" none g := hM
  obtain ⟨hx, hb, hml, hr, hlk, hts, hown, hK⟩ := id hM
  intro ls H locs hl hP hS
  have hl : lv_has ls 5 [(0, .ref (g.2.1 635)), (1, .int l1), (2, .int l2), (3, .int l3)] := hl
  unfold zf_MO_make at h
  refine lv_aload_n hx hb dMO_make_0 rfl (lv_at hl 0 rfl) ?_
  refine zr_geti hx hb hts zi_MO hown hK.1 hP zl_635.1 zl_635.2 rfl 26 (by decide) rfl (hts _ zq_759) dMO_make_1 ?_
  refine lv_sipush (v := 300) hx hb dMO_make_4 (by decide) ?_
  refine lv_icmp_ne (tgt := 16) hx hb dMO_make_7 rfl (fun hc => ?_) (fun hc => ?_)
  · have h := h.1 hc
    clear hc
    refine lv_aload_n hx hb dMO_make_16 rfl (lv_at hl 0 rfl) ?_
    refine zr_getr (b := 655) hx hb hts zi_MO hown hK.1 hP zl_635.1 zl_635.2 rfl 24 (by decide) rfl (hts _ zq_757) dMO_make_17 ?_
    refine lv_aload_n hx hb dMO_make_20 rfl (lv_at hl 0 rfl) ?_
    refine zr_geti hx hb hts zi_MO hown hK.1 hP zl_635.1 zl_635.2 rfl 26 (by decide) rfl (hts _ zq_759) dMO_make_21 ?_
    refine lv_iload_n hx hb dMO_make_24 rfl (lv_at hl 2 rfl) ?_
    obtain ⟨hi1, h⟩ := h
    refine zr_iast hx hb hK.1 hP hS zl_655.1 zl_655.2 hi1 dMO_make_25 (fun H locs hP hS => ?_)
    obtain ⟨t2, ez⟩ : ∃ tz : zs_T, tz = zs_i st 655 (st.1 635 26).toNatClampNeg l2 := ⟨_, rfl⟩
    have h := h t2 ez
    have hP : zs_P g zs_ly zs_N A t2 H := by rw [ez]; exact hP
    clear ez
    refine lv_aload_n hx hb dMO_make_26 rfl (lv_at hl 0 rfl) ?_
    refine zr_getr (b := 656) hx hb hts zi_MO hown hK.1 hP zl_635.1 zl_635.2 rfl 25 (by decide) rfl (hts _ zq_758) dMO_make_27 ?_
    refine lv_aload_n hx hb dMO_make_30 rfl (lv_at hl 0 rfl) ?_
    refine zr_geti hx hb hts zi_MO hown hK.1 hP zl_635.1 zl_635.2 rfl 26 (by decide) rfl (hts _ zq_759) dMO_make_31 ?_
    refine lv_iload_n hx hb dMO_make_34 rfl (lv_at hl 3 rfl) ?_
    refine lv_iconst (v := 1) hx hb dMO_make_35 (by decide) ?_
    refine lv_icmp_ne (tgt := 43) hx hb dMO_make_36 rfl (fun hc => ?_) (fun hc => ?_)
    · have h := h.1 hc
      clear hc
      refine lv_iconst (v := 0) hx hb dMO_make_43 (by decide) ?_
      exact zw_MO_make_44 hM  l1 l2 0 (t2.1 635 26) t2 h ls H locs (lv_sub hl [0, 1, 2] rfl) hP hS
    · have h := h.2 hc
      clear hc
      refine lv_iconst (v := 1) hx hb dMO_make_39 (by decide) ?_
      refine lv_goto (tgt := 44) hx hb dMO_make_40 rfl ?_
      exact zw_MO_make_44 hM  l1 l2 1 (t2.1 635 26) t2 h ls H locs (lv_sub hl [0, 1, 2] rfl) hP hS
  · have h := h.2 hc
    clear hc
    refine lv_aload_n hx hb dMO_make_10 rfl (lv_at hl 0 rfl) ?_
    refine lv_iconst (v := 3) hx hb dMO_make_11 (by decide) ?_
    refine zr_put hx hb hts zi_MO tyMO tyMO_ok nmMO hown hK.1 hP hS zl_635.1 zl_635.2 rfl 30 (by decide) rfl (hts _ zq_763) rfl rfl rfl dMO_make_12 (fun H locs hP hS => ?_)
    obtain ⟨t3, ez⟩ : ∃ tz : zs_T, tz = zs_i st 635 30 3 := ⟨_, rfl⟩
    have h := h t3 ez
    have hP : zs_P g zs_ly zs_N A t3 H := by rw [ez]; exact hP
    clear ez
    exact zr_vret hx hb hr hlk hP hS h dMO_make_15
set_option maxHeartbeats 4000000 in
set_option maxRecDepth 100000 in
theorem zw_MO_printNumber_27 (hM : zs_M p c cMO_printNumber 3 s m meth args "ThriftyStoresModel" none g)   {K : zs_T → Prop}   (l2 : Int32) (s0 : Int32) (st : zs_T) (h : zf_MO_printNumber_27 K l2 s0 st) : zs_Go p l e (zs_rm 0 0) s m args below meth c g A (MQ below (zs_Qv g zs_ly zs_N A K) args s 0 0 A) 3 27 [(0, .ref (g.2.1 635)), (2, .int l2)] [.int s0, .ref (g.2.1 635)] st := by
  obtain ⟨hx, hb, hml, hr, hlk, hts, hown, hK⟩ := id hM
  intro ls H locs hl hP hS
  unfold zf_MO_printNumber_27 at h
  refine zr_put hx hb hts zi_MO tyMO tyMO_ok nmMO hown hK.1 hP hS zl_635.1 zl_635.2 rfl 30 (by decide) rfl (hts _ zq_763) rfl rfl rfl dMO_printNumber_27 (fun H locs hP hS => ?_)
  obtain ⟨t101, ez⟩ : ∃ tz : zs_T, tz = zs_i st 635 30 s0 := ⟨_, rfl⟩
  have h := h t101 ez
  have hP : zs_P g zs_ly zs_N A t101 H := by rw [ez]; exact hP
  clear ez
  refine lv_aload_n hx hb dMO_printNumber_30 rfl (lv_at hl 0 rfl) ?_
  refine zr_geti hx hb hts zi_MO hown hK.1 hP zl_635.1 zl_635.2 rfl 30 (by decide) rfl (hts _ zq_763) dMO_printNumber_31 ?_
  refine lv_iconst (v := (-1)) hx hb dMO_printNumber_34 (by decide) ?_
  refine lv_icmp_eq (tgt := 39) hx hb dMO_printNumber_35 rfl (fun hc => ?_) (fun hc => ?_)
  · have h := h.1 hc
    clear hc
    refine lv_aload_n hx hb dMO_printNumber_39 rfl (lv_at hl 0 rfl) ?_
    refine zr_getr (b := 657) hx hb hts zi_MO hown hK.1 hP zl_635.1 zl_635.2 rfl 27 (by decide) rfl (hts _ zq_760) dMO_printNumber_40 ?_
    refine lv_aload_n hx hb dMO_printNumber_43 rfl (lv_at hl 0 rfl) ?_
    refine zr_geti hx hb hts zi_MO hown hK.1 hP zl_635.1 zl_635.2 rfl 28 (by decide) rfl (hts _ zq_761) dMO_printNumber_44 ?_
    refine lv_iload_n hx hb dMO_printNumber_47 rfl (lv_at hl 1 rfl) ?_
    obtain ⟨hi102, h⟩ := h
    refine zr_iast hx hb hK.1 hP hS zl_657.1 zl_657.2 hi102 dMO_printNumber_48 (fun H locs hP hS => ?_)
    obtain ⟨t103, ez⟩ : ∃ tz : zs_T, tz = zs_i t101 657 (t101.1 635 28).toNatClampNeg l2 := ⟨_, rfl⟩
    have h := h t103 ez
    have hP : zs_P g zs_ly zs_N A t103 H := by rw [ez]; exact hP
    clear ez
    refine lv_aload_n hx hb dMO_printNumber_49 rfl (lv_at hl 0 rfl) ?_
    refine lv_dup hx hb dMO_printNumber_50 rfl ?_
    refine zr_geti hx hb hts zi_MO hown hK.1 hP zl_635.1 zl_635.2 rfl 28 (by decide) rfl (hts _ zq_761) dMO_printNumber_51 ?_
    refine lv_iconst (v := 1) hx hb dMO_printNumber_54 (by decide) ?_
    refine lv_iadd hx hb dMO_printNumber_55 ?_
    refine zr_put hx hb hts zi_MO tyMO tyMO_ok nmMO hown hK.1 hP hS zl_635.1 zl_635.2 rfl 28 (by decide) rfl (hts _ zq_761) rfl rfl rfl dMO_printNumber_56 (fun H locs hP hS => ?_)
    obtain ⟨t104, ez⟩ : ∃ tz : zs_T, tz = zs_i t103 635 28 ((t103.1 635 28) + 1) := ⟨_, rfl⟩
    have h := h t104 ez
    have hP : zs_P g zs_ly zs_N A t104 H := by rw [ez]; exact hP
    clear ez
    exact zr_vret hx hb hr hlk hP hS h dMO_printNumber_59
  · have h := h.2 hc
    clear hc
    exact zr_vret hx hb hr hlk hP hS h dMO_printNumber_38
set_option maxHeartbeats 4000000 in
set_option maxRecDepth 100000 in
theorem zc_MO_printNumber (l : Launch) (g : zs_G) (A : Nat → Prop) {l1 : Int32} {l2 : Int32}  {st : zs_T} {K : zs_T → Prop} (h : zf_MO_printNumber l1 l2 st K) : Met l yMO_printNumber (.code yMO_printNumber cMO_printNumber 3 none :: zs_tb) (zs_rm 0 0) (zs_Pc zs_nl g zs_ly zs_N A [.ref (g.2.1 635), .int l1, .int l2] st) (zs_Qv g zs_ly zs_N A K) 0 0 A := by
  refine zs_met (cc := cMO_printNumber) (maxL := 3) (ret := none) (by decide) (Nat.le_of_ble_eq_true rfl) (fun p e s m below meth c hM => ?_)
  have hM : zs_M p c cMO_printNumber 3 s m meth [.ref (g.2.1 635), .int l1, .int l2].toArray "ThriftyStoresModel" none g := hM
  obtain ⟨hx, hb, hml, hr, hlk, hts, hown, hK⟩ := id hM
  intro ls H locs hl hP hS
  have hl : lv_has ls 3 [(0, .ref (g.2.1 635)), (1, .int l1), (2, .int l2)] := hl
  unfold zf_MO_printNumber at h
  refine lv_aload_n hx hb dMO_printNumber_0 rfl (lv_at hl 0 rfl) ?_
  refine lv_iload_n hx hb dMO_printNumber_1 rfl (lv_at hl 1 rfl) ?_
  refine lv_if_eq (tgt := 9) hx hb dMO_printNumber_2 rfl (fun hc => ?_) (fun hc => ?_)
  · have h := h.1 hc
    clear hc
    refine lv_aload_n hx hb dMO_printNumber_9 rfl (lv_at hl 0 rfl) ?_
    refine zr_geti hx hb hts zi_MO hown hK.1 hP zl_635.1 zl_635.2 rfl 28 (by decide) rfl (hts _ zq_761) dMO_printNumber_10 ?_
    refine lv_sipush (v := 200) hx hb dMO_printNumber_13 (by decide) ?_
    refine lv_icmp_ne (tgt := 23) hx hb dMO_printNumber_16 rfl (fun hc => ?_) (fun hc => ?_)
    · have h := h.1 hc
      clear hc
      refine lv_aload_n hx hb dMO_printNumber_23 rfl (lv_at hl 0 rfl) ?_
      refine zr_geti hx hb hts zi_MO hown hK.1 hP zl_635.1 zl_635.2 rfl 30 (by decide) rfl (hts _ zq_763) dMO_printNumber_24 ?_
      exact zw_MO_printNumber_27 hM  l2 (st.1 635 30) st h ls H locs (lv_sub hl [0, 2] rfl) hP hS
    · have h := h.2 hc
      clear hc
      refine lv_iconst (v := 3) hx hb dMO_printNumber_19 (by decide) ?_
      refine lv_goto (tgt := 27) hx hb dMO_printNumber_20 rfl ?_
      exact zw_MO_printNumber_27 hM  l2 3 st h ls H locs (lv_sub hl [0, 2] rfl) hP hS
  · have h := h.2 hc
    clear hc
    refine lv_iconst (v := 1) hx hb dMO_printNumber_5 (by decide) ?_
    refine lv_goto (tgt := 27) hx hb dMO_printNumber_6 rfl ?_
    exact zw_MO_printNumber_27 hM  l2 1 st h ls H locs (lv_sub hl [0, 2] rfl) hP hS
set_option maxHeartbeats 4000000 in
set_option maxRecDepth 100000 in
theorem zw_MO_step_579 (hM : zs_M p c cMO_step 8 s m meth args "ThriftyStoresModel" (some .int) g)   {K : Int32 → zs_T → Prop}   (l1 : Int32) (l2 : Int32) (l3 : Int32) (l5 : Int32) (st : zs_T) (h : zf_MO_step_579 K l1 l2 l3 l5 st) : zs_Go p l e (zs_rm 2 47) s m args below meth c g A (MQ below (zs_Qi g zs_ly zs_N A K) args s 0 0 A) 8 579 [(0, .ref (g.2.1 635)), (1, .int l1), (2, .int l2), (3, .int l3), (5, .int l5)] [] st := by
  obtain ⟨hx, hb, hml, hr, hlk, hts, hown, hK⟩ := id hM
  intro ls H locs hl hP hS
  unfold zf_MO_step_579 at h
  refine lv_iload hx hb dMO_step_579 (lv_at hl 4 rfl) ?_
  refine lv_bipush (v := 12) hx hb dMO_step_581 (by decide) ?_
  refine lv_icmp_ne (tgt := 590) hx hb dMO_step_583 rfl (fun hc => ?_) (fun hc => ?_)
  · have h := h.1 hc
    clear hc
    refine lv_iload hx hb dMO_step_590 (lv_at hl 4 rfl) ?_
    refine lv_bipush (v := 13) hx hb dMO_step_592 (by decide) ?_
    refine lv_icmp_ne (tgt := 610) hx hb dMO_step_594 rfl (fun hc => ?_) (fun hc => ?_)
    · have h := h.1 hc
      clear hc
      refine lv_iload_n hx hb dMO_step_610 rfl (lv_at hl 1 rfl) ?_
      refine lv_iconst (v := 1) hx hb dMO_step_611 (by decide) ?_
      refine lv_iadd hx hb dMO_step_612 ?_
      exact zr_iret hx hb hr hlk hP hS h dMO_step_613
    · have h := h.2 hc
      clear hc
      refine lv_aload_n hx hb dMO_step_597 rfl (lv_at hl 0 rfl) ?_
      refine zr_getr (b := 652) hx hb hts zi_MO hown hK.1 hP zl_635.1 zl_635.2 rfl 21 (by decide) rfl (hts _ zq_754) dMO_step_598 ?_
      refine lv_iload_n hx hb dMO_step_601 rfl (lv_at hl 2 rfl) ?_
      obtain ⟨hi1701, h⟩ := h
      refine zr_iald hx hb hK.1 hP zl_652.1 zl_652.2 hi1701 dMO_step_602 ?_
      refine lv_if_eq (tgt := 610) hx hb dMO_step_603 rfl (fun hc => ?_) (fun hc => ?_)
      · have h := h.1 hc
        clear hc
        refine lv_iload_n hx hb dMO_step_610 rfl (lv_at hl 1 rfl) ?_
        refine lv_iconst (v := 1) hx hb dMO_step_611 (by decide) ?_
        refine lv_iadd hx hb dMO_step_612 ?_
        exact zr_iret hx hb hr hlk hP hS h dMO_step_613
      · have h := h.2 hc
        clear hc
        refine lv_iload_n hx hb dMO_step_606 rfl (lv_at hl 3 rfl) ?_
        refine lv_goto (tgt := 613) hx hb dMO_step_607 rfl ?_
        exact zr_iret hx hb hr hlk hP hS h dMO_step_613
  · have h := h.2 hc
    clear hc
    refine lv_iload_n hx hb dMO_step_586 rfl (lv_at hl 2 rfl) ?_
    refine lv_goto (tgt := 613) hx hb dMO_step_587 rfl ?_
    exact zr_iret hx hb hr hlk hP hS h dMO_step_613
set_option maxHeartbeats 4000000 in
set_option maxRecDepth 100000 in
theorem zw_MO_step_567 (hM : zs_M p c cMO_step 8 s m meth args "ThriftyStoresModel" (some .int) g)   {K : Int32 → zs_T → Prop}   (l1 : Int32) (l2 : Int32) (l3 : Int32) (l5 : Int32) (st : zs_T) (h : zf_MO_step_567 K l1 l2 l3 l5 st) : zs_Go p l e (zs_rm 2 47) s m args below meth c g A (MQ below (zs_Qi g zs_ly zs_N A K) args s 0 0 A) 8 567 [(0, .ref (g.2.1 635)), (1, .int l1), (2, .int l2), (3, .int l3), (5, .int l5)] [] st := by
  obtain ⟨hx, hb, hml, hr, hlk, hts, hown, hK⟩ := id hM
  intro ls H locs hl hP hS
  unfold zf_MO_step_567 at h
  refine lv_iload hx hb dMO_step_567 (lv_at hl 4 rfl) ?_
  refine lv_bipush (v := 14) hx hb dMO_step_569 (by decide) ?_
  refine lv_icmp_ne (tgt := 579) hx hb dMO_step_571 rfl (fun hc => ?_) (fun hc => ?_)
  · have h := h.1 hc
    clear hc
    exact zw_MO_step_579 hM  l1 l2 l3 l5 st h ls H locs (lv_sub hl [0, 1, 2, 3, 4] rfl) hP hS
  · have h := h.2 hc
    clear hc
    refine lv_aload_n hx hb dMO_step_574 rfl (lv_at hl 0 rfl) ?_
    refine lv_iconst (v := 0) hx hb dMO_step_575 (by decide) ?_
    refine zr_put hx hb hts zi_MO tyMO tyMO_ok nmMO hown hK.1 hP hS zl_635.1 zl_635.2 rfl 30 (by decide) rfl (hts _ zq_763) rfl rfl rfl dMO_step_576 (fun H locs hP hS => ?_)
    obtain ⟨t1601, ez⟩ : ∃ tz : zs_T, tz = zs_i st 635 30 0 := ⟨_, rfl⟩
    have h := h t1601 ez
    have hP : zs_P g zs_ly zs_N A t1601 H := by rw [ez]; exact hP
    clear ez
    exact zw_MO_step_579 hM  l1 l2 l3 l5 t1601 h ls H locs (lv_sub hl [0, 1, 2, 3, 4] rfl) hP hS
set_option maxHeartbeats 4000000 in
set_option maxRecDepth 100000 in
theorem zw_MO_step_545 (hM : zs_M p c cMO_step 8 s m meth args "ThriftyStoresModel" (some .int) g)   {K : Int32 → zs_T → Prop}   (l1 : Int32) (l2 : Int32) (l3 : Int32) (l5 : Int32) (st : zs_T) (h : zf_MO_step_545 K l1 l2 l3 l5 st) : zs_Go p l e (zs_rm 2 47) s m args below meth c g A (MQ below (zs_Qi g zs_ly zs_N A K) args s 0 0 A) 8 545 [(0, .ref (g.2.1 635)), (1, .int l1), (2, .int l2), (3, .int l3), (5, .int l5)] [] st := by
  obtain ⟨hx, hb, hml, hr, hlk, hts, hown, hK⟩ := id hM
  intro ls H locs hl hP hS
  unfold zf_MO_step_545 at h
  refine lv_iload hx hb dMO_step_545 (lv_at hl 4 rfl) ?_
  refine lv_bipush (v := 13) hx hb dMO_step_547 (by decide) ?_
  refine lv_icmp_ne (tgt := 567) hx hb dMO_step_549 rfl (fun hc => ?_) (fun hc => ?_)
  · have h := h.1 hc
    clear hc
    exact zw_MO_step_567 hM  l1 l2 l3 l5 st h ls H locs (lv_sub hl [0, 1, 2, 3, 4] rfl) hP hS
  · have h := h.2 hc
    clear hc
    refine lv_aload_n hx hb dMO_step_552 rfl (lv_at hl 0 rfl) ?_
    refine zr_getr (b := 651) hx hb hts zi_MO hown hK.1 hP zl_635.1 zl_635.2 rfl 20 (by decide) rfl (hts _ zq_753) dMO_step_553 ?_
    refine lv_iload_n hx hb dMO_step_556 rfl (lv_at hl 2 rfl) ?_
    obtain ⟨hi1401, h⟩ := h
    refine zr_iald hx hb hK.1 hP zl_651.1 zl_651.2 hi1401 dMO_step_557 ?_
    refine lv_iconst (v := (-1)) hx hb dMO_step_558 (by decide) ?_
    refine lv_icmp_eq (tgt := 567) hx hb dMO_step_559 rfl (fun hc => ?_) (fun hc => ?_)
    · have h := h.1 hc
      clear hc
      exact zw_MO_step_567 hM  l1 l2 l3 l5 st h ls H locs (lv_sub hl [0, 1, 2, 3, 4] rfl) hP hS
    · have h := h.2 hc
      clear hc
      refine lv_aload_n hx hb dMO_step_562 rfl (lv_at hl 0 rfl) ?_
      refine lv_iconst (v := 1) hx hb dMO_step_563 (by decide) ?_
      refine zr_put hx hb hts zi_MO tyMO tyMO_ok nmMO hown hK.1 hP hS zl_635.1 zl_635.2 rfl 30 (by decide) rfl (hts _ zq_763) rfl rfl rfl dMO_step_564 (fun H locs hP hS => ?_)
      obtain ⟨t1402, ez⟩ : ∃ tz : zs_T, tz = zs_i st 635 30 1 := ⟨_, rfl⟩
      have h := h t1402 ez
      have hP : zs_P g zs_ly zs_N A t1402 H := by rw [ez]; exact hP
      clear ez
      exact zw_MO_step_567 hM  l1 l2 l3 l5 t1402 h ls H locs (lv_sub hl [0, 1, 2, 3, 4] rfl) hP hS
set_option maxHeartbeats 4000000 in
set_option maxRecDepth 100000 in
theorem zw_MO_step_536 (hM : zs_M p c cMO_step 8 s m meth args "ThriftyStoresModel" (some .int) g)   {K : Int32 → zs_T → Prop}   (l1 : Int32) (l2 : Int32) (l3 : Int32) (l5 : Int32) (s0 : Int32) (st : zs_T) (h : zf_MO_step_536 K l1 l2 l3 l5 s0 st) : zs_Go p l e (zs_rm 2 47) s m args below meth c g A (MQ below (zs_Qi g zs_ly zs_N A K) args s 0 0 A) 8 536 [(0, .ref (g.2.1 635)), (1, .int l1), (2, .int l2), (3, .int l3), (5, .int l5)] [.int s0, .ref (g.2.1 635)] st := by
  obtain ⟨hx, hb, hml, hr, hlk, hts, hown, hK⟩ := id hM
  intro ls H locs hl hP hS
  unfold zf_MO_step_536 at h
  refine lv_aload_n hx hb dMO_step_536 rfl (lv_at hl 0 rfl) ?_
  refine zr_getr (b := 652) hx hb hts zi_MO hown hK.1 hP zl_635.1 zl_635.2 rfl 21 (by decide) rfl (hts _ zq_754) dMO_step_537 ?_
  refine lv_iload_n hx hb dMO_step_540 rfl (lv_at hl 2 rfl) ?_
  obtain ⟨hi1501, h⟩ := h
  refine zr_iald hx hb hK.1 hP zl_652.1 zl_652.2 hi1501 dMO_step_541 ?_
  refine zr_callv (va_runV (As := [.int s0, .int (st.1 652 l2.toNatClampNeg)]) (rest := []) ⟨hx, hb, hml, hown, hts⟩ (zc_MO_printNumber l g A  h) (cwV 2 hts (zs_gV zq_993 zq_995 zp_61 zq_8 zq_996) rfl rfl rfl ⟨rfl, by decide, by decide, by decide +kernel⟩ ⟨Nat.le_of_ble_eq_true rfl, Nat.le_of_ble_eq_true rfl⟩) (zs_preV zs_nwk hK hP zl_635.1 zl_635.2 rfl) rfl rfl hl.1 rfl (lv_room (Nat.le_of_ble_eq_true rfl)) dMO_step_542 ⟨Nat.le_refl _, Nat.le_refl _⟩) hS (fun u1502 H locs h hP hS => ?_)
  exact zw_MO_step_545 hM  l1 l2 l3 l5 u1502 h ls H locs (lv_sub hl [0, 1, 2, 3, 4] rfl) hP hS
set_option maxHeartbeats 4000000 in
set_option maxRecDepth 100000 in
theorem zw_MO_step_513 (hM : zs_M p c cMO_step 8 s m meth args "ThriftyStoresModel" (some .int) g)   {K : Int32 → zs_T → Prop}   (l1 : Int32) (l2 : Int32) (l3 : Int32) (l5 : Int32) (st : zs_T) (h : zf_MO_step_513 K l1 l2 l3 l5 st) : zs_Go p l e (zs_rm 2 47) s m args below meth c g A (MQ below (zs_Qi g zs_ly zs_N A K) args s 0 0 A) 8 513 [(0, .ref (g.2.1 635)), (1, .int l1), (2, .int l2), (3, .int l3), (5, .int l5)] [] st := by
  obtain ⟨hx, hb, hml, hr, hlk, hts, hown, hK⟩ := id hM
  intro ls H locs hl hP hS
  unfold zf_MO_step_513 at h
  refine lv_iload hx hb dMO_step_513 (lv_at hl 4 rfl) ?_
  refine lv_bipush (v := 11) hx hb dMO_step_515 (by decide) ?_
  refine lv_icmp_ne (tgt := 545) hx hb dMO_step_517 rfl (fun hc => ?_) (fun hc => ?_)
  · have h := h.1 hc
    clear hc
    exact zw_MO_step_545 hM  l1 l2 l3 l5 st h ls H locs (lv_sub hl [0, 1, 2, 3, 4] rfl) hP hS
  · have h := h.2 hc
    clear hc
    refine lv_aload_n hx hb dMO_step_520 rfl (lv_at hl 0 rfl) ?_
    refine lv_aload_n hx hb dMO_step_521 rfl (lv_at hl 0 rfl) ?_
    refine zr_getr (b := 651) hx hb hts zi_MO hown hK.1 hP zl_635.1 zl_635.2 rfl 20 (by decide) rfl (hts _ zq_753) dMO_step_522 ?_
    refine lv_iload_n hx hb dMO_step_525 rfl (lv_at hl 2 rfl) ?_
    obtain ⟨hi1301, h⟩ := h
    refine zr_iald hx hb hK.1 hP zl_651.1 zl_651.2 hi1301 dMO_step_526 ?_
    refine lv_iconst (v := (-1)) hx hb dMO_step_527 (by decide) ?_
    refine lv_icmp_eq (tgt := 535) hx hb dMO_step_528 rfl (fun hc => ?_) (fun hc => ?_)
    · have h := h.1 hc
      clear hc
      refine lv_iconst (v := 0) hx hb dMO_step_535 (by decide) ?_
      exact zw_MO_step_536 hM  l1 l2 l3 l5 0 st h ls H locs (lv_sub hl [0, 1, 2, 3, 4] rfl) hP hS
    · have h := h.2 hc
      clear hc
      refine lv_iconst (v := 1) hx hb dMO_step_531 (by decide) ?_
      refine lv_goto (tgt := 536) hx hb dMO_step_532 rfl ?_
      exact zw_MO_step_536 hM  l1 l2 l3 l5 1 st h ls H locs (lv_sub hl [0, 1, 2, 3, 4] rfl) hP hS
set_option maxHeartbeats 4000000 in
set_option maxRecDepth 100000 in
theorem zw_MO_step_434 (hM : zs_M p c cMO_step 8 s m meth args "ThriftyStoresModel" (some .int) g)   {K : Int32 → zs_T → Prop}   (l1 : Int32) (l2 : Int32) (l3 : Int32) (l5 : Int32) (st : zs_T) (h : zf_MO_step_434 K l1 l2 l3 l5 st) : zs_Go p l e (zs_rm 2 47) s m args below meth c g A (MQ below (zs_Qi g zs_ly zs_N A K) args s 0 0 A) 8 434 [(0, .ref (g.2.1 635)), (1, .int l1), (2, .int l2), (3, .int l3), (5, .int l5)] [] st := by
  obtain ⟨hx, hb, hml, hr, hlk, hts, hown, hK⟩ := id hM
  intro ls H locs hl hP hS
  unfold zf_MO_step_434 at h
  refine lv_iload hx hb dMO_step_434 (lv_at hl 4 rfl) ?_
  refine lv_bipush (v := 10) hx hb dMO_step_436 (by decide) ?_
  refine lv_icmp_ne (tgt := 513) hx hb dMO_step_438 rfl (fun hc => ?_) (fun hc => ?_)
  · have h := h.1 hc
    clear hc
    exact zw_MO_step_513 hM  l1 l2 l3 l5 st h ls H locs (lv_sub hl [0, 1, 2, 3, 4] rfl) hP hS
  · have h := h.2 hc
    clear hc
    refine lv_aload_n hx hb dMO_step_441 rfl (lv_at hl 0 rfl) ?_
    refine zr_getr (b := 651) hx hb hts zi_MO hown hK.1 hP zl_635.1 zl_635.2 rfl 20 (by decide) rfl (hts _ zq_753) dMO_step_442 ?_
    refine lv_iload_n hx hb dMO_step_445 rfl (lv_at hl 2 rfl) ?_
    obtain ⟨hi1201, h⟩ := h
    refine zr_iald hx hb hK.1 hP zl_651.1 zl_651.2 hi1201 dMO_step_446 ?_
    refine lv_iconst (v := (-1)) hx hb dMO_step_447 (by decide) ?_
    refine lv_icmp_ne (tgt := 459) hx hb dMO_step_448 rfl (fun hc => ?_) (fun hc => ?_)
    · have h := h.1 hc
      clear hc
      refine lv_aload_n hx hb dMO_step_459 rfl (lv_at hl 0 rfl) ?_
      refine zr_getr (b := 653) hx hb hts zi_MO hown hK.1 hP zl_635.1 zl_635.2 rfl 22 (by decide) rfl (hts _ zq_755) dMO_step_460 ?_
      refine lv_bipush (v := 16) hx hb dMO_step_463 (by decide) ?_
      refine lv_aload_n hx hb dMO_step_465 rfl (lv_at hl 0 rfl) ?_
      refine zr_getr (b := 651) hx hb hts zi_MO hown hK.1 hP zl_635.1 zl_635.2 rfl 20 (by decide) rfl (hts _ zq_753) dMO_step_466 ?_
      refine lv_iload_n hx hb dMO_step_469 rfl (lv_at hl 2 rfl) ?_
      obtain ⟨hi1202, h⟩ := h
      refine zr_iald hx hb hK.1 hP zl_651.1 zl_651.2 hi1202 dMO_step_470 ?_
      refine lv_imul hx hb dMO_step_471 ?_
      refine lv_aload_n hx hb dMO_step_472 rfl (lv_at hl 0 rfl) ?_
      refine zr_getr (b := 652) hx hb hts zi_MO hown hK.1 hP zl_635.1 zl_635.2 rfl 21 (by decide) rfl (hts _ zq_754) dMO_step_473 ?_
      refine lv_iload_n hx hb dMO_step_476 rfl (lv_at hl 2 rfl) ?_
      obtain ⟨hi1203, h⟩ := h
      refine zr_iald hx hb hK.1 hP zl_652.1 zl_652.2 hi1203 dMO_step_477 ?_
      refine lv_iadd hx hb dMO_step_478 ?_
      refine lv_aload_n hx hb dMO_step_479 rfl (lv_at hl 0 rfl) ?_
      refine zr_getr (b := 651) hx hb hts zi_MO hown hK.1 hP zl_635.1 zl_635.2 rfl 20 (by decide) rfl (hts _ zq_753) dMO_step_480 ?_
      refine lv_iload_n hx hb dMO_step_483 rfl (lv_at hl 3 rfl) ?_
      obtain ⟨hi1204, h⟩ := h
      refine zr_iald hx hb hK.1 hP zl_651.1 zl_651.2 hi1204 dMO_step_484 ?_
      obtain ⟨hi1205, h⟩ := h
      refine zr_iast hx hb hK.1 hP hS zl_653.1 zl_653.2 hi1205 dMO_step_485 (fun H locs hP hS => ?_)
      obtain ⟨t1206, ez⟩ : ∃ tz : zs_T, tz = zs_i st 653 ((16 * (st.1 651 l2.toNatClampNeg)) + (st.1 652 l2.toNatClampNeg)).toNatClampNeg (st.1 651 l3.toNatClampNeg) := ⟨_, rfl⟩
      have h := h t1206 ez
      have hP : zs_P g zs_ly zs_N A t1206 H := by rw [ez]; exact hP
      clear ez
      refine lv_aload_n hx hb dMO_step_486 rfl (lv_at hl 0 rfl) ?_
      refine zr_getr (b := 654) hx hb hts zi_MO hown hK.1 hP zl_635.1 zl_635.2 rfl 23 (by decide) rfl (hts _ zq_756) dMO_step_487 ?_
      refine lv_bipush (v := 16) hx hb dMO_step_490 (by decide) ?_
      refine lv_aload_n hx hb dMO_step_492 rfl (lv_at hl 0 rfl) ?_
      refine zr_getr (b := 651) hx hb hts zi_MO hown hK.1 hP zl_635.1 zl_635.2 rfl 20 (by decide) rfl (hts _ zq_753) dMO_step_493 ?_
      refine lv_iload_n hx hb dMO_step_496 rfl (lv_at hl 2 rfl) ?_
      obtain ⟨hi1207, h⟩ := h
      refine zr_iald hx hb hK.1 hP zl_651.1 zl_651.2 hi1207 dMO_step_497 ?_
      refine lv_imul hx hb dMO_step_498 ?_
      refine lv_aload_n hx hb dMO_step_499 rfl (lv_at hl 0 rfl) ?_
      refine zr_getr (b := 652) hx hb hts zi_MO hown hK.1 hP zl_635.1 zl_635.2 rfl 21 (by decide) rfl (hts _ zq_754) dMO_step_500 ?_
      refine lv_iload_n hx hb dMO_step_503 rfl (lv_at hl 2 rfl) ?_
      obtain ⟨hi1208, h⟩ := h
      refine zr_iald hx hb hK.1 hP zl_652.1 zl_652.2 hi1208 dMO_step_504 ?_
      refine lv_iadd hx hb dMO_step_505 ?_
      refine lv_aload_n hx hb dMO_step_506 rfl (lv_at hl 0 rfl) ?_
      refine zr_getr (b := 652) hx hb hts zi_MO hown hK.1 hP zl_635.1 zl_635.2 rfl 21 (by decide) rfl (hts _ zq_754) dMO_step_507 ?_
      refine lv_iload_n hx hb dMO_step_510 rfl (lv_at hl 3 rfl) ?_
      obtain ⟨hi1209, h⟩ := h
      refine zr_iald hx hb hK.1 hP zl_652.1 zl_652.2 hi1209 dMO_step_511 ?_
      obtain ⟨hi1210, h⟩ := h
      refine zr_iast hx hb hK.1 hP hS zl_654.1 zl_654.2 hi1210 dMO_step_512 (fun H locs hP hS => ?_)
      obtain ⟨t1211, ez⟩ : ∃ tz : zs_T, tz = zs_i t1206 654 ((16 * (t1206.1 651 l2.toNatClampNeg)) + (t1206.1 652 l2.toNatClampNeg)).toNatClampNeg (t1206.1 652 l3.toNatClampNeg) := ⟨_, rfl⟩
      have h := h t1211 ez
      have hP : zs_P g zs_ly zs_N A t1211 H := by rw [ez]; exact hP
      clear ez
      exact zw_MO_step_513 hM  l1 l2 l3 l5 t1211 h ls H locs (lv_sub hl [0, 1, 2, 3, 4] rfl) hP hS
    · have h := h.2 hc
      clear hc
      refine lv_aload_n hx hb dMO_step_451 rfl (lv_at hl 0 rfl) ?_
      refine lv_iconst (v := 1) hx hb dMO_step_452 (by decide) ?_
      refine zr_put hx hb hts zi_MO tyMO tyMO_ok nmMO hown hK.1 hP hS zl_635.1 zl_635.2 rfl 30 (by decide) rfl (hts _ zq_763) rfl rfl rfl dMO_step_453 (fun H locs hP hS => ?_)
      obtain ⟨t1212, ez⟩ : ∃ tz : zs_T, tz = zs_i st 635 30 1 := ⟨_, rfl⟩
      have h := h t1212 ez
      have hP : zs_P g zs_ly zs_N A t1212 H := by rw [ez]; exact hP
      clear ez
      refine lv_goto (tgt := 513) hx hb dMO_step_456 rfl ?_
      exact zw_MO_step_513 hM  l1 l2 l3 l5 t1212 h ls H locs (lv_sub hl [0, 1, 2, 3, 4] rfl) hP hS
set_option maxHeartbeats 4000000 in
set_option maxRecDepth 100000 in
theorem zw_MO_step_362 (hM : zs_M p c cMO_step 8 s m meth args "ThriftyStoresModel" (some .int) g)   {K : Int32 → zs_T → Prop}   (l1 : Int32) (l2 : Int32) (l3 : Int32) (l5 : Int32) (st : zs_T) (h : zf_MO_step_362 K l1 l2 l3 l5 st) : zs_Go p l e (zs_rm 2 47) s m args below meth c g A (MQ below (zs_Qi g zs_ly zs_N A K) args s 0 0 A) 8 362 [(0, .ref (g.2.1 635)), (1, .int l1), (2, .int l2), (3, .int l3), (5, .int l5)] [] st := by
  obtain ⟨hx, hb, hml, hr, hlk, hts, hown, hK⟩ := id hM
  intro ls H locs hl hP hS
  unfold zf_MO_step_362 at h
  refine lv_iload hx hb dMO_step_362 (lv_at hl 4 rfl) ?_
  refine lv_bipush (v := 9) hx hb dMO_step_364 (by decide) ?_
  refine lv_icmp_ne (tgt := 434) hx hb dMO_step_366 rfl (fun hc => ?_) (fun hc => ?_)
  · have h := h.1 hc
    clear hc
    exact zw_MO_step_434 hM  l1 l2 l3 l5 st h ls H locs (lv_sub hl [0, 1, 2, 3, 4] rfl) hP hS
  · have h := h.2 hc
    clear hc
    refine lv_aload_n hx hb dMO_step_369 rfl (lv_at hl 0 rfl) ?_
    refine zr_getr (b := 651) hx hb hts zi_MO hown hK.1 hP zl_635.1 zl_635.2 rfl 20 (by decide) rfl (hts _ zq_753) dMO_step_370 ?_
    refine lv_iload_n hx hb dMO_step_373 rfl (lv_at hl 3 rfl) ?_
    obtain ⟨hi1101, h⟩ := h
    refine zr_iald hx hb hK.1 hP zl_651.1 zl_651.2 hi1101 dMO_step_374 ?_
    refine lv_iconst (v := (-1)) hx hb dMO_step_375 (by decide) ?_
    refine lv_icmp_ne (tgt := 387) hx hb dMO_step_376 rfl (fun hc => ?_) (fun hc => ?_)
    · have h := h.1 hc
      clear hc
      refine lv_aload_n hx hb dMO_step_387 rfl (lv_at hl 0 rfl) ?_
      refine lv_iload_n hx hb dMO_step_388 rfl (lv_at hl 2 rfl) ?_
      refine lv_aload_n hx hb dMO_step_389 rfl (lv_at hl 0 rfl) ?_
      refine zr_getr (b := 653) hx hb hts zi_MO hown hK.1 hP zl_635.1 zl_635.2 rfl 22 (by decide) rfl (hts _ zq_755) dMO_step_390 ?_
      refine lv_bipush (v := 16) hx hb dMO_step_393 (by decide) ?_
      refine lv_aload_n hx hb dMO_step_395 rfl (lv_at hl 0 rfl) ?_
      refine zr_getr (b := 651) hx hb hts zi_MO hown hK.1 hP zl_635.1 zl_635.2 rfl 20 (by decide) rfl (hts _ zq_753) dMO_step_396 ?_
      refine lv_iload_n hx hb dMO_step_399 rfl (lv_at hl 3 rfl) ?_
      obtain ⟨hi1102, h⟩ := h
      refine zr_iald hx hb hK.1 hP zl_651.1 zl_651.2 hi1102 dMO_step_400 ?_
      refine lv_imul hx hb dMO_step_401 ?_
      refine lv_aload_n hx hb dMO_step_402 rfl (lv_at hl 0 rfl) ?_
      refine zr_getr (b := 652) hx hb hts zi_MO hown hK.1 hP zl_635.1 zl_635.2 rfl 21 (by decide) rfl (hts _ zq_754) dMO_step_403 ?_
      refine lv_iload_n hx hb dMO_step_406 rfl (lv_at hl 3 rfl) ?_
      obtain ⟨hi1103, h⟩ := h
      refine zr_iald hx hb hK.1 hP zl_652.1 zl_652.2 hi1103 dMO_step_407 ?_
      refine lv_iadd hx hb dMO_step_408 ?_
      obtain ⟨hi1104, h⟩ := h
      refine zr_iald hx hb hK.1 hP zl_653.1 zl_653.2 hi1104 dMO_step_409 ?_
      refine lv_aload_n hx hb dMO_step_410 rfl (lv_at hl 0 rfl) ?_
      refine zr_getr (b := 654) hx hb hts zi_MO hown hK.1 hP zl_635.1 zl_635.2 rfl 23 (by decide) rfl (hts _ zq_756) dMO_step_411 ?_
      refine lv_bipush (v := 16) hx hb dMO_step_414 (by decide) ?_
      refine lv_aload_n hx hb dMO_step_416 rfl (lv_at hl 0 rfl) ?_
      refine zr_getr (b := 651) hx hb hts zi_MO hown hK.1 hP zl_635.1 zl_635.2 rfl 20 (by decide) rfl (hts _ zq_753) dMO_step_417 ?_
      refine lv_iload_n hx hb dMO_step_420 rfl (lv_at hl 3 rfl) ?_
      obtain ⟨hi1105, h⟩ := h
      refine zr_iald hx hb hK.1 hP zl_651.1 zl_651.2 hi1105 dMO_step_421 ?_
      refine lv_imul hx hb dMO_step_422 ?_
      refine lv_aload_n hx hb dMO_step_423 rfl (lv_at hl 0 rfl) ?_
      refine zr_getr (b := 652) hx hb hts zi_MO hown hK.1 hP zl_635.1 zl_635.2 rfl 21 (by decide) rfl (hts _ zq_754) dMO_step_424 ?_
      refine lv_iload_n hx hb dMO_step_427 rfl (lv_at hl 3 rfl) ?_
      obtain ⟨hi1106, h⟩ := h
      refine zr_iald hx hb hK.1 hP zl_652.1 zl_652.2 hi1106 dMO_step_428 ?_
      refine lv_iadd hx hb dMO_step_429 ?_
      obtain ⟨hi1107, h⟩ := h
      refine zr_iald hx hb hK.1 hP zl_654.1 zl_654.2 hi1107 dMO_step_430 ?_
      refine zr_callv (va_runV (As := [.int l2, .int (st.1 653 ((16 * (st.1 651 l3.toNatClampNeg)) + (st.1 652 l3.toNatClampNeg)).toNatClampNeg), .int (st.1 654 ((16 * (st.1 651 l3.toNatClampNeg)) + (st.1 652 l3.toNatClampNeg)).toNatClampNeg)]) (rest := []) ⟨hx, hb, hml, hown, hts⟩ (zc_MO_put l g A  h) (cwV 3 hts (zs_gV zq_981 zq_983 zp_58 zq_8 zq_984) rfl rfl rfl ⟨rfl, by decide, by decide, by decide +kernel⟩ ⟨Nat.le_of_ble_eq_true rfl, Nat.le_of_ble_eq_true rfl⟩) (zs_preV zs_nwk hK hP zl_635.1 zl_635.2 rfl) rfl rfl hl.1 rfl (lv_room (Nat.le_of_ble_eq_true rfl)) dMO_step_431 ⟨Nat.le_refl _, Nat.le_refl _⟩) hS (fun u1108 H locs h hP hS => ?_)
      exact zw_MO_step_434 hM  l1 l2 l3 l5 u1108 h ls H locs (lv_sub hl [0, 1, 2, 3, 4] rfl) hP hS
    · have h := h.2 hc
      clear hc
      refine lv_aload_n hx hb dMO_step_379 rfl (lv_at hl 0 rfl) ?_
      refine lv_iconst (v := 1) hx hb dMO_step_380 (by decide) ?_
      refine zr_put hx hb hts zi_MO tyMO tyMO_ok nmMO hown hK.1 hP hS zl_635.1 zl_635.2 rfl 30 (by decide) rfl (hts _ zq_763) rfl rfl rfl dMO_step_381 (fun H locs hP hS => ?_)
      obtain ⟨t1109, ez⟩ : ∃ tz : zs_T, tz = zs_i st 635 30 1 := ⟨_, rfl⟩
      have h := h t1109 ez
      have hP : zs_P g zs_ly zs_N A t1109 H := by rw [ez]; exact hP
      clear ez
      refine lv_goto (tgt := 434) hx hb dMO_step_384 rfl ?_
      exact zw_MO_step_434 hM  l1 l2 l3 l5 t1109 h ls H locs (lv_sub hl [0, 1, 2, 3, 4] rfl) hP hS
set_option maxHeartbeats 4000000 in
set_option maxRecDepth 100000 in
theorem zw_MO_step_347 (hM : zs_M p c cMO_step 8 s m meth args "ThriftyStoresModel" (some .int) g)   {K : Int32 → zs_T → Prop}   (l1 : Int32) (l2 : Int32) (l3 : Int32) (l4 : Int32) (l5 : Int32) (st : zs_T) (h : zf_MO_step_347 K l1 l2 l3 l4 l5 st) : zs_Go p l e (zs_rm 2 47) s m args below meth c g A (MQ below (zs_Qi g zs_ly zs_N A K) args s 0 0 A) 8 347 [(0, .ref (g.2.1 635)), (1, .int l1), (2, .int l2), (3, .int l3), (4, .int l4), (5, .int l5)] [] st := by
  obtain ⟨hx, hb, hml, hr, hlk, hts, hown, hK⟩ := id hM
  intro ls H locs hl hP hS
  unfold zf_MO_step_347 at h
  refine lv_iload hx hb dMO_step_347 (lv_at hl 5 rfl) ?_
  refine lv_bipush (v := 8) hx hb dMO_step_349 (by decide) ?_
  refine lv_icmp_ne (tgt := 362) hx hb dMO_step_351 rfl (fun hc => ?_) (fun hc => ?_)
  · have h := h.1 hc
    clear hc
    exact zw_MO_step_362 hM  l1 l2 l3 l5 st h ls H locs (lv_sub hl [0, 1, 2, 3, 5] rfl) hP hS
  · have h := h.2 hc
    clear hc
    refine lv_aload_n hx hb dMO_step_354 rfl (lv_at hl 0 rfl) ?_
    refine lv_iload_n hx hb dMO_step_355 rfl (lv_at hl 2 rfl) ?_
    refine lv_iload_n hx hb dMO_step_356 rfl (lv_at hl 3 rfl) ?_
    refine lv_iload hx hb dMO_step_357 (lv_at hl 4 rfl) ?_
    refine zr_callv (va_runV (As := [.int l2, .int l3, .int l4]) (rest := []) ⟨hx, hb, hml, hown, hts⟩ (zc_MO_make l g A  h) (cwV 3 hts (zs_gV zq_989 zq_991 zp_60 zq_8 zq_992) rfl rfl rfl ⟨rfl, by decide, by decide, by decide +kernel⟩ ⟨Nat.le_of_ble_eq_true rfl, Nat.le_of_ble_eq_true rfl⟩) (zs_preV zs_nwk hK hP zl_635.1 zl_635.2 rfl) rfl rfl hl.1 rfl (lv_room (Nat.le_of_ble_eq_true rfl)) dMO_step_359 ⟨Nat.le_refl _, Nat.le_refl _⟩) hS (fun u901 H locs h hP hS => ?_)
    exact zw_MO_step_362 hM  l1 l2 l3 l5 u901 h ls H locs (lv_sub hl [0, 1, 2, 3, 5] rfl) hP hS
set_option maxHeartbeats 4000000 in
set_option maxRecDepth 100000 in
theorem zw_MO_step_325 (hM : zs_M p c cMO_step 8 s m meth args "ThriftyStoresModel" (some .int) g)   {K : Int32 → zs_T → Prop}   (l1 : Int32) (l2 : Int32) (l3 : Int32) (l4 : Int32) (l5 : Int32) (st : zs_T) (h : zf_MO_step_325 K l1 l2 l3 l4 l5 st) : zs_Go p l e (zs_rm 2 47) s m args below meth c g A (MQ below (zs_Qi g zs_ly zs_N A K) args s 0 0 A) 8 325 [(0, .ref (g.2.1 635)), (1, .int l1), (2, .int l2), (3, .int l3), (4, .int l4), (5, .int l5)] [] st := by
  obtain ⟨hx, hb, hml, hr, hlk, hts, hown, hK⟩ := id hM
  intro ls H locs hl hP hS
  unfold zf_MO_step_325 at h
  refine lv_aload_n hx hb dMO_step_325 rfl (lv_at hl 0 rfl) ?_
  refine lv_iconst (v := 1) hx hb dMO_step_326 (by decide) ?_
  refine zr_put hx hb hts zi_MO tyMO tyMO_ok nmMO hown hK.1 hP hS zl_635.1 zl_635.2 rfl 30 (by decide) rfl (hts _ zq_763) rfl rfl rfl dMO_step_327 (fun H locs hP hS => ?_)
  obtain ⟨t1001, ez⟩ : ∃ tz : zs_T, tz = zs_i st 635 30 1 := ⟨_, rfl⟩
  have h := h t1001 ez
  have hP : zs_P g zs_ly zs_N A t1001 H := by rw [ez]; exact hP
  clear ez
  refine lv_goto (tgt := 347) hx hb dMO_step_330 rfl ?_
  exact zw_MO_step_347 hM  l1 l2 l3 l4 l5 t1001 h ls H locs (lv_sub hl [0, 1, 2, 3, 4, 5] rfl) hP hS
set_option maxHeartbeats 4000000 in
set_option maxRecDepth 100000 in
theorem zw_MO_step_254 (hM : zs_M p c cMO_step 8 s m meth args "ThriftyStoresModel" (some .int) g)   {K : Int32 → zs_T → Prop}   (l1 : Int32) (l2 : Int32) (l3 : Int32) (l4 : Int32) (l5 : Int32) (st : zs_T) (h : zf_MO_step_254 K l1 l2 l3 l4 l5 st) : zs_Go p l e (zs_rm 2 47) s m args below meth c g A (MQ below (zs_Qi g zs_ly zs_N A K) args s 0 0 A) 8 254 [(0, .ref (g.2.1 635)), (1, .int l1), (2, .int l2), (3, .int l3), (4, .int l4), (5, .int l5)] [] st := by
  obtain ⟨hx, hb, hml, hr, hlk, hts, hown, hK⟩ := id hM
  intro ls H locs hl hP hS
  unfold zf_MO_step_254 at h
  refine lv_iload hx hb dMO_step_254 (lv_at hl 5 rfl) ?_
  refine lv_bipush (v := 7) hx hb dMO_step_256 (by decide) ?_
  refine lv_icmp_ne (tgt := 347) hx hb dMO_step_258 rfl (fun hc => ?_) (fun hc => ?_)
  · have h := h.1 hc
    clear hc
    exact zw_MO_step_347 hM  l1 l2 l3 l4 l5 st h ls H locs (lv_sub hl [0, 1, 2, 3, 4, 5] rfl) hP hS
  · have h := h.2 hc
    clear hc
    refine lv_aload_n hx hb dMO_step_261 rfl (lv_at hl 0 rfl) ?_
    refine zr_getr (b := 652) hx hb hts zi_MO hown hK.1 hP zl_635.1 zl_635.2 rfl 21 (by decide) rfl (hts _ zq_754) dMO_step_262 ?_
    refine lv_iload_n hx hb dMO_step_265 rfl (lv_at hl 3 rfl) ?_
    obtain ⟨hi601, h⟩ := h
    refine zr_iald hx hb hK.1 hP zl_652.1 zl_652.2 hi601 dMO_step_266 ?_
    refine lv_i2l hx hb dMO_step_267 rfl ?_
    refine lv_aload_n hx hb dMO_step_268 rfl (lv_at hl 0 rfl) ?_
    refine zr_getr (b := 652) hx hb hts zi_MO hown hK.1 hP zl_635.1 zl_635.2 rfl 21 (by decide) rfl (hts _ zq_754) dMO_step_269 ?_
    refine lv_iload hx hb dMO_step_272 (lv_at hl 4 rfl) ?_
    obtain ⟨hi602, h⟩ := h
    refine zr_iald hx hb hK.1 hP zl_652.1 zl_652.2 hi602 dMO_step_274 ?_
    refine lv_i2l hx hb dMO_step_275 rfl ?_
    refine lv_ladd hx hb dMO_step_276 ?_
    refine lv_lstore hx hb dMO_step_277 hl (by decide) rfl (fun ls hl => ?_)
    have hl : lv_has ls 8 [(6, .long (((st.1 652 l3.toNatClampNeg).toInt64) + ((st.1 652 l4.toNatClampNeg).toInt64))), (0, .ref (g.2.1 635)), (1, .int l1), (2, .int l2), (3, .int l3), (4, .int l4), (5, .int l5)] := hl
    refine lv_aload_n hx hb dMO_step_279 rfl (lv_at hl 1 rfl) ?_
    refine zr_getr (b := 651) hx hb hts zi_MO hown hK.1 hP zl_635.1 zl_635.2 rfl 20 (by decide) rfl (hts _ zq_753) dMO_step_280 ?_
    refine lv_iload_n hx hb dMO_step_283 rfl (lv_at hl 4 rfl) ?_
    obtain ⟨hi603, h⟩ := h
    refine zr_iald hx hb hK.1 hP zl_651.1 zl_651.2 hi603 dMO_step_284 ?_
    refine lv_iconst (v := (-1)) hx hb dMO_step_285 (by decide) ?_
    refine lv_icmp_eq (tgt := 325) hx hb dMO_step_286 rfl (fun hc => ?_) (fun hc => ?_)
    · have h := h.1 hc
      clear hc
      exact zw_MO_step_325 hM  l1 l2 l3 l4 l5 st h ls H locs (lv_sub hl [1, 2, 3, 4, 5, 6] rfl) hP hS
    · have h := h.2 hc
      clear hc
      refine lv_aload_n hx hb dMO_step_289 rfl (lv_at hl 1 rfl) ?_
      refine zr_getr (b := 651) hx hb hts zi_MO hown hK.1 hP zl_635.1 zl_635.2 rfl 20 (by decide) rfl (hts _ zq_753) dMO_step_290 ?_
      refine lv_iload hx hb dMO_step_293 (lv_at hl 5 rfl) ?_
      obtain ⟨hi604, h⟩ := h
      refine zr_iald hx hb hK.1 hP zl_651.1 zl_651.2 hi604 dMO_step_295 ?_
      refine lv_iconst (v := (-1)) hx hb dMO_step_296 (by decide) ?_
      refine lv_icmp_ne (tgt := 325) hx hb dMO_step_297 rfl (fun hc => ?_) (fun hc => ?_)
      · have h := h.1 hc
        clear hc
        exact zw_MO_step_325 hM  l1 l2 l3 l4 l5 st h ls H locs (lv_sub hl [1, 2, 3, 4, 5, 6] rfl) hP hS
      · have h := h.2 hc
        clear hc
        refine lv_lload hx hb dMO_step_300 (lv_at hl 0 rfl) ?_
        refine lv_lconst (v := 0) hx hb dMO_step_302 (by decide) ?_
        refine W.lcmp hx hb dMO_step_303 ?_
        refine lv_if_lt (tgt := 325) hx hb dMO_step_304 rfl (fun hc => ?_) (fun hc => ?_)
        · have h := h.1 hc
          clear hc
          exact zw_MO_step_325 hM  l1 l2 l3 l4 l5 st h ls H locs (lv_sub hl [1, 2, 3, 4, 5, 6] rfl) hP hS
        · have h := h.2 hc
          clear hc
          refine lv_lload hx hb dMO_step_307 (lv_at hl 0 rfl) ?_
          refine lv_aload_n hx hb dMO_step_309 rfl (lv_at hl 1 rfl) ?_
          refine zr_getr (b := 655) hx hb hts zi_MO hown hK.1 hP zl_635.1 zl_635.2 rfl 24 (by decide) rfl (hts _ zq_757) dMO_step_310 ?_
          refine lv_aload_n hx hb dMO_step_313 rfl (lv_at hl 1 rfl) ?_
          refine zr_getr (b := 651) hx hb hts zi_MO hown hK.1 hP zl_635.1 zl_635.2 rfl 20 (by decide) rfl (hts _ zq_753) dMO_step_314 ?_
          refine lv_iload_n hx hb dMO_step_317 rfl (lv_at hl 4 rfl) ?_
          obtain ⟨hi605, h⟩ := h
          refine zr_iald hx hb hK.1 hP zl_651.1 zl_651.2 hi605 dMO_step_318 ?_
          obtain ⟨hi606, h⟩ := h
          refine zr_iald hx hb hK.1 hP zl_655.1 zl_655.2 hi606 dMO_step_319 ?_
          refine lv_i2l hx hb dMO_step_320 rfl ?_
          refine W.lcmp hx hb dMO_step_321 ?_
          refine lv_if_lt (tgt := 333) hx hb dMO_step_322 rfl (fun hc => ?_) (fun hc => ?_)
          · have h := h.1 hc
            clear hc
            refine lv_aload_n hx hb dMO_step_333 rfl (lv_at hl 1 rfl) ?_
            refine lv_iload_n hx hb dMO_step_334 rfl (lv_at hl 3 rfl) ?_
            refine lv_aload_n hx hb dMO_step_335 rfl (lv_at hl 1 rfl) ?_
            refine zr_getr (b := 651) hx hb hts zi_MO hown hK.1 hP zl_635.1 zl_635.2 rfl 20 (by decide) rfl (hts _ zq_753) dMO_step_336 ?_
            refine lv_iload_n hx hb dMO_step_339 rfl (lv_at hl 4 rfl) ?_
            obtain ⟨hi607, h⟩ := h
            refine zr_iald hx hb hK.1 hP zl_651.1 zl_651.2 hi607 dMO_step_340 ?_
            refine lv_lload hx hb dMO_step_341 (lv_at hl 0 rfl) ?_
            refine lv_l2i hx hb dMO_step_343 rfl ?_
            refine zr_callv (va_runV (As := [.int l2, .int (st.1 651 l3.toNatClampNeg), .int ((((st.1 652 l3.toNatClampNeg).toInt64) + ((st.1 652 l4.toNatClampNeg).toInt64)).toInt32)]) (rest := []) ⟨hx, hb, hml, hown, hts⟩ (zc_MO_put l g A  h) (cwV 3 hts (zs_gV zq_981 zq_983 zp_58 zq_8 zq_984) rfl rfl rfl ⟨rfl, by decide, by decide, by decide +kernel⟩ ⟨Nat.le_of_ble_eq_true rfl, Nat.le_of_ble_eq_true rfl⟩) (zs_preV zs_nwk hK hP zl_635.1 zl_635.2 rfl) rfl rfl hl.1 rfl (lv_room (Nat.le_of_ble_eq_true rfl)) dMO_step_344 ⟨Nat.le_refl _, Nat.le_refl _⟩) hS (fun u608 H locs h hP hS => ?_)
            exact zw_MO_step_347 hM  l1 l2 l3 l4 l5 u608 h ls H locs (lv_sub hl [1, 2, 3, 4, 5, 6] rfl) hP hS
          · have h := h.2 hc
            clear hc
            exact zw_MO_step_325 hM  l1 l2 l3 l4 l5 st h ls H locs (lv_sub hl [1, 2, 3, 4, 5, 6] rfl) hP hS
set_option maxHeartbeats 4000000 in
set_option maxRecDepth 100000 in
theorem zw_MO_step_251 (hM : zs_M p c cMO_step 8 s m meth args "ThriftyStoresModel" (some .int) g)   {K : Int32 → zs_T → Prop}   (l1 : Int32) (l2 : Int32) (l3 : Int32) (l4 : Int32) (l5 : Int32) (s0 : Int32) (s1 : Int32) (s2 : Int32) (st : zs_T) (h : zf_MO_step_251 K l1 l2 l3 l4 l5 s0 s1 s2 st) : zs_Go p l e (zs_rm 2 47) s m args below meth c g A (MQ below (zs_Qi g zs_ly zs_N A K) args s 0 0 A) 8 251 [(0, .ref (g.2.1 635)), (1, .int l1), (2, .int l2), (3, .int l3), (4, .int l4), (5, .int l5)] [.int s0, .int s1, .int s2, .ref (g.2.1 635)] st := by
  obtain ⟨hx, hb, hml, hr, hlk, hts, hown, hK⟩ := id hM
  intro ls H locs hl hP hS
  unfold zf_MO_step_251 at h
  refine zr_callv (va_runV (As := [.int s2, .int s1, .int s0]) (rest := []) ⟨hx, hb, hml, hown, hts⟩ (zc_MO_put l g A  h) (cwV 3 hts (zs_gV zq_981 zq_983 zp_58 zq_8 zq_984) rfl rfl rfl ⟨rfl, by decide, by decide, by decide +kernel⟩ ⟨Nat.le_of_ble_eq_true rfl, Nat.le_of_ble_eq_true rfl⟩) (zs_preV zs_nwk hK hP zl_635.1 zl_635.2 rfl) rfl rfl hl.1 rfl (lv_room (Nat.le_of_ble_eq_true rfl)) dMO_step_251 ⟨Nat.le_refl _, Nat.le_refl _⟩) hS (fun u801 H locs h hP hS => ?_)
  exact zw_MO_step_254 hM  l1 l2 l3 l4 l5 u801 h ls H locs (lv_sub hl [0, 1, 2, 3, 4, 5] rfl) hP hS
set_option maxHeartbeats 4000000 in
set_option maxRecDepth 100000 in
theorem zw_MO_step_250 (hM : zs_M p c cMO_step 8 s m meth args "ThriftyStoresModel" (some .int) g)   {K : Int32 → zs_T → Prop}   (l1 : Int32) (l2 : Int32) (l3 : Int32) (l4 : Int32) (l5 : Int32) (s0 : Int32) (s1 : Int32) (st : zs_T) (h : zf_MO_step_250 K l1 l2 l3 l4 l5 s0 s1 st) : zs_Go p l e (zs_rm 2 47) s m args below meth c g A (MQ below (zs_Qi g zs_ly zs_N A K) args s 0 0 A) 8 250 [(0, .ref (g.2.1 635)), (1, .int l1), (2, .int l2), (3, .int l3), (4, .int l4), (5, .int l5)] [.int s0, .int s1, .ref (g.2.1 635)] st := by
  obtain ⟨hx, hb, hml, hr, hlk, hts, hown, hK⟩ := id hM
  intro ls H locs hl hP hS
  unfold zf_MO_step_250 at h
  refine lv_iconst (v := 0) hx hb dMO_step_250 (by decide) ?_
  exact zw_MO_step_251 hM  l1 l2 l3 l4 l5 0 s0 s1 st h ls H locs (lv_sub hl [0, 1, 2, 3, 4, 5] rfl) hP hS
set_option maxHeartbeats 4000000 in
set_option maxRecDepth 100000 in
theorem zw_MO_step_204 (hM : zs_M p c cMO_step 8 s m meth args "ThriftyStoresModel" (some .int) g)   {K : Int32 → zs_T → Prop}   (l1 : Int32) (l2 : Int32) (l3 : Int32) (l4 : Int32) (l5 : Int32) (st : zs_T) (h : zf_MO_step_204 K l1 l2 l3 l4 l5 st) : zs_Go p l e (zs_rm 2 47) s m args below meth c g A (MQ below (zs_Qi g zs_ly zs_N A K) args s 0 0 A) 8 204 [(0, .ref (g.2.1 635)), (1, .int l1), (2, .int l2), (3, .int l3), (4, .int l4), (5, .int l5)] [] st := by
  obtain ⟨hx, hb, hml, hr, hlk, hts, hown, hK⟩ := id hM
  intro ls H locs hl hP hS
  unfold zf_MO_step_204 at h
  refine lv_iload hx hb dMO_step_204 (lv_at hl 5 rfl) ?_
  refine lv_bipush (v := 6) hx hb dMO_step_206 (by decide) ?_
  refine lv_icmp_ne (tgt := 254) hx hb dMO_step_208 rfl (fun hc => ?_) (fun hc => ?_)
  · have h := h.1 hc
    clear hc
    exact zw_MO_step_254 hM  l1 l2 l3 l4 l5 st h ls H locs (lv_sub hl [0, 1, 2, 3, 4, 5] rfl) hP hS
  · have h := h.2 hc
    clear hc
    refine lv_aload_n hx hb dMO_step_211 rfl (lv_at hl 0 rfl) ?_
    refine lv_iload_n hx hb dMO_step_212 rfl (lv_at hl 2 rfl) ?_
    refine lv_iconst (v := (-1)) hx hb dMO_step_213 (by decide) ?_
    refine lv_aload_n hx hb dMO_step_214 rfl (lv_at hl 0 rfl) ?_
    refine zr_getr (b := 651) hx hb hts zi_MO hown hK.1 hP zl_635.1 zl_635.2 rfl 20 (by decide) rfl (hts _ zq_753) dMO_step_215 ?_
    refine lv_iload_n hx hb dMO_step_218 rfl (lv_at hl 3 rfl) ?_
    obtain ⟨hi301, h⟩ := h
    refine zr_iald hx hb hK.1 hP zl_651.1 zl_651.2 hi301 dMO_step_219 ?_
    refine lv_aload_n hx hb dMO_step_220 rfl (lv_at hl 0 rfl) ?_
    refine zr_getr (b := 651) hx hb hts zi_MO hown hK.1 hP zl_635.1 zl_635.2 rfl 20 (by decide) rfl (hts _ zq_753) dMO_step_221 ?_
    refine lv_iload hx hb dMO_step_224 (lv_at hl 4 rfl) ?_
    obtain ⟨hi302, h⟩ := h
    refine zr_iald hx hb hK.1 hP zl_651.1 zl_651.2 hi302 dMO_step_226 ?_
    refine lv_icmp_ne (tgt := 250) hx hb dMO_step_227 rfl (fun hc => ?_) (fun hc => ?_)
    · have h := h.1 hc
      clear hc
      exact zw_MO_step_250 hM  l1 l2 l3 l4 l5 (-1) l2 st h ls H locs (lv_sub hl [0, 1, 2, 3, 4, 5] rfl) hP hS
    · have h := h.2 hc
      clear hc
      refine lv_aload_n hx hb dMO_step_230 rfl (lv_at hl 0 rfl) ?_
      refine zr_getr (b := 652) hx hb hts zi_MO hown hK.1 hP zl_635.1 zl_635.2 rfl 21 (by decide) rfl (hts _ zq_754) dMO_step_231 ?_
      refine lv_iload_n hx hb dMO_step_234 rfl (lv_at hl 3 rfl) ?_
      obtain ⟨hi303, h⟩ := h
      refine zr_iald hx hb hK.1 hP zl_652.1 zl_652.2 hi303 dMO_step_235 ?_
      refine lv_aload_n hx hb dMO_step_236 rfl (lv_at hl 0 rfl) ?_
      refine zr_getr (b := 652) hx hb hts zi_MO hown hK.1 hP zl_635.1 zl_635.2 rfl 21 (by decide) rfl (hts _ zq_754) dMO_step_237 ?_
      refine lv_iload hx hb dMO_step_240 (lv_at hl 4 rfl) ?_
      obtain ⟨hi304, h⟩ := h
      refine zr_iald hx hb hK.1 hP zl_652.1 zl_652.2 hi304 dMO_step_242 ?_
      refine lv_icmp_ne (tgt := 250) hx hb dMO_step_243 rfl (fun hc => ?_) (fun hc => ?_)
      · have h := h.1 hc
        clear hc
        exact zw_MO_step_250 hM  l1 l2 l3 l4 l5 (-1) l2 st h ls H locs (lv_sub hl [0, 1, 2, 3, 4, 5] rfl) hP hS
      · have h := h.2 hc
        clear hc
        refine lv_iconst (v := 1) hx hb dMO_step_246 (by decide) ?_
        refine lv_goto (tgt := 251) hx hb dMO_step_247 rfl ?_
        exact zw_MO_step_251 hM  l1 l2 l3 l4 l5 1 (-1) l2 st h ls H locs (lv_sub hl [0, 1, 2, 3, 4, 5] rfl) hP hS
set_option maxHeartbeats 4000000 in
set_option maxRecDepth 100000 in
theorem zw_MO_step_136 (hM : zs_M p c cMO_step 8 s m meth args "ThriftyStoresModel" (some .int) g)   {K : Int32 → zs_T → Prop}   (l1 : Int32) (l2 : Int32) (l3 : Int32) (l4 : Int32) (l5 : Int32) (st : zs_T) (h : zf_MO_step_136 K l1 l2 l3 l4 l5 st) : zs_Go p l e (zs_rm 2 47) s m args below meth c g A (MQ below (zs_Qi g zs_ly zs_N A K) args s 0 0 A) 8 136 [(0, .ref (g.2.1 635)), (1, .int l1), (2, .int l2), (3, .int l3), (4, .int l4), (5, .int l5)] [] st := by
  obtain ⟨hx, hb, hml, hr, hlk, hts, hown, hK⟩ := id hM
  intro ls H locs hl hP hS
  unfold zf_MO_step_136 at h
  refine lv_aload_n hx hb dMO_step_136 rfl (lv_at hl 0 rfl) ?_
  refine lv_iconst (v := 1) hx hb dMO_step_137 (by decide) ?_
  refine zr_put hx hb hts zi_MO tyMO tyMO_ok nmMO hown hK.1 hP hS zl_635.1 zl_635.2 rfl 30 (by decide) rfl (hts _ zq_763) rfl rfl rfl dMO_step_138 (fun H locs hP hS => ?_)
  obtain ⟨t401, ez⟩ : ∃ tz : zs_T, tz = zs_i st 635 30 1 := ⟨_, rfl⟩
  have h := h t401 ez
  have hP : zs_P g zs_ly zs_N A t401 H := by rw [ez]; exact hP
  clear ez
  refine lv_goto (tgt := 204) hx hb dMO_step_141 rfl ?_
  exact zw_MO_step_204 hM  l1 l2 l3 l4 l5 t401 h ls H locs (lv_sub hl [0, 1, 2, 3, 4, 5] rfl) hP hS
set_option maxHeartbeats 4000000 in
set_option maxRecDepth 100000 in
theorem zw_MO_step_201 (hM : zs_M p c cMO_step 8 s m meth args "ThriftyStoresModel" (some .int) g)   {K : Int32 → zs_T → Prop}   (l1 : Int32) (l2 : Int32) (l3 : Int32) (l4 : Int32) (l5 : Int32) (s0 : Int32) (s1 : Int32) (s2 : Int32) (st : zs_T) (h : zf_MO_step_201 K l1 l2 l3 l4 l5 s0 s1 s2 st) : zs_Go p l e (zs_rm 2 47) s m args below meth c g A (MQ below (zs_Qi g zs_ly zs_N A K) args s 0 0 A) 8 201 [(0, .ref (g.2.1 635)), (1, .int l1), (2, .int l2), (3, .int l3), (4, .int l4), (5, .int l5)] [.int s0, .int s1, .int s2, .ref (g.2.1 635)] st := by
  obtain ⟨hx, hb, hml, hr, hlk, hts, hown, hK⟩ := id hM
  intro ls H locs hl hP hS
  unfold zf_MO_step_201 at h
  refine zr_callv (va_runV (As := [.int s2, .int s1, .int s0]) (rest := []) ⟨hx, hb, hml, hown, hts⟩ (zc_MO_put l g A  h) (cwV 3 hts (zs_gV zq_981 zq_983 zp_58 zq_8 zq_984) rfl rfl rfl ⟨rfl, by decide, by decide, by decide +kernel⟩ ⟨Nat.le_of_ble_eq_true rfl, Nat.le_of_ble_eq_true rfl⟩) (zs_preV zs_nwk hK hP zl_635.1 zl_635.2 rfl) rfl rfl hl.1 rfl (lv_room (Nat.le_of_ble_eq_true rfl)) dMO_step_201 ⟨Nat.le_refl _, Nat.le_refl _⟩) hS (fun u501 H locs h hP hS => ?_)
  exact zw_MO_step_204 hM  l1 l2 l3 l4 l5 u501 h ls H locs (lv_sub hl [0, 1, 2, 3, 4, 5] rfl) hP hS
set_option maxHeartbeats 4000000 in
set_option maxRecDepth 100000 in
theorem zw_MO_step_85 (hM : zs_M p c cMO_step 8 s m meth args "ThriftyStoresModel" (some .int) g)   {K : Int32 → zs_T → Prop}   (l1 : Int32) (l2 : Int32) (l3 : Int32) (l4 : Int32) (l5 : Int32) (st : zs_T) (h : zf_MO_step_85 K l1 l2 l3 l4 l5 st) : zs_Go p l e (zs_rm 2 47) s m args below meth c g A (MQ below (zs_Qi g zs_ly zs_N A K) args s 0 0 A) 8 85 [(0, .ref (g.2.1 635)), (1, .int l1), (2, .int l2), (3, .int l3), (4, .int l4), (5, .int l5)] [] st := by
  obtain ⟨hx, hb, hml, hr, hlk, hts, hown, hK⟩ := id hM
  intro ls H locs hl hP hS
  unfold zf_MO_step_85 at h
  refine lv_iload hx hb dMO_step_85 (lv_at hl 5 rfl) ?_
  refine lv_iconst (v := 1) hx hb dMO_step_87 (by decide) ?_
  refine lv_icmp_le (tgt := 204) hx hb dMO_step_88 rfl (fun hc => ?_) (fun hc => ?_)
  · have h := h.1 hc
    clear hc
    exact zw_MO_step_204 hM  l1 l2 l3 l4 l5 st h ls H locs (lv_sub hl [0, 1, 2, 3, 4, 5] rfl) hP hS
  · have h := h.2 hc
    clear hc
    refine lv_iload hx hb dMO_step_91 (lv_at hl 5 rfl) ?_
    refine lv_bipush (v := 6) hx hb dMO_step_93 (by decide) ?_
    refine lv_icmp_ge (tgt := 204) hx hb dMO_step_95 rfl (fun hc => ?_) (fun hc => ?_)
    · have h := h.1 hc
      clear hc
      exact zw_MO_step_204 hM  l1 l2 l3 l4 l5 st h ls H locs (lv_sub hl [0, 1, 2, 3, 4, 5] rfl) hP hS
    · have h := h.2 hc
      clear hc
      refine lv_aload_n hx hb dMO_step_98 rfl (lv_at hl 0 rfl) ?_
      refine zr_getr (b := 652) hx hb hts zi_MO hown hK.1 hP zl_635.1 zl_635.2 rfl 21 (by decide) rfl (hts _ zq_754) dMO_step_99 ?_
      refine lv_iload_n hx hb dMO_step_102 rfl (lv_at hl 3 rfl) ?_
      obtain ⟨hi201, h⟩ := h
      refine zr_iald hx hb hK.1 hP zl_652.1 zl_652.2 hi201 dMO_step_103 ?_
      refine lv_istore hx hb dMO_step_104 hl (by decide) rfl (fun ls hl => ?_)
      have hl : lv_has ls 8 [(6, .int (st.1 652 l3.toNatClampNeg)), (0, .ref (g.2.1 635)), (1, .int l1), (2, .int l2), (3, .int l3), (4, .int l4), (5, .int l5)] := hl
      refine lv_aload_n hx hb dMO_step_106 rfl (lv_at hl 1 rfl) ?_
      refine zr_getr (b := 652) hx hb hts zi_MO hown hK.1 hP zl_635.1 zl_635.2 rfl 21 (by decide) rfl (hts _ zq_754) dMO_step_107 ?_
      refine lv_iload hx hb dMO_step_110 (lv_at hl 5 rfl) ?_
      obtain ⟨hi202, h⟩ := h
      refine zr_iald hx hb hK.1 hP zl_652.1 zl_652.2 hi202 dMO_step_112 ?_
      refine lv_istore hx hb dMO_step_113 hl (by decide) rfl (fun ls hl => ?_)
      have hl : lv_has ls 8 [(7, .int (st.1 652 l4.toNatClampNeg)), (6, .int (st.1 652 l3.toNatClampNeg)), (0, .ref (g.2.1 635)), (1, .int l1), (2, .int l2), (3, .int l3), (4, .int l4), (5, .int l5)] := hl
      refine lv_aload_n hx hb dMO_step_115 rfl (lv_at hl 2 rfl) ?_
      refine zr_getr (b := 651) hx hb hts zi_MO hown hK.1 hP zl_635.1 zl_635.2 rfl 20 (by decide) rfl (hts _ zq_753) dMO_step_116 ?_
      refine lv_iload_n hx hb dMO_step_119 rfl (lv_at hl 5 rfl) ?_
      obtain ⟨hi203, h⟩ := h
      refine zr_iald hx hb hK.1 hP zl_651.1 zl_651.2 hi203 dMO_step_120 ?_
      refine lv_iconst (v := (-1)) hx hb dMO_step_121 (by decide) ?_
      refine lv_icmp_ne (tgt := 136) hx hb dMO_step_122 rfl (fun hc => ?_) (fun hc => ?_)
      · have h := h.1 hc
        clear hc
        exact zw_MO_step_136 hM  l1 l2 l3 l4 l5 st h ls H locs (lv_sub hl [2, 3, 4, 5, 6, 7] rfl) hP hS
      · have h := h.2 hc
        clear hc
        refine lv_aload_n hx hb dMO_step_125 rfl (lv_at hl 2 rfl) ?_
        refine zr_getr (b := 651) hx hb hts zi_MO hown hK.1 hP zl_635.1 zl_635.2 rfl 20 (by decide) rfl (hts _ zq_753) dMO_step_126 ?_
        refine lv_iload hx hb dMO_step_129 (lv_at hl 6 rfl) ?_
        obtain ⟨hi204, h⟩ := h
        refine zr_iald hx hb hK.1 hP zl_651.1 zl_651.2 hi204 dMO_step_131 ?_
        refine lv_iconst (v := (-1)) hx hb dMO_step_132 (by decide) ?_
        refine lv_icmp_eq (tgt := 144) hx hb dMO_step_133 rfl (fun hc => ?_) (fun hc => ?_)
        · have h := h.1 hc
          clear hc
          refine lv_aload_n hx hb dMO_step_144 rfl (lv_at hl 2 rfl) ?_
          refine lv_iload_n hx hb dMO_step_145 rfl (lv_at hl 4 rfl) ?_
          refine lv_iconst (v := (-1)) hx hb dMO_step_146 (by decide) ?_
          refine lv_iload hx hb dMO_step_147 (lv_at hl 7 rfl) ?_
          refine lv_iconst (v := 2) hx hb dMO_step_149 (by decide) ?_
          refine lv_icmp_ne (tgt := 161) hx hb dMO_step_150 rfl (fun hc => ?_) (fun hc => ?_)
          · have h := h.1 hc
            clear hc
            refine lv_iload hx hb dMO_step_161 (lv_at hl 7 rfl) ?_
            refine lv_iconst (v := 3) hx hb dMO_step_163 (by decide) ?_
            refine lv_icmp_ne (tgt := 175) hx hb dMO_step_164 rfl (fun hc => ?_) (fun hc => ?_)
            · have h := h.1 hc
              clear hc
              refine lv_iload hx hb dMO_step_175 (lv_at hl 7 rfl) ?_
              refine lv_iconst (v := 4) hx hb dMO_step_177 (by decide) ?_
              refine lv_icmp_ne (tgt := 189) hx hb dMO_step_178 rfl (fun hc => ?_) (fun hc => ?_)
              · have h := h.1 hc
                clear hc
                refine lv_iload hx hb dMO_step_189 (lv_at hl 1 rfl) ?_
                refine lv_iload hx hb dMO_step_191 (lv_at hl 0 rfl) ?_
                refine lv_icmp_ge (tgt := 200) hx hb dMO_step_193 rfl (fun hc => ?_) (fun hc => ?_)
                · have h := h.1 hc
                  clear hc
                  refine lv_iconst (v := 0) hx hb dMO_step_200 (by decide) ?_
                  exact zw_MO_step_201 hM  l1 l2 l3 l4 l5 0 (-1) l2 st h ls H locs (lv_sub hl [2, 3, 4, 5, 6, 7] rfl) hP hS
                · have h := h.2 hc
                  clear hc
                  refine lv_iconst (v := 1) hx hb dMO_step_196 (by decide) ?_
                  refine lv_goto (tgt := 201) hx hb dMO_step_197 rfl ?_
                  exact zw_MO_step_201 hM  l1 l2 l3 l4 l5 1 (-1) l2 st h ls H locs (lv_sub hl [2, 3, 4, 5, 6, 7] rfl) hP hS
              · have h := h.2 hc
                clear hc
                refine lv_iload hx hb dMO_step_181 (lv_at hl 1 rfl) ?_
                refine lv_iload hx hb dMO_step_183 (lv_at hl 0 rfl) ?_
                refine lv_imul hx hb dMO_step_185 ?_
                refine lv_goto (tgt := 201) hx hb dMO_step_186 rfl ?_
                exact zw_MO_step_201 hM  l1 l2 l3 l4 l5 ((st.1 652 l3.toNatClampNeg) * (st.1 652 l4.toNatClampNeg)) (-1) l2 st h ls H locs (lv_sub hl [2, 3, 4, 5, 6, 7] rfl) hP hS
            · have h := h.2 hc
              clear hc
              refine lv_iload hx hb dMO_step_167 (lv_at hl 1 rfl) ?_
              refine lv_iload hx hb dMO_step_169 (lv_at hl 0 rfl) ?_
              refine lv_isub hx hb dMO_step_171 ?_
              refine lv_goto (tgt := 201) hx hb dMO_step_172 rfl ?_
              exact zw_MO_step_201 hM  l1 l2 l3 l4 l5 ((st.1 652 l3.toNatClampNeg) - (st.1 652 l4.toNatClampNeg)) (-1) l2 st h ls H locs (lv_sub hl [2, 3, 4, 5, 6, 7] rfl) hP hS
          · have h := h.2 hc
            clear hc
            refine lv_iload hx hb dMO_step_153 (lv_at hl 1 rfl) ?_
            refine lv_iload hx hb dMO_step_155 (lv_at hl 0 rfl) ?_
            refine lv_iadd hx hb dMO_step_157 ?_
            refine lv_goto (tgt := 201) hx hb dMO_step_158 rfl ?_
            exact zw_MO_step_201 hM  l1 l2 l3 l4 l5 ((st.1 652 l3.toNatClampNeg) + (st.1 652 l4.toNatClampNeg)) (-1) l2 st h ls H locs (lv_sub hl [2, 3, 4, 5, 6, 7] rfl) hP hS
        · have h := h.2 hc
          clear hc
          exact zw_MO_step_136 hM  l1 l2 l3 l4 l5 st h ls H locs (lv_sub hl [2, 3, 4, 5, 6, 7] rfl) hP hS
set_option maxHeartbeats 4000000 in
set_option maxRecDepth 100000 in
theorem zw_MO_step_62 (hM : zs_M p c cMO_step 8 s m meth args "ThriftyStoresModel" (some .int) g)   {K : Int32 → zs_T → Prop}   (l1 : Int32) (l2 : Int32) (l3 : Int32) (l4 : Int32) (l5 : Int32) (st : zs_T) (h : zf_MO_step_62 K l1 l2 l3 l4 l5 st) : zs_Go p l e (zs_rm 2 47) s m args below meth c g A (MQ below (zs_Qi g zs_ly zs_N A K) args s 0 0 A) 8 62 [(0, .ref (g.2.1 635)), (1, .int l1), (2, .int l2), (3, .int l3), (4, .int l4), (5, .int l5)] [] st := by
  obtain ⟨hx, hb, hml, hr, hlk, hts, hown, hK⟩ := id hM
  intro ls H locs hl hP hS
  unfold zf_MO_step_62 at h
  refine lv_iload hx hb dMO_step_62 (lv_at hl 5 rfl) ?_
  refine lv_iconst (v := 1) hx hb dMO_step_64 (by decide) ?_
  refine lv_icmp_ne (tgt := 85) hx hb dMO_step_65 rfl (fun hc => ?_) (fun hc => ?_)
  · have h := h.1 hc
    clear hc
    exact zw_MO_step_85 hM  l1 l2 l3 l4 l5 st h ls H locs (lv_sub hl [0, 1, 2, 3, 4, 5] rfl) hP hS
  · have h := h.2 hc
    clear hc
    refine lv_aload_n hx hb dMO_step_68 rfl (lv_at hl 0 rfl) ?_
    refine lv_iload_n hx hb dMO_step_69 rfl (lv_at hl 2 rfl) ?_
    refine lv_aload_n hx hb dMO_step_70 rfl (lv_at hl 0 rfl) ?_
    refine zr_getr (b := 651) hx hb hts zi_MO hown hK.1 hP zl_635.1 zl_635.2 rfl 20 (by decide) rfl (hts _ zq_753) dMO_step_71 ?_
    refine lv_iload_n hx hb dMO_step_74 rfl (lv_at hl 3 rfl) ?_
    obtain ⟨hi101, h⟩ := h
    refine zr_iald hx hb hK.1 hP zl_651.1 zl_651.2 hi101 dMO_step_75 ?_
    refine lv_aload_n hx hb dMO_step_76 rfl (lv_at hl 0 rfl) ?_
    refine zr_getr (b := 652) hx hb hts zi_MO hown hK.1 hP zl_635.1 zl_635.2 rfl 21 (by decide) rfl (hts _ zq_754) dMO_step_77 ?_
    refine lv_iload_n hx hb dMO_step_80 rfl (lv_at hl 3 rfl) ?_
    obtain ⟨hi102, h⟩ := h
    refine zr_iald hx hb hK.1 hP zl_652.1 zl_652.2 hi102 dMO_step_81 ?_
    refine zr_callv (va_runV (As := [.int l2, .int (st.1 651 l3.toNatClampNeg), .int (st.1 652 l3.toNatClampNeg)]) (rest := []) ⟨hx, hb, hml, hown, hts⟩ (zc_MO_put l g A  h) (cwV 3 hts (zs_gV zq_981 zq_983 zp_58 zq_8 zq_984) rfl rfl rfl ⟨rfl, by decide, by decide, by decide +kernel⟩ ⟨Nat.le_of_ble_eq_true rfl, Nat.le_of_ble_eq_true rfl⟩) (zs_preV zs_nwk hK hP zl_635.1 zl_635.2 rfl) rfl rfl hl.1 rfl (lv_room (Nat.le_of_ble_eq_true rfl)) dMO_step_82 ⟨Nat.le_refl _, Nat.le_refl _⟩) hS (fun u103 H locs h hP hS => ?_)
    exact zw_MO_step_85 hM  l1 l2 l3 l4 l5 u103 h ls H locs (lv_sub hl [0, 1, 2, 3, 4, 5] rfl) hP hS
set_option maxHeartbeats 4000000 in
set_option maxRecDepth 100000 in
theorem zc_MO_step (l : Launch) (g : zs_G) (A : Nat → Prop) {l1 : Int32}  {st : zs_T} {K : Int32 → zs_T → Prop} (h : zf_MO_step l1 st K) : Met l yMO_step (.code yMO_step cMO_step 8 (some .int) :: zs_tb) (zs_rm 2 47) (zs_Pc zs_nl g zs_ly zs_N A [.ref (g.2.1 635), .int l1] st) (zs_Qi g zs_ly zs_N A K) 0 0 A := by
  refine zs_met (cc := cMO_step) (maxL := 8) (ret := (some .int)) (by decide) (Nat.le_of_ble_eq_true rfl) (fun p e s m below meth c hM => ?_)
  have hM : zs_M p c cMO_step 8 s m meth [.ref (g.2.1 635), .int l1].toArray "ThriftyStoresModel" (some .int) g := hM
  obtain ⟨hx, hb, hml, hr, hlk, hts, hown, hK⟩ := id hM
  intro ls H locs hl hP hS
  have hl : lv_has ls 8 [(0, .ref (g.2.1 635)), (1, .int l1)] := hl
  unfold zf_MO_step at h
  refine lv_aload_n hx hb dMO_step_0 rfl (lv_at hl 0 rfl) ?_
  refine zr_getr (b := 637) hx hb hts zi_MO hown hK.1 hP zl_635.1 zl_635.2 rfl 2 (by decide) rfl (hts _ zq_735) dMO_step_1 ?_
  refine lv_aload_n hx hb dMO_step_4 rfl (lv_at hl 0 rfl) ?_
  refine zr_geti hx hb hts zi_MO hown hK.1 hP zl_635.1 zl_635.2 rfl 9 (by decide) rfl (hts _ zq_742) dMO_step_5 ?_
  refine lv_iload_n hx hb dMO_step_8 rfl (lv_at hl 1 rfl) ?_
  refine lv_iadd hx hb dMO_step_9 ?_
  obtain ⟨hi1, h⟩ := h
  refine zr_iald hx hb hK.1 hP zl_637.1 zl_637.2 hi1 dMO_step_10 ?_
  refine lv_istore_n hx hb dMO_step_11 rfl hl (by decide) rfl (fun ls hl => ?_)
  have hl : lv_has ls 8 [(2, .int (st.1 637 ((st.1 635 9) + l1).toNatClampNeg)), (0, .ref (g.2.1 635)), (1, .int l1)] := hl
  refine lv_aload_n hx hb dMO_step_12 rfl (lv_at hl 1 rfl) ?_
  refine zr_getr (b := 638) hx hb hts zi_MO hown hK.1 hP zl_635.1 zl_635.2 rfl 3 (by decide) rfl (hts _ zq_736) dMO_step_13 ?_
  refine lv_aload_n hx hb dMO_step_16 rfl (lv_at hl 1 rfl) ?_
  refine zr_geti hx hb hts zi_MO hown hK.1 hP zl_635.1 zl_635.2 rfl 9 (by decide) rfl (hts _ zq_742) dMO_step_17 ?_
  refine lv_iload_n hx hb dMO_step_20 rfl (lv_at hl 2 rfl) ?_
  refine lv_iadd hx hb dMO_step_21 ?_
  obtain ⟨hi2, h⟩ := h
  refine zr_iald hx hb hK.1 hP zl_638.1 zl_638.2 hi2 dMO_step_22 ?_
  refine lv_istore_n hx hb dMO_step_23 rfl hl (by decide) rfl (fun ls hl => ?_)
  have hl : lv_has ls 8 [(3, .int (st.1 638 ((st.1 635 9) + l1).toNatClampNeg)), (2, .int (st.1 637 ((st.1 635 9) + l1).toNatClampNeg)), (0, .ref (g.2.1 635)), (1, .int l1)] := hl
  refine lv_aload_n hx hb dMO_step_24 rfl (lv_at hl 2 rfl) ?_
  refine zr_getr (b := 639) hx hb hts zi_MO hown hK.1 hP zl_635.1 zl_635.2 rfl 4 (by decide) rfl (hts _ zq_737) dMO_step_25 ?_
  refine lv_aload_n hx hb dMO_step_28 rfl (lv_at hl 2 rfl) ?_
  refine zr_geti hx hb hts zi_MO hown hK.1 hP zl_635.1 zl_635.2 rfl 9 (by decide) rfl (hts _ zq_742) dMO_step_29 ?_
  refine lv_iload_n hx hb dMO_step_32 rfl (lv_at hl 3 rfl) ?_
  refine lv_iadd hx hb dMO_step_33 ?_
  obtain ⟨hi3, h⟩ := h
  refine zr_iald hx hb hK.1 hP zl_639.1 zl_639.2 hi3 dMO_step_34 ?_
  refine lv_istore hx hb dMO_step_35 hl (by decide) rfl (fun ls hl => ?_)
  have hl : lv_has ls 8 [(4, .int (st.1 639 ((st.1 635 9) + l1).toNatClampNeg)), (3, .int (st.1 638 ((st.1 635 9) + l1).toNatClampNeg)), (2, .int (st.1 637 ((st.1 635 9) + l1).toNatClampNeg)), (0, .ref (g.2.1 635)), (1, .int l1)] := hl
  refine lv_aload_n hx hb dMO_step_37 rfl (lv_at hl 3 rfl) ?_
  refine zr_getr (b := 636) hx hb hts zi_MO hown hK.1 hP zl_635.1 zl_635.2 rfl 1 (by decide) rfl (hts _ zq_734) dMO_step_38 ?_
  refine lv_aload_n hx hb dMO_step_41 rfl (lv_at hl 3 rfl) ?_
  refine zr_geti hx hb hts zi_MO hown hK.1 hP zl_635.1 zl_635.2 rfl 9 (by decide) rfl (hts _ zq_742) dMO_step_42 ?_
  refine lv_iload_n hx hb dMO_step_45 rfl (lv_at hl 4 rfl) ?_
  refine lv_iadd hx hb dMO_step_46 ?_
  obtain ⟨hi4, h⟩ := h
  refine zr_iald hx hb hK.1 hP zl_636.1 zl_636.2 hi4 dMO_step_47 ?_
  refine lv_istore hx hb dMO_step_48 hl (by decide) rfl (fun ls hl => ?_)
  have hl : lv_has ls 8 [(5, .int (st.1 636 ((st.1 635 9) + l1).toNatClampNeg)), (4, .int (st.1 639 ((st.1 635 9) + l1).toNatClampNeg)), (3, .int (st.1 638 ((st.1 635 9) + l1).toNatClampNeg)), (2, .int (st.1 637 ((st.1 635 9) + l1).toNatClampNeg)), (0, .ref (g.2.1 635)), (1, .int l1)] := hl
  refine lv_iload hx hb dMO_step_50 (lv_at hl 0 rfl) ?_
  refine lv_if_ne (tgt := 62) hx hb dMO_step_52 rfl (fun hc => ?_) (fun hc => ?_)
  · have h := h.1 hc
    clear hc
    exact zw_MO_step_62 hM  l1 (st.1 637 ((st.1 635 9) + l1).toNatClampNeg) (st.1 638 ((st.1 635 9) + l1).toNatClampNeg) (st.1 639 ((st.1 635 9) + l1).toNatClampNeg) (st.1 636 ((st.1 635 9) + l1).toNatClampNeg) st h ls H locs (lv_sub hl [4, 5, 3, 2, 1, 0] rfl) hP hS
  · have h := h.2 hc
    clear hc
    refine lv_aload_n hx hb dMO_step_55 rfl (lv_at hl 4 rfl) ?_
    refine lv_iload_n hx hb dMO_step_56 rfl (lv_at hl 3 rfl) ?_
    refine lv_iconst (v := (-1)) hx hb dMO_step_57 (by decide) ?_
    refine lv_iload_n hx hb dMO_step_58 rfl (lv_at hl 2 rfl) ?_
    refine zr_callv (va_runV (As := [.int (st.1 637 ((st.1 635 9) + l1).toNatClampNeg), .int (-1), .int (st.1 638 ((st.1 635 9) + l1).toNatClampNeg)]) (rest := []) ⟨hx, hb, hml, hown, hts⟩ (zc_MO_put l g A  h) (cwV 3 hts (zs_gV zq_981 zq_983 zp_58 zq_8 zq_984) rfl rfl rfl ⟨rfl, by decide, by decide, by decide +kernel⟩ ⟨Nat.le_of_ble_eq_true rfl, Nat.le_of_ble_eq_true rfl⟩) (zs_preV zs_nwk hK hP zl_635.1 zl_635.2 rfl) rfl rfl hl.1 rfl (lv_room (Nat.le_of_ble_eq_true rfl)) dMO_step_59 ⟨Nat.le_refl _, Nat.le_refl _⟩) hS (fun u5 H locs h hP hS => ?_)
    exact zw_MO_step_62 hM  l1 (st.1 637 ((st.1 635 9) + l1).toNatClampNeg) (st.1 638 ((st.1 635 9) + l1).toNatClampNeg) (st.1 639 ((st.1 635 9) + l1).toNatClampNeg) (st.1 636 ((st.1 635 9) + l1).toNatClampNeg) u5 h ls H locs (lv_sub hl [4, 5, 3, 2, 1, 0] rfl) hP hS
set_option maxHeartbeats 4000000 in
set_option maxRecDepth 100000 in
theorem zw_MO_run_103_s (hM : zs_M p c cMO_run 4 s m meth args "ThriftyStoresModel" (some .int) g)   {K : Int32 → zs_T → Prop}  {B103 : Int32 → Int32 → zs_T → Prop}  (hB103 : ∀ (l2 : Int32) (l3 : Int32) (st : zs_T), B103 l2 l3 st → zs_Go p l e (zs_rm 3 74) s m args below meth c g A (MQ below (zs_Qi g zs_ly zs_N A K) args s 0 0 A) 4 103 [(0, .ref (g.2.1 635)), (2, .int l2), (3, .int l3)] [] st) (l2 : Int32) (l3 : Int32) (st : zs_T) (h : zf_MO_run_103_s K B103 l2 l3 st) : zs_Go p l e (zs_rm 3 74) s m args below meth c g A (MQ below (zs_Qi g zs_ly zs_N A K) args s 0 0 A) 4 103 [(0, .ref (g.2.1 635)), (2, .int l2), (3, .int l3)] [] st := by
  obtain ⟨hx, hb, hml, hr, hlk, hts, hown, hK⟩ := id hM
  intro ls H locs hl hP hS
  unfold zf_MO_run_103_s at h
  refine lv_aload_n hx hb dMO_run_103 rfl (lv_at hl 0 rfl) ?_
  refine zr_geti hx hb hts zi_MO hown hK.1 hP zl_635.1 zl_635.2 rfl 30 (by decide) rfl (hts _ zq_763) dMO_run_104 ?_
  refine lv_iconst (v := (-1)) hx hb dMO_run_107 (by decide) ?_
  refine lv_icmp_ne (tgt := 162) hx hb dMO_run_108 rfl (fun hc => ?_) (fun hc => ?_)
  · have h := h.1 hc
    clear hc
    refine lv_aload_n hx hb dMO_run_162 rfl (lv_at hl 0 rfl) ?_
    refine zr_geti hx hb hts zi_MO hown hK.1 hP zl_635.1 zl_635.2 rfl 30 (by decide) rfl (hts _ zq_763) dMO_run_163 ?_
    exact zr_iret hx hb hr hlk hP hS h dMO_run_166
  · have h := h.2 hc
    clear hc
    refine lv_iload_n hx hb dMO_run_111 rfl (lv_at hl 2 rfl) ?_
    refine lv_aload_n hx hb dMO_run_112 rfl (lv_at hl 0 rfl) ?_
    refine zr_geti hx hb hts zi_MO hown hK.1 hP zl_635.1 zl_635.2 rfl 5 (by decide) rfl (hts _ zq_738) dMO_run_113 ?_
    refine lv_icmp_lt (tgt := 127) hx hb dMO_run_116 rfl (fun hc => ?_) (fun hc => ?_)
    · have h := h.1 hc
      clear hc
      refine lv_aload_n hx hb dMO_run_127 rfl (lv_at hl 0 rfl) ?_
      refine zr_geti hx hb hts zi_MO hown hK.1 hP zl_635.1 zl_635.2 rfl 29 (by decide) rfl (hts _ zq_762) dMO_run_128 ?_
      refine lv_iload_n hx hb dMO_run_131 rfl (lv_at hl 1 rfl) ?_
      refine lv_icmp_ne (tgt := 143) hx hb dMO_run_132 rfl (fun hc => ?_) (fun hc => ?_)
      · have h := h.1 hc
        clear hc
        refine lv_aload_n hx hb dMO_run_143 rfl (lv_at hl 0 rfl) ?_
        refine lv_dup hx hb dMO_run_144 rfl ?_
        refine zr_geti hx hb hts zi_MO hown hK.1 hP zl_635.1 zl_635.2 rfl 29 (by decide) rfl (hts _ zq_762) dMO_run_145 ?_
        refine lv_iconst (v := 1) hx hb dMO_run_148 (by decide) ?_
        refine lv_iadd hx hb dMO_run_149 ?_
        refine zr_put hx hb hts zi_MO tyMO tyMO_ok nmMO hown hK.1 hP hS zl_635.1 zl_635.2 rfl 29 (by decide) rfl (hts _ zq_762) rfl rfl rfl dMO_run_150 (fun H locs hP hS => ?_)
        obtain ⟨t601, ez⟩ : ∃ tz : zs_T, tz = zs_i st 635 29 ((st.1 635 29) + 1) := ⟨_, rfl⟩
        have h := h t601 ez
        have hP : zs_P g zs_ly zs_N A t601 H := by rw [ez]; exact hP
        clear ez
        refine lv_aload_n hx hb dMO_run_153 rfl (lv_at hl 0 rfl) ?_
        refine lv_iload_n hx hb dMO_run_154 rfl (lv_at hl 2 rfl) ?_
        refine zr_calli (va_runV (As := [.int l3]) (rest := []) ⟨hx, hb, hml, hown, hts⟩ (zc_MO_step l g A  h) (cwV 1 hts (zs_gV zq_985 zq_987 zp_59 zq_8 zq_988) rfl rfl rfl ⟨rfl, by decide, by decide, by decide +kernel⟩ ⟨Nat.le_of_ble_eq_true rfl, Nat.le_of_ble_eq_true rfl⟩) (zs_preV zs_nwk hK hP zl_635.1 zl_635.2 rfl) rfl rfl hl.1 rfl (lv_room (Nat.le_of_ble_eq_true rfl)) dMO_run_155 ⟨Nat.le_refl _, Nat.le_refl _⟩) hS (fun r603 u602 H locs h hP hS => ?_)
        refine lv_istore_n hx hb dMO_run_158 rfl hl (by decide) rfl (fun ls hl => ?_)
        have hl : lv_has ls 4 [(3, .int r603), (0, .ref (g.2.1 635)), (2, .int l2)] := hl
        refine lv_goto (tgt := 103) hx hb dMO_run_159 rfl ?_
        exact hB103 l2 r603 u602 h ls H locs (lv_sub hl [1, 2, 0] rfl) hP hS
      · have h := h.2 hc
        clear hc
        refine lv_aload_n hx hb dMO_run_135 rfl (lv_at hl 0 rfl) ?_
        refine lv_iconst (v := 2) hx hb dMO_run_136 (by decide) ?_
        refine zr_put hx hb hts zi_MO tyMO tyMO_ok nmMO hown hK.1 hP hS zl_635.1 zl_635.2 rfl 30 (by decide) rfl (hts _ zq_763) rfl rfl rfl dMO_run_137 (fun H locs hP hS => ?_)
        obtain ⟨t604, ez⟩ : ∃ tz : zs_T, tz = zs_i st 635 30 2 := ⟨_, rfl⟩
        have h := h t604 ez
        have hP : zs_P g zs_ly zs_N A t604 H := by rw [ez]; exact hP
        clear ez
        refine lv_goto (tgt := 103) hx hb dMO_run_140 rfl ?_
        exact hB103 l2 l3 t604 h ls H locs (lv_sub hl [0, 1, 2] rfl) hP hS
    · have h := h.2 hc
      clear hc
      refine lv_aload_n hx hb dMO_run_119 rfl (lv_at hl 0 rfl) ?_
      refine lv_iconst (v := 0) hx hb dMO_run_120 (by decide) ?_
      refine zr_put hx hb hts zi_MO tyMO tyMO_ok nmMO hown hK.1 hP hS zl_635.1 zl_635.2 rfl 30 (by decide) rfl (hts _ zq_763) rfl rfl rfl dMO_run_121 (fun H locs hP hS => ?_)
      obtain ⟨t605, ez⟩ : ∃ tz : zs_T, tz = zs_i st 635 30 0 := ⟨_, rfl⟩
      have h := h t605 ez
      have hP : zs_P g zs_ly zs_N A t605 H := by rw [ez]; exact hP
      clear ez
      refine lv_goto (tgt := 103) hx hb dMO_run_124 rfl ?_
      exact hB103 l2 l3 t605 h ls H locs (lv_sub hl [0, 1, 2] rfl) hP hS
theorem zw_MO_run_103 (hM : zs_M p c cMO_run 4 s m meth args "ThriftyStoresModel" (some .int) g)   {K : Int32 → zs_T → Prop}   : ∀ (n : Nat) (l2 : Int32) (l3 : Int32) (st : zs_T), zf_MO_run_103 K n l2 l3 st → zs_Go p l e (zs_rm 3 74) s m args below meth c g A (MQ below (zs_Qi g zs_ly zs_N A K) args s 0 0 A) 4 103 [(0, .ref (g.2.1 635)), (2, .int l2), (3, .int l3)] [] st := by
  intro n
  induction n with
  | zero => intro l2 l3 st h; exact False.elim h
  | succ n ih => intro l2 l3 st h; exact zw_MO_run_103_s hM  ih l2 l3 st h
set_option maxHeartbeats 4000000 in
set_option maxRecDepth 100000 in
theorem zw_MO_run_62_s (hM : zs_M p c cMO_run 4 s m meth args "ThriftyStoresModel" (some .int) g)   {K : Int32 → zs_T → Prop}  {B62 : Int32 → Int32 → zs_T → Prop}  (hB62 : ∀ (l2 : Int32) (l3 : Int32) (st : zs_T), B62 l2 l3 st → zs_Go p l e (zs_rm 3 74) s m args below meth c g A (MQ below (zs_Qi g zs_ly zs_N A K) args s 0 0 A) 4 62 [(0, .ref (g.2.1 635)), (2, .int l2), (3, .int l3)] [] st) (l2 : Int32) (l3 : Int32) (st : zs_T) (h : zf_MO_run_62_s K B62 l2 l3 st) : zs_Go p l e (zs_rm 3 74) s m args below meth c g A (MQ below (zs_Qi g zs_ly zs_N A K) args s 0 0 A) 4 62 [(0, .ref (g.2.1 635)), (2, .int l2), (3, .int l3)] [] st := by
  obtain ⟨hx, hb, hml, hr, hlk, hts, hown, hK⟩ := id hM
  intro ls H locs hl hP hS
  unfold zf_MO_run_62_s at h
  refine lv_iload_n hx hb dMO_run_62 rfl (lv_at hl 2 rfl) ?_
  refine lv_bipush (v := 16) hx hb dMO_run_63 (by decide) ?_
  refine lv_icmp_ge (tgt := 81) hx hb dMO_run_65 rfl (fun hc => ?_) (fun hc => ?_)
  · have h := h.1 hc
    clear hc
    refine lv_aload_n hx hb dMO_run_81 rfl (lv_at hl 0 rfl) ?_
    refine lv_iconst (v := 0) hx hb dMO_run_82 (by decide) ?_
    refine zr_put hx hb hts zi_MO tyMO tyMO_ok nmMO hown hK.1 hP hS zl_635.1 zl_635.2 rfl 26 (by decide) rfl (hts _ zq_759) rfl rfl rfl dMO_run_83 (fun H locs hP hS => ?_)
    obtain ⟨t501, ez⟩ : ∃ tz : zs_T, tz = zs_i st 635 26 0 := ⟨_, rfl⟩
    have h := h t501 ez
    have hP : zs_P g zs_ly zs_N A t501 H := by rw [ez]; exact hP
    clear ez
    refine lv_aload_n hx hb dMO_run_86 rfl (lv_at hl 0 rfl) ?_
    refine lv_iconst (v := 0) hx hb dMO_run_87 (by decide) ?_
    refine zr_put hx hb hts zi_MO tyMO tyMO_ok nmMO hown hK.1 hP hS zl_635.1 zl_635.2 rfl 28 (by decide) rfl (hts _ zq_761) rfl rfl rfl dMO_run_88 (fun H locs hP hS => ?_)
    obtain ⟨t502, ez⟩ : ∃ tz : zs_T, tz = zs_i t501 635 28 0 := ⟨_, rfl⟩
    have h := h t502 ez
    have hP : zs_P g zs_ly zs_N A t502 H := by rw [ez]; exact hP
    clear ez
    refine lv_aload_n hx hb dMO_run_91 rfl (lv_at hl 0 rfl) ?_
    refine lv_iconst (v := 0) hx hb dMO_run_92 (by decide) ?_
    refine zr_put hx hb hts zi_MO tyMO tyMO_ok nmMO hown hK.1 hP hS zl_635.1 zl_635.2 rfl 29 (by decide) rfl (hts _ zq_762) rfl rfl rfl dMO_run_93 (fun H locs hP hS => ?_)
    obtain ⟨t503, ez⟩ : ∃ tz : zs_T, tz = zs_i t502 635 29 0 := ⟨_, rfl⟩
    have h := h t503 ez
    have hP : zs_P g zs_ly zs_N A t503 H := by rw [ez]; exact hP
    clear ez
    refine lv_aload_n hx hb dMO_run_96 rfl (lv_at hl 0 rfl) ?_
    refine lv_iconst (v := (-1)) hx hb dMO_run_97 (by decide) ?_
    refine zr_put hx hb hts zi_MO tyMO tyMO_ok nmMO hown hK.1 hP hS zl_635.1 zl_635.2 rfl 30 (by decide) rfl (hts _ zq_763) rfl rfl rfl dMO_run_98 (fun H locs hP hS => ?_)
    obtain ⟨t504, ez⟩ : ∃ tz : zs_T, tz = zs_i t503 635 30 (-1) := ⟨_, rfl⟩
    have h := h t504 ez
    have hP : zs_P g zs_ly zs_N A t504 H := by rw [ez]; exact hP
    clear ez
    refine lv_iconst (v := 0) hx hb dMO_run_101 (by decide) ?_
    refine lv_istore_n hx hb dMO_run_102 rfl hl (by decide) rfl (fun ls hl => ?_)
    have hl : lv_has ls 4 [(3, .int 0), (0, .ref (g.2.1 635)), (2, .int l2)] := hl
    obtain ⟨n, h⟩ := h
    exact zw_MO_run_103 hM  n l2 0 t504 h ls H locs (lv_sub hl [1, 2, 0] rfl) hP hS
  · have h := h.2 hc
    clear hc
    refine lv_aload_n hx hb dMO_run_68 rfl (lv_at hl 0 rfl) ?_
    refine lv_iload_n hx hb dMO_run_69 rfl (lv_at hl 2 rfl) ?_
    refine lv_iconst (v := (-1)) hx hb dMO_run_70 (by decide) ?_
    refine lv_iconst (v := 0) hx hb dMO_run_71 (by decide) ?_
    refine zr_callv (va_runV (As := [.int l3, .int (-1), .int 0]) (rest := []) ⟨hx, hb, hml, hown, hts⟩ (zc_MO_put l g A  h) (cwV 3 hts (zs_gV zq_981 zq_983 zp_58 zq_8 zq_984) rfl rfl rfl ⟨rfl, by decide, by decide, by decide +kernel⟩ ⟨Nat.le_of_ble_eq_true rfl, Nat.le_of_ble_eq_true rfl⟩) (zs_preV zs_nwk hK hP zl_635.1 zl_635.2 rfl) rfl rfl hl.1 rfl (lv_room (Nat.le_of_ble_eq_true rfl)) dMO_run_72 ⟨Nat.le_refl _, Nat.le_refl _⟩) hS (fun u505 H locs h hP hS => ?_)
    refine lv_iinc (k := 2) (v := l3 + 1) hx hb dMO_run_75 hl rfl (by rw [show Int32.ofInt (1) = 1 from by decide]) (by decide) rfl (fun ls hl => ?_)
    have hl : lv_has ls 4 [(3, .int (l3 + 1)), (0, .ref (g.2.1 635)), (2, .int l2)] := hl
    refine lv_goto (tgt := 62) hx hb dMO_run_78 rfl ?_
    exact hB62 l2 (l3 + 1) u505 h ls H locs (lv_sub hl [1, 2, 0] rfl) hP hS
theorem zw_MO_run_62 (hM : zs_M p c cMO_run 4 s m meth args "ThriftyStoresModel" (some .int) g)   {K : Int32 → zs_T → Prop}   : ∀ (n : Nat) (l2 : Int32) (l3 : Int32) (st : zs_T), zf_MO_run_62 K n l2 l3 st → zs_Go p l e (zs_rm 3 74) s m args below meth c g A (MQ below (zs_Qi g zs_ly zs_N A K) args s 0 0 A) 4 62 [(0, .ref (g.2.1 635)), (2, .int l2), (3, .int l3)] [] st := by
  intro n
  induction n with
  | zero => intro l2 l3 st h; exact False.elim h
  | succ n ih => intro l2 l3 st h; exact zw_MO_run_62_s hM  ih l2 l3 st h
set_option maxHeartbeats 4000000 in
set_option maxRecDepth 100000 in
theorem zw_MO_run_57 (hM : zs_M p c cMO_run 4 s m meth args "ThriftyStoresModel" (some .int) g)   {K : Int32 → zs_T → Prop}   (l2 : Int32) (s0 : Int32) (st : zs_T) (h : zf_MO_run_57 K l2 s0 st) : zs_Go p l e (zs_rm 3 74) s m args below meth c g A (MQ below (zs_Qi g zs_ly zs_N A K) args s 0 0 A) 4 57 [(0, .ref (g.2.1 635)), (2, .int l2)] [.int s0, .ref (g.2.1 635)] st := by
  obtain ⟨hx, hb, hml, hr, hlk, hts, hown, hK⟩ := id hM
  intro ls H locs hl hP hS
  unfold zf_MO_run_57 at h
  refine zr_put hx hb hts zi_MO tyMO tyMO_ok nmMO hown hK.1 hP hS zl_635.1 zl_635.2 rfl 9 (by decide) rfl (hts _ zq_742) rfl rfl rfl dMO_run_57 (fun H locs hP hS => ?_)
  obtain ⟨t401, ez⟩ : ∃ tz : zs_T, tz = zs_i st 635 9 s0 := ⟨_, rfl⟩
  have h := h t401 ez
  have hP : zs_P g zs_ly zs_N A t401 H := by rw [ez]; exact hP
  clear ez
  refine lv_iconst (v := 0) hx hb dMO_run_60 (by decide) ?_
  refine lv_istore_n hx hb dMO_run_61 rfl hl (by decide) rfl (fun ls hl => ?_)
  have hl : lv_has ls 4 [(3, .int 0), (0, .ref (g.2.1 635)), (2, .int l2)] := hl
  obtain ⟨n, h⟩ := h
  exact zw_MO_run_62 hM  n l2 0 t401 h ls H locs (lv_sub hl [1, 2, 0] rfl) hP hS
set_option maxHeartbeats 4000000 in
set_option maxRecDepth 100000 in
theorem zw_MO_run_33 (hM : zs_M p c cMO_run 4 s m meth args "ThriftyStoresModel" (some .int) g)   {K : Int32 → zs_T → Prop}   (l1 : Int32) (l2 : Int32) (s0 : Int32) (st : zs_T) (h : zf_MO_run_33 K l1 l2 s0 st) : zs_Go p l e (zs_rm 3 74) s m args below meth c g A (MQ below (zs_Qi g zs_ly zs_N A K) args s 0 0 A) 4 33 [(0, .ref (g.2.1 635)), (1, .int l1), (2, .int l2)] [.int s0, .ref (g.2.1 635)] st := by
  obtain ⟨hx, hb, hml, hr, hlk, hts, hown, hK⟩ := id hM
  intro ls H locs hl hP hS
  unfold zf_MO_run_33 at h
  refine zr_put hx hb hts zi_MO tyMO tyMO_ok nmMO hown hK.1 hP hS zl_635.1 zl_635.2 rfl 0 (by decide) rfl (hts _ zq_733) rfl rfl rfl dMO_run_33 (fun H locs hP hS => ?_)
  obtain ⟨t301, ez⟩ : ∃ tz : zs_T, tz = zs_i st 635 0 s0 := ⟨_, rfl⟩
  have h := h t301 ez
  have hP : zs_P g zs_ly zs_N A t301 H := by rw [ez]; exact hP
  clear ez
  refine lv_aload_n hx hb dMO_run_36 rfl (lv_at hl 0 rfl) ?_
  refine zr_geti hx hb hts zi_MO hown hK.1 hP zl_635.1 zl_635.2 rfl 0 (by decide) rfl (hts _ zq_733) dMO_run_37 ?_
  refine lv_if_le (tgt := 45) hx hb dMO_run_40 rfl (fun hc => ?_) (fun hc => ?_)
  · have h := h.1 hc
    clear hc
    refine lv_aload_n hx hb dMO_run_45 rfl (lv_at hl 0 rfl) ?_
    refine lv_iload_n hx hb dMO_run_46 rfl (lv_at hl 1 rfl) ?_
    refine lv_if_eq (tgt := 54) hx hb dMO_run_47 rfl (fun hc => ?_) (fun hc => ?_)
    · have h := h.1 hc
      clear hc
      refine lv_sipush (v := 200) hx hb dMO_run_54 (by decide) ?_
      exact zw_MO_run_57 hM  l2 200 t301 h ls H locs (lv_sub hl [0, 2] rfl) hP hS
    · have h := h.2 hc
      clear hc
      refine lv_iconst (v := 0) hx hb dMO_run_50 (by decide) ?_
      refine lv_goto (tgt := 57) hx hb dMO_run_51 rfl ?_
      exact zw_MO_run_57 hM  l2 0 t301 h ls H locs (lv_sub hl [0, 2] rfl) hP hS
  · have h := h.2 hc
    clear hc
    refine lv_iconst (v := 0) hx hb dMO_run_43 (by decide) ?_
    exact zr_iret hx hb hr hlk hP hS h dMO_run_44
set_option maxHeartbeats 4000000 in
set_option maxRecDepth 100000 in
theorem zw_MO_run_13 (hM : zs_M p c cMO_run 4 s m meth args "ThriftyStoresModel" (some .int) g)   {K : Int32 → zs_T → Prop}   (l1 : Int32) (l2 : Int32) (st : zs_T) (h : zf_MO_run_13 K l1 l2 st) : zs_Go p l e (zs_rm 3 74) s m args below meth c g A (MQ below (zs_Qi g zs_ly zs_N A K) args s 0 0 A) 4 13 [(0, .ref (g.2.1 635)), (1, .int l1), (2, .int l2)] [.ref (g.2.1 635)] st := by
  obtain ⟨hx, hb, hml, hr, hlk, hts, hown, hK⟩ := id hM
  intro ls H locs hl hP hS
  unfold zf_MO_run_13 at h
  refine lv_iconst (v := 1) hx hb dMO_run_13 (by decide) ?_
  refine lv_goto (tgt := 33) hx hb dMO_run_14 rfl ?_
  exact zw_MO_run_33 hM  l1 l2 1 st h ls H locs (lv_sub hl [0, 1, 2] rfl) hP hS
set_option maxHeartbeats 4000000 in
set_option maxRecDepth 100000 in
theorem zw_MO_run_32 (hM : zs_M p c cMO_run 4 s m meth args "ThriftyStoresModel" (some .int) g)   {K : Int32 → zs_T → Prop}   (l1 : Int32) (l2 : Int32) (st : zs_T) (h : zf_MO_run_32 K l1 l2 st) : zs_Go p l e (zs_rm 3 74) s m args below meth c g A (MQ below (zs_Qi g zs_ly zs_N A K) args s 0 0 A) 4 32 [(0, .ref (g.2.1 635)), (1, .int l1), (2, .int l2)] [.ref (g.2.1 635)] st := by
  obtain ⟨hx, hb, hml, hr, hlk, hts, hown, hK⟩ := id hM
  intro ls H locs hl hP hS
  unfold zf_MO_run_32 at h
  refine lv_iconst (v := 0) hx hb dMO_run_32 (by decide) ?_
  exact zw_MO_run_33 hM  l1 l2 0 st h ls H locs (lv_sub hl [0, 1, 2] rfl) hP hS
set_option maxHeartbeats 4000000 in
set_option maxRecDepth 100000 in
theorem zc_MO_run (l : Launch) (g : zs_G) (A : Nat → Prop) {l1 : Int32} {l2 : Int32}  {st : zs_T} {K : Int32 → zs_T → Prop} (h : zf_MO_run l1 l2 st K) : Met l yMO_run (.code yMO_run cMO_run 4 (some .int) :: zs_tb) (zs_rm 3 74) (zs_Pc zs_nl g zs_ly zs_N A [.ref (g.2.1 635), .int l1, .int l2] st) (zs_Qi g zs_ly zs_N A K) 0 0 A := by
  refine zs_met (cc := cMO_run) (maxL := 4) (ret := (some .int)) (by decide) (Nat.le_of_ble_eq_true rfl) (fun p e s m below meth c hM => ?_)
  have hM : zs_M p c cMO_run 4 s m meth [.ref (g.2.1 635), .int l1, .int l2].toArray "ThriftyStoresModel" (some .int) g := hM
  obtain ⟨hx, hb, hml, hr, hlk, hts, hown, hK⟩ := id hM
  intro ls H locs hl hP hS
  have hl : lv_has ls 4 [(0, .ref (g.2.1 635)), (1, .int l1), (2, .int l2)] := hl
  unfold zf_MO_run at h
  refine lv_aload_n hx hb dMO_run_0 rfl (lv_at hl 0 rfl) ?_
  refine lv_iload_n hx hb dMO_run_1 rfl (lv_at hl 2 rfl) ?_
  refine lv_iconst (v := 1) hx hb dMO_run_2 (by decide) ?_
  refine lv_icmp_lt (tgt := 13) hx hb dMO_run_3 rfl (fun hc => ?_) (fun hc => ?_)
  · have h := h.1 hc
    clear hc
    exact zw_MO_run_13 hM  l1 l2 st h ls H locs (lv_sub hl [0, 1, 2] rfl) hP hS
  · have h := h.2 hc
    clear hc
    refine lv_iload_n hx hb dMO_run_6 rfl (lv_at hl 2 rfl) ?_
    refine lv_sipush (v := 5000) hx hb dMO_run_7 (by decide) ?_
    refine lv_icmp_le (tgt := 17) hx hb dMO_run_10 rfl (fun hc => ?_) (fun hc => ?_)
    · have h := h.1 hc
      clear hc
      refine lv_iload_n hx hb dMO_run_17 rfl (lv_at hl 1 rfl) ?_
      refine lv_if_ne (tgt := 32) hx hb dMO_run_18 rfl (fun hc => ?_) (fun hc => ?_)
      · have h := h.1 hc
        clear hc
        exact zw_MO_run_32 hM  l1 l2 st h ls H locs (lv_sub hl [0, 1, 2] rfl) hP hS
      · have h := h.2 hc
        clear hc
        refine lv_aload_n hx hb dMO_run_21 rfl (lv_at hl 0 rfl) ?_
        refine zr_geti hx hb hts zi_MO hown hK.1 hP zl_635.1 zl_635.2 rfl 6 (by decide) rfl (hts _ zq_739) dMO_run_22 ?_
        refine lv_if_ne (tgt := 32) hx hb dMO_run_25 rfl (fun hc => ?_) (fun hc => ?_)
        · have h := h.1 hc
          clear hc
          exact zw_MO_run_32 hM  l1 l2 st h ls H locs (lv_sub hl [0, 1, 2] rfl) hP hS
        · have h := h.2 hc
          clear hc
          refine lv_iconst (v := 2) hx hb dMO_run_28 (by decide) ?_
          refine lv_goto (tgt := 33) hx hb dMO_run_29 rfl ?_
          exact zw_MO_run_33 hM  l1 l2 2 st h ls H locs (lv_sub hl [0, 1, 2] rfl) hP hS
    · have h := h.2 hc
      clear hc
      exact zw_MO_run_13 hM  l1 l2 st h ls H locs (lv_sub hl [0, 1, 2] rfl) hP hS
end ZW
