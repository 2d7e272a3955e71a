section ZW
variable {p : Program} {l : Launch} {e : Env} {s : State} {m : MethodId} {args : Array Value} {below : List Frame} {meth : Method} {c : Code} {g : zs_G} {A : Nat → Prop}
set_option maxHeartbeats 4000000 in
set_option maxRecDepth 100000 in
theorem zw_FA_begin_2_s (hM : zs_M p c cFA_begin 2 s m meth args "ThriftyStores$Facts" none g) {d0 : Nat} (hd0 : zs_Fa d0) {K : zs_T → Prop}  {B2 : Int32 → zs_T → Prop}  (hB2 : ∀ (l1 : Int32) (st : zs_T), B2 l1 st → zs_Go p l e (zs_rm 0 0) s m args below meth c g A (MQ below (zs_Qv g zs_ly zs_N A K) args s 0 0 A) 2 2 [(0, .ref (g.2.1 d0)), (1, .int l1)] [] st) (l1 : Int32) (st : zs_T) (h : zf_FA_begin_2_s d0 K B2 l1 st) : zs_Go p l e (zs_rm 0 0) s m args below meth c g A (MQ below (zs_Qv g zs_ly zs_N A K) args s 0 0 A) 2 2 [(0, .ref (g.2.1 d0)), (1, .int l1)] [] st := by
  obtain ⟨hx, hb, hml, hr, hlk, hts, hown, hK⟩ := id hM
  intro ls H locs hl hP hS
  unfold zf_FA_begin_2_s at h
  refine lv_iload_n hx hb dFA_begin_2 rfl (lv_at hl 1 rfl) ?_
  refine lv_bipush (v := 16) hx hb dFA_begin_3 (by decide) ?_
  refine lv_icmp_ge (tgt := 35) hx hb dFA_begin_5 rfl (fun hc => ?_) (fun hc => ?_)
  · have h := h.1 hc
    clear hc
    refine lv_aload_n hx hb dFA_begin_35 rfl (lv_at hl 0 rfl) ?_
    refine lv_iconst (v := 0) hx hb dFA_begin_36 (by decide) ?_
    refine zr_put hx hb hts zi_FA tyFA tyFA_ok nmFA hown hK.1 hP hS hd0.1.1 hd0.1.2 rfl 2 (by decide) rfl (hts _ zq_120) rfl rfl rfl dFA_begin_37 (fun H locs hP hS => ?_)
    obtain ⟨t101, e9⟩ : ∃ t9 : zs_T, t9 = zs_i st d0 2 0 := ⟨_, rfl⟩
    have h := h t101 e9
    have hP : zs_P g zs_ly zs_N A t101 H := by rw [e9]; exact hP
    clear e9
    exact zr_vret hx hb hr hlk hP hS h dFA_begin_40
  · have h := h.2 hc
    clear hc
    refine lv_aload_n hx hb dFA_begin_8 rfl (lv_at hl 0 rfl) ?_
    refine zr_getr (b := d0 + 1) hx hb hts zi_FA hown hK.1 hP hd0.1.1 hd0.1.2 rfl 0 (by decide) rfl (hts _ zq_114) dFA_begin_9 ?_
    refine lv_iload_n hx hb dFA_begin_12 rfl (lv_at hl 1 rfl) ?_
    refine lv_ldc hx hb hown (hts _ zq_448) dFA_begin_13 ?_
    refine lv_iconst (v := 1) hx hb dFA_begin_15 (by decide) ?_
    refine lv_iload_n hx hb dFA_begin_16 rfl (lv_at hl 1 rfl) ?_
    refine lv_ishl hx hb dFA_begin_17 ?_
    refine lv_iconst (v := (-1)) hx hb dFA_begin_18 (by decide) ?_
    refine lv_ixor hx hb dFA_begin_19 ?_
    refine lv_iand hx hb dFA_begin_20 ?_
    obtain ⟨hi102, h⟩ := h
    refine zr_iast hx hb hK.1 hP hS hd0.2.1.1 hd0.2.1.2 hi102 dFA_begin_21 (fun H locs hP hS => ?_)
    obtain ⟨t103, e9⟩ : ∃ t9 : zs_T, t9 = zs_i st (d0 + 1) l1.toNatClampNeg (65535 &&& (((1 : Int32) <<< (l1 &&& 31)) ^^^ (-1))) := ⟨_, rfl⟩
    have h := h t103 e9
    have hP : zs_P g zs_ly zs_N A t103 H := by rw [e9]; exact hP
    clear e9
    refine lv_aload_n hx hb dFA_begin_22 rfl (lv_at hl 0 rfl) ?_
    refine zr_getr (b := d0 + 2) hx hb hts zi_FA hown hK.1 hP hd0.1.1 hd0.1.2 rfl 1 (by decide) rfl (hts _ zq_117) dFA_begin_23 ?_
    refine lv_iload_n hx hb dFA_begin_26 rfl (lv_at hl 1 rfl) ?_
    refine lv_iconst (v := 0) hx hb dFA_begin_27 (by decide) ?_
    obtain ⟨hi104, h⟩ := h
    refine zr_iast hx hb hK.1 hP hS hd0.2.2.1 hd0.2.2.2 hi104 dFA_begin_28 (fun H locs hP hS => ?_)
    obtain ⟨t105, e9⟩ : ∃ t9 : zs_T, t9 = zs_i t103 (d0 + 2) l1.toNatClampNeg 0 := ⟨_, rfl⟩
    have h := h t105 e9
    have hP : zs_P g zs_ly zs_N A t105 H := by rw [e9]; exact hP
    clear e9
    refine lv_iinc (k := 1) (v := l1 + 1) hx hb dFA_begin_29 hl rfl (by rw [show Int32.ofInt (1) = 1 from by decide]) (by decide) rfl (fun ls hl => ?_)
    have hl : lv_has ls 2 [(1, .int (l1 + 1)), (0, .ref (g.2.1 d0))] := hl
    refine lv_goto (tgt := 2) hx hb dFA_begin_32 rfl ?_
    exact hB2 (l1 + 1) t105 h ls H locs (lv_sub hl [1, 0] rfl) hP hS
theorem zw_FA_begin_2 (hM : zs_M p c cFA_begin 2 s m meth args "ThriftyStores$Facts" none g) {d0 : Nat} (hd0 : zs_Fa d0) {K : zs_T → Prop}   : ∀ (n : Nat) (l1 : Int32) (st : zs_T), zf_FA_begin_2 d0 K n l1 st → zs_Go p l e (zs_rm 0 0) s m args below meth c g A (MQ below (zs_Qv g zs_ly zs_N A K) args s 0 0 A) 2 2 [(0, .ref (g.2.1 d0)), (1, .int l1)] [] st := by
  intro n
  induction n with
  | zero => intro l1 st h; exact False.elim h
  | succ n ih => intro l1 st h; exact zw_FA_begin_2_s hM hd0 ih l1 st h
set_option maxHeartbeats 4000000 in
set_option maxRecDepth 100000 in
theorem zc_FA_begin (l : Launch) (g : zs_G) (A : Nat → Prop) {d0 : Nat} (hd0 : zs_Fa d0) {st : zs_T} {K : zs_T → Prop} (h : zf_FA_begin d0 st K) : Met l yFA_begin (.code yFA_begin cFA_begin 2 none :: zs_tb) (zs_rm 0 0) (zs_Pc zs_nl g zs_ly zs_N A [.ref (g.2.1 d0)] st) (zs_Qv g zs_ly zs_N A K) 0 0 A := by
  refine zs_met (cc := cFA_begin) (maxL := 2) (ret := none) (by decide) (Nat.le_of_ble_eq_true rfl) (fun p e s m below meth c hM => ?_)
  have hM : zs_M p c cFA_begin 2 s m meth [.ref (g.2.1 d0)].toArray "ThriftyStores$Facts" none g := hM
  obtain ⟨hx, hb, hml, hr, hlk, hts, hown, hK⟩ := id hM
  intro ls H locs hl hP hS
  have hl : lv_has ls 2 [(0, .ref (g.2.1 d0))] := hl
  unfold zf_FA_begin at h
  refine lv_iconst (v := 0) hx hb dFA_begin_0 (by decide) ?_
  refine lv_istore_n hx hb dFA_begin_1 rfl hl (by decide) rfl (fun ls hl => ?_)
  have hl : lv_has ls 2 [(1, .int 0), (0, .ref (g.2.1 d0))] := hl
  obtain ⟨n, h⟩ := h
  exact zw_FA_begin_2 hM hd0 n 0 st h ls H locs (lv_sub hl [1, 0] rfl) hP hS
set_option maxHeartbeats 4000000 in
set_option maxRecDepth 100000 in
theorem zc_FA_copy (l : Launch) (g : zs_G) (A : Nat → Prop) {d0 : Nat} {d1 : Nat} (hd0 : zs_Fa d0) (hd1 : zs_Fa d1) {st : zs_T} {K : zs_T → Prop} (h : zf_FA_copy d0 d1 st K) : Met l yFA_copy (.code yFA_copy cFA_copy 2 none :: zs_tb) (zs_rm 1 18) (zs_Pc zs_nl g zs_ly zs_N A [.ref (g.2.1 d0), .ref (g.2.1 d1)] st) (zs_Qv g zs_ly zs_N A K) 0 0 A := by
  refine zs_met (cc := cFA_copy) (maxL := 2) (ret := none) (by decide) (Nat.le_of_ble_eq_true rfl) (fun p e s m below meth c hM => ?_)
  have hM : zs_M p c cFA_copy 2 s m meth [.ref (g.2.1 d0), .ref (g.2.1 d1)].toArray "ThriftyStores$Facts" none g := hM
  obtain ⟨hx, hb, hml, hr, hlk, hts, hown, hK⟩ := id hM
  intro ls H locs hl hP hS
  have hl : lv_has ls 2 [(0, .ref (g.2.1 d0)), (1, .ref (g.2.1 d1))] := hl
  unfold zf_FA_copy at h
  refine lv_aload_n hx hb dFA_copy_0 rfl (lv_at hl 1 rfl) ?_
  refine zr_getr (b := d1 + 1) hx hb hts zi_FA hown hK.1 hP hd1.1.1 hd1.1.2 rfl 0 (by decide) rfl (hts _ zq_114) dFA_copy_1 ?_
  refine lv_iconst (v := 0) hx hb dFA_copy_4 (by decide) ?_
  refine lv_aload_n hx hb dFA_copy_5 rfl (lv_at hl 0 rfl) ?_
  refine zr_getr (b := d0 + 1) hx hb hts zi_FA hown hK.1 hP hd0.1.1 hd0.1.2 rfl 0 (by decide) rfl (hts _ zq_114) dFA_copy_6 ?_
  refine lv_iconst (v := 0) hx hb dFA_copy_9 (by decide) ?_
  refine lv_bipush (v := 16) hx hb dFA_copy_10 (by decide) ?_
  obtain ⟨hq1, hq2, hq3, hq4, hq5, h⟩ := h
  refine zr_copy hx hb (hml.trans hl.1.symm) hown (hts _ zq_454) (hts _ zq_373) (hts _ zq_372) (hts _ zq_14) hK.1 hP hS hd1.2.1.1 hd1.2.1.2 hd0.2.1.1 hd0.2.1.2 hq1 hq2 hq3 hq4 hq5 (by decide) (by decide) dFA_copy_12 (fun H locs hP hS => ?_)
  obtain ⟨t6, e9⟩ : ∃ t9 : zs_T, t9 = zs_a st (d0 + 1) (va_cpy (st.1 (d1 + 1)) (st.1 (d0 + 1)) (0 : Int32).toNatClampNeg (0 : Int32).toNatClampNeg (16 : Int32).toNatClampNeg) := ⟨_, rfl⟩
  have h := h t6 e9
  have hP : zs_P g zs_ly zs_N A t6 H := by rw [e9]; exact hP
  clear e9
  refine lv_aload_n hx hb dFA_copy_15 rfl (lv_at hl 1 rfl) ?_
  refine zr_getr (b := d1 + 2) hx hb hts zi_FA hown hK.1 hP hd1.1.1 hd1.1.2 rfl 1 (by decide) rfl (hts _ zq_117) dFA_copy_16 ?_
  refine lv_iconst (v := 0) hx hb dFA_copy_19 (by decide) ?_
  refine lv_aload_n hx hb dFA_copy_20 rfl (lv_at hl 0 rfl) ?_
  refine zr_getr (b := d0 + 2) hx hb hts zi_FA hown hK.1 hP hd0.1.1 hd0.1.2 rfl 1 (by decide) rfl (hts _ zq_117) dFA_copy_21 ?_
  refine lv_iconst (v := 0) hx hb dFA_copy_24 (by decide) ?_
  refine lv_bipush (v := 16) hx hb dFA_copy_25 (by decide) ?_
  obtain ⟨hq7, hq8, hq9, hq10, hq11, h⟩ := h
  refine zr_copy hx hb (hml.trans hl.1.symm) hown (hts _ zq_454) (hts _ zq_373) (hts _ zq_372) (hts _ zq_14) hK.1 hP hS hd1.2.2.1 hd1.2.2.2 hd0.2.2.1 hd0.2.2.2 hq7 hq8 hq9 hq10 hq11 (by decide) (by decide) dFA_copy_27 (fun H locs hP hS => ?_)
  obtain ⟨t12, e9⟩ : ∃ t9 : zs_T, t9 = zs_a t6 (d0 + 2) (va_cpy (t6.1 (d1 + 2)) (t6.1 (d0 + 2)) (0 : Int32).toNatClampNeg (0 : Int32).toNatClampNeg (16 : Int32).toNatClampNeg) := ⟨_, rfl⟩
  have h := h t12 e9
  have hP : zs_P g zs_ly zs_N A t12 H := by rw [e9]; exact hP
  clear e9
  refine lv_aload_n hx hb dFA_copy_30 rfl (lv_at hl 0 rfl) ?_
  refine lv_aload_n hx hb dFA_copy_31 rfl (lv_at hl 1 rfl) ?_
  refine zr_geti hx hb hts zi_FA hown hK.1 hP hd1.1.1 hd1.1.2 rfl 2 (by decide) rfl (hts _ zq_120) dFA_copy_32 ?_
  refine zr_put hx hb hts zi_FA tyFA tyFA_ok nmFA hown hK.1 hP hS hd0.1.1 hd0.1.2 rfl 2 (by decide) rfl (hts _ zq_120) rfl rfl rfl dFA_copy_35 (fun H locs hP hS => ?_)
  obtain ⟨t13, e9⟩ : ∃ t9 : zs_T, t9 = zs_i t12 d0 2 (t12.1 d1 2) := ⟨_, rfl⟩
  have h := h t13 e9
  have hP : zs_P g zs_ly zs_N A t13 H := by rw [e9]; exact hP
  clear e9
  exact zr_vret hx hb hr hlk hP hS h dFA_copy_38
set_option maxHeartbeats 4000000 in
set_option maxRecDepth 100000 in
theorem zw_FA_keepCommon_27_s (hM : zs_M p c cFA_keepCommon 4 s m meth args "ThriftyStores$Facts" (some .boolean) g) {d0 : Nat} {d1 : Nat} (hd0 : zs_Fa d0) (hd1 : zs_Fa d1) {K : Int32 → zs_T → Prop}  {B27 : Int32 → Int32 → zs_T → Prop}  (hB27 : ∀ (l2 : Int32) (l3 : Int32) (st : zs_T), B27 l2 l3 st → zs_Go p l e (zs_rm 0 0) s m args below meth c g A (MQ below (zs_Qi g zs_ly zs_N A K) args s 0 0 A) 4 27 [(0, .ref (g.2.1 d0)), (1, .ref (g.2.1 d1)), (2, .int l2), (3, .int l3)] [] st) (l2 : Int32) (l3 : Int32) (st : zs_T) (h : zf_FA_keepCommon_27_s d0 d1 K B27 l2 l3 st) : zs_Go p l e (zs_rm 0 0) s m args below meth c g A (MQ below (zs_Qi g zs_ly zs_N A K) args s 0 0 A) 4 27 [(0, .ref (g.2.1 d0)), (1, .ref (g.2.1 d1)), (2, .int l2), (3, .int l3)] [] st := by
  obtain ⟨hx, hb, hml, hr, hlk, hts, hown, hK⟩ := id hM
  intro ls H locs hl hP hS
  unfold zf_FA_keepCommon_27_s at h
  refine lv_iload_n hx hb dFA_keepCommon_27 rfl (lv_at hl 3 rfl) ?_
  refine lv_bipush (v := 16) hx hb dFA_keepCommon_28 (by decide) ?_
  refine lv_icmp_ge (tgt := 103) hx hb dFA_keepCommon_30 rfl (fun hc => ?_) (fun hc => ?_)
  · have h := h.1 hc
    clear hc
    refine lv_iload_n hx hb dFA_keepCommon_103 rfl (lv_at hl 2 rfl) ?_
    refine lv_if_eq (tgt := 111) hx hb dFA_keepCommon_104 rfl (fun hc => ?_) (fun hc => ?_)
    · have h := h.1 hc
      clear hc
      refine lv_iconst (v := 0) hx hb dFA_keepCommon_111 (by decide) ?_
      exact zr_zret hx hb hr hlk hP hS rfl h dFA_keepCommon_112
    · have h := h.2 hc
      clear hc
      refine lv_iconst (v := 1) hx hb dFA_keepCommon_107 (by decide) ?_
      refine lv_goto (tgt := 112) hx hb dFA_keepCommon_108 rfl ?_
      exact zr_zret hx hb hr hlk hP hS rfl h dFA_keepCommon_112
  · have h := h.2 hc
    clear hc
    refine lv_iload_n hx hb dFA_keepCommon_33 rfl (lv_at hl 2 rfl) ?_
    refine lv_aload_n hx hb dFA_keepCommon_34 rfl (lv_at hl 0 rfl) ?_
    refine zr_getr (b := d0 + 1) hx hb hts zi_FA hown hK.1 hP hd0.1.1 hd0.1.2 rfl 0 (by decide) rfl (hts _ zq_114) dFA_keepCommon_35 ?_
    refine lv_iload_n hx hb dFA_keepCommon_38 rfl (lv_at hl 3 rfl) ?_
    obtain ⟨hi101, h⟩ := h
    refine zr_iald hx hb hK.1 hP hd0.2.1.1 hd0.2.1.2 hi101 dFA_keepCommon_39 ?_
    refine lv_aload_n hx hb dFA_keepCommon_40 rfl (lv_at hl 1 rfl) ?_
    refine zr_getr (b := d1 + 1) hx hb hts zi_FA hown hK.1 hP hd1.1.1 hd1.1.2 rfl 0 (by decide) rfl (hts _ zq_114) dFA_keepCommon_41 ?_
    refine lv_iload_n hx hb dFA_keepCommon_44 rfl (lv_at hl 3 rfl) ?_
    obtain ⟨hi102, h⟩ := h
    refine zr_iald hx hb hK.1 hP hd1.2.1.1 hd1.2.1.2 hi102 dFA_keepCommon_45 ?_
    refine lv_iconst (v := (-1)) hx hb dFA_keepCommon_46 (by decide) ?_
    refine lv_ixor hx hb dFA_keepCommon_47 ?_
    refine lv_iand hx hb dFA_keepCommon_48 ?_
    refine lv_aload_n hx hb dFA_keepCommon_49 rfl (lv_at hl 0 rfl) ?_
    refine zr_getr (b := d0 + 2) hx hb hts zi_FA hown hK.1 hP hd0.1.1 hd0.1.2 rfl 1 (by decide) rfl (hts _ zq_117) dFA_keepCommon_50 ?_
    refine lv_iload_n hx hb dFA_keepCommon_53 rfl (lv_at hl 3 rfl) ?_
    obtain ⟨hi103, h⟩ := h
    refine zr_iald hx hb hK.1 hP hd0.2.2.1 hd0.2.2.2 hi103 dFA_keepCommon_54 ?_
    refine lv_aload_n hx hb dFA_keepCommon_55 rfl (lv_at hl 1 rfl) ?_
    refine zr_getr (b := d1 + 2) hx hb hts zi_FA hown hK.1 hP hd1.1.1 hd1.1.2 rfl 1 (by decide) rfl (hts _ zq_117) dFA_keepCommon_56 ?_
    refine lv_iload_n hx hb dFA_keepCommon_59 rfl (lv_at hl 3 rfl) ?_
    obtain ⟨hi104, h⟩ := h
    refine zr_iald hx hb hK.1 hP hd1.2.2.1 hd1.2.2.2 hi104 dFA_keepCommon_60 ?_
    refine lv_iconst (v := (-1)) hx hb dFA_keepCommon_61 (by decide) ?_
    refine lv_ixor hx hb dFA_keepCommon_62 ?_
    refine lv_iand hx hb dFA_keepCommon_63 ?_
    refine lv_ior hx hb dFA_keepCommon_64 ?_
    refine lv_ior hx hb dFA_keepCommon_65 ?_
    refine lv_istore_n hx hb dFA_keepCommon_66 rfl hl (by decide) rfl (fun ls hl => ?_)
    have hl : lv_has ls 4 [(2, .int (l2 ||| (((st.1 (d0 + 1) l3.toNatClampNeg) &&& ((st.1 (d1 + 1) l3.toNatClampNeg) ^^^ (-1))) ||| ((st.1 (d0 + 2) l3.toNatClampNeg) &&& ((st.1 (d1 + 2) l3.toNatClampNeg) ^^^ (-1)))))), (0, .ref (g.2.1 d0)), (1, .ref (g.2.1 d1)), (3, .int l3)] := hl
    refine lv_aload_n hx hb dFA_keepCommon_67 rfl (lv_at hl 1 rfl) ?_
    refine zr_getr (b := d0 + 1) hx hb hts zi_FA hown hK.1 hP hd0.1.1 hd0.1.2 rfl 0 (by decide) rfl (hts _ zq_114) dFA_keepCommon_68 ?_
    refine lv_iload_n hx hb dFA_keepCommon_71 rfl (lv_at hl 3 rfl) ?_
    refine lv_dup2_11 hx hb dFA_keepCommon_72 rfl rfl ?_
    obtain ⟨hi105, h⟩ := h
    refine zr_iald hx hb hK.1 hP hd0.2.1.1 hd0.2.1.2 hi105 dFA_keepCommon_73 ?_
    refine lv_aload_n hx hb dFA_keepCommon_74 rfl (lv_at hl 2 rfl) ?_
    refine zr_getr (b := d1 + 1) hx hb hts zi_FA hown hK.1 hP hd1.1.1 hd1.1.2 rfl 0 (by decide) rfl (hts _ zq_114) dFA_keepCommon_75 ?_
    refine lv_iload_n hx hb dFA_keepCommon_78 rfl (lv_at hl 3 rfl) ?_
    obtain ⟨hi106, h⟩ := h
    refine zr_iald hx hb hK.1 hP hd1.2.1.1 hd1.2.1.2 hi106 dFA_keepCommon_79 ?_
    refine lv_iand hx hb dFA_keepCommon_80 ?_
    obtain ⟨hi107, h⟩ := h
    refine zr_iast hx hb hK.1 hP hS hd0.2.1.1 hd0.2.1.2 hi107 dFA_keepCommon_81 (fun H locs hP hS => ?_)
    obtain ⟨t108, e9⟩ : ∃ t9 : zs_T, t9 = zs_i st (d0 + 1) l3.toNatClampNeg ((st.1 (d0 + 1) l3.toNatClampNeg) &&& (st.1 (d1 + 1) l3.toNatClampNeg)) := ⟨_, rfl⟩
    have h := h t108 e9
    have hP : zs_P g zs_ly zs_N A t108 H := by rw [e9]; exact hP
    clear e9
    refine lv_aload_n hx hb dFA_keepCommon_82 rfl (lv_at hl 1 rfl) ?_
    refine zr_getr (b := d0 + 2) hx hb hts zi_FA hown hK.1 hP hd0.1.1 hd0.1.2 rfl 1 (by decide) rfl (hts _ zq_117) dFA_keepCommon_83 ?_
    refine lv_iload_n hx hb dFA_keepCommon_86 rfl (lv_at hl 3 rfl) ?_
    refine lv_dup2_11 hx hb dFA_keepCommon_87 rfl rfl ?_
    obtain ⟨hi109, h⟩ := h
    refine zr_iald hx hb hK.1 hP hd0.2.2.1 hd0.2.2.2 hi109 dFA_keepCommon_88 ?_
    refine lv_aload_n hx hb dFA_keepCommon_89 rfl (lv_at hl 2 rfl) ?_
    refine zr_getr (b := d1 + 2) hx hb hts zi_FA hown hK.1 hP hd1.1.1 hd1.1.2 rfl 1 (by decide) rfl (hts _ zq_117) dFA_keepCommon_90 ?_
    refine lv_iload_n hx hb dFA_keepCommon_93 rfl (lv_at hl 3 rfl) ?_
    obtain ⟨hi110, h⟩ := h
    refine zr_iald hx hb hK.1 hP hd1.2.2.1 hd1.2.2.2 hi110 dFA_keepCommon_94 ?_
    refine lv_iand hx hb dFA_keepCommon_95 ?_
    obtain ⟨hi111, h⟩ := h
    refine zr_iast hx hb hK.1 hP hS hd0.2.2.1 hd0.2.2.2 hi111 dFA_keepCommon_96 (fun H locs hP hS => ?_)
    obtain ⟨t112, e9⟩ : ∃ t9 : zs_T, t9 = zs_i t108 (d0 + 2) l3.toNatClampNeg ((t108.1 (d0 + 2) l3.toNatClampNeg) &&& (t108.1 (d1 + 2) l3.toNatClampNeg)) := ⟨_, rfl⟩
    have h := h t112 e9
    have hP : zs_P g zs_ly zs_N A t112 H := by rw [e9]; exact hP
    clear e9
    refine lv_iinc (k := 3) (v := l3 + 1) hx hb dFA_keepCommon_97 hl rfl (by rw [show Int32.ofInt (1) = 1 from by decide]) (by decide) rfl (fun ls hl => ?_)
    have hl : lv_has ls 4 [(3, .int (l3 + 1)), (2, .int (l2 ||| (((st.1 (d0 + 1) l3.toNatClampNeg) &&& ((st.1 (d1 + 1) l3.toNatClampNeg) ^^^ (-1))) ||| ((st.1 (d0 + 2) l3.toNatClampNeg) &&& ((st.1 (d1 + 2) l3.toNatClampNeg) ^^^ (-1)))))), (0, .ref (g.2.1 d0)), (1, .ref (g.2.1 d1))] := hl
    refine lv_goto (tgt := 27) hx hb dFA_keepCommon_100 rfl ?_
    exact hB27 (l2 ||| (((st.1 (d0 + 1) l3.toNatClampNeg) &&& ((st.1 (d1 + 1) l3.toNatClampNeg) ^^^ (-1))) ||| ((st.1 (d0 + 2) l3.toNatClampNeg) &&& ((st.1 (d1 + 2) l3.toNatClampNeg) ^^^ (-1))))) (l3 + 1) t112 h ls H locs (lv_sub hl [2, 3, 1, 0] rfl) hP hS
theorem zw_FA_keepCommon_27 (hM : zs_M p c cFA_keepCommon 4 s m meth args "ThriftyStores$Facts" (some .boolean) g) {d0 : Nat} {d1 : Nat} (hd0 : zs_Fa d0) (hd1 : zs_Fa d1) {K : Int32 → zs_T → Prop}   : ∀ (n : Nat) (l2 : Int32) (l3 : Int32) (st : zs_T), zf_FA_keepCommon_27 d0 d1 K n l2 l3 st → zs_Go p l e (zs_rm 0 0) s m args below meth c g A (MQ below (zs_Qi g zs_ly zs_N A K) args s 0 0 A) 4 27 [(0, .ref (g.2.1 d0)), (1, .ref (g.2.1 d1)), (2, .int l2), (3, .int l3)] [] st := by
  intro n
  induction n with
  | zero => intro l2 l3 st h; exact False.elim h
  | succ n ih => intro l2 l3 st h; exact zw_FA_keepCommon_27_s hM hd0 hd1 ih l2 l3 st h
set_option maxHeartbeats 4000000 in
set_option maxRecDepth 100000 in
theorem zc_FA_keepCommon (l : Launch) (g : zs_G) (A : Nat → Prop) {d0 : Nat} {d1 : Nat} (hd0 : zs_Fa d0) (hd1 : zs_Fa d1) {st : zs_T} {K : Int32 → zs_T → Prop} (h : zf_FA_keepCommon d0 d1 st K) : Met l yFA_keepCommon (.code yFA_keepCommon cFA_keepCommon 4 (some .boolean) :: zs_tb) (zs_rm 0 0) (zs_Pc zs_nl g zs_ly zs_N A [.ref (g.2.1 d0), .ref (g.2.1 d1)] st) (zs_Qi g zs_ly zs_N A K) 0 0 A := by
  refine zs_met (cc := cFA_keepCommon) (maxL := 4) (ret := (some .boolean)) (by decide) (Nat.le_of_ble_eq_true rfl) (fun p e s m below meth c hM => ?_)
  have hM : zs_M p c cFA_keepCommon 4 s m meth [.ref (g.2.1 d0), .ref (g.2.1 d1)].toArray "ThriftyStores$Facts" (some .boolean) g := hM
  obtain ⟨hx, hb, hml, hr, hlk, hts, hown, hK⟩ := id hM
  intro ls H locs hl hP hS
  have hl : lv_has ls 4 [(0, .ref (g.2.1 d0)), (1, .ref (g.2.1 d1))] := hl
  unfold zf_FA_keepCommon at h
  refine lv_aload_n hx hb dFA_keepCommon_0 rfl (lv_at hl 0 rfl) ?_
  refine zr_geti hx hb hts zi_FA hown hK.1 hP hd0.1.1 hd0.1.2 rfl 2 (by decide) rfl (hts _ zq_120) dFA_keepCommon_1 ?_
  refine lv_aload_n hx hb dFA_keepCommon_4 rfl (lv_at hl 1 rfl) ?_
  refine zr_geti hx hb hts zi_FA hown hK.1 hP hd1.1.1 hd1.1.2 rfl 2 (by decide) rfl (hts _ zq_120) dFA_keepCommon_5 ?_
  refine lv_iconst (v := (-1)) hx hb dFA_keepCommon_8 (by decide) ?_
  refine lv_ixor hx hb dFA_keepCommon_9 ?_
  refine lv_iand hx hb dFA_keepCommon_10 ?_
  refine lv_istore_n hx hb dFA_keepCommon_11 rfl hl (by decide) rfl (fun ls hl => ?_)
  have hl : lv_has ls 4 [(2, .int ((st.1 d0 2) &&& ((st.1 d1 2) ^^^ (-1)))), (0, .ref (g.2.1 d0)), (1, .ref (g.2.1 d1))] := hl
  refine lv_aload_n hx hb dFA_keepCommon_12 rfl (lv_at hl 1 rfl) ?_
  refine lv_dup hx hb dFA_keepCommon_13 rfl ?_
  refine zr_geti hx hb hts zi_FA hown hK.1 hP hd0.1.1 hd0.1.2 rfl 2 (by decide) rfl (hts _ zq_120) dFA_keepCommon_14 ?_
  refine lv_aload_n hx hb dFA_keepCommon_17 rfl (lv_at hl 2 rfl) ?_
  refine zr_geti hx hb hts zi_FA hown hK.1 hP hd1.1.1 hd1.1.2 rfl 2 (by decide) rfl (hts _ zq_120) dFA_keepCommon_18 ?_
  refine lv_iand hx hb dFA_keepCommon_21 ?_
  refine zr_put hx hb hts zi_FA tyFA tyFA_ok nmFA hown hK.1 hP hS hd0.1.1 hd0.1.2 rfl 2 (by decide) rfl (hts _ zq_120) rfl rfl rfl dFA_keepCommon_22 (fun H locs hP hS => ?_)
  obtain ⟨t1, e9⟩ : ∃ t9 : zs_T, t9 = zs_i st d0 2 ((st.1 d0 2) &&& (st.1 d1 2)) := ⟨_, rfl⟩
  have h := h t1 e9
  have hP : zs_P g zs_ly zs_N A t1 H := by rw [e9]; exact hP
  clear e9
  refine lv_iconst (v := 0) hx hb dFA_keepCommon_25 (by decide) ?_
  refine lv_istore_n hx hb dFA_keepCommon_26 rfl hl (by decide) rfl (fun ls hl => ?_)
  have hl : lv_has ls 4 [(3, .int 0), (2, .int ((st.1 d0 2) &&& ((st.1 d1 2) ^^^ (-1)))), (0, .ref (g.2.1 d0)), (1, .ref (g.2.1 d1))] := hl
  obtain ⟨n, h⟩ := h
  exact zw_FA_keepCommon_27 hM hd0 hd1 n ((st.1 d0 2) &&& ((st.1 d1 2) ^^^ (-1))) 0 t1 h ls H locs (lv_sub hl [2, 3, 1, 0] rfl) hP hS
set_option maxHeartbeats 4000000 in
set_option maxRecDepth 100000 in
theorem zw_FA_forget_8_s (hM : zs_M p c cFA_forget 4 s m meth args "ThriftyStores$Facts" none g) {d0 : Nat} (hd0 : zs_Fa d0) {K : zs_T → Prop}  {B8 : Int32 → Int32 → Int32 → zs_T → Prop}  (hB8 : ∀ (l1 : Int32) (l2 : Int32) (l3 : Int32) (st : zs_T), B8 l1 l2 l3 st → zs_Go p l e (zs_rm 0 0) s m args below meth c g A (MQ below (zs_Qv g zs_ly zs_N A K) args s 0 0 A) 4 8 [(0, .ref (g.2.1 d0)), (1, .int l1), (2, .int l2), (3, .int l3)] [] st) (l1 : Int32) (l2 : Int32) (l3 : Int32) (st : zs_T) (h : zf_FA_forget_8_s d0 K B8 l1 l2 l3 st) : zs_Go p l e (zs_rm 0 0) s m args below meth c g A (MQ below (zs_Qv g zs_ly zs_N A K) args s 0 0 A) 4 8 [(0, .ref (g.2.1 d0)), (1, .int l1), (2, .int l2), (3, .int l3)] [] st := by
  obtain ⟨hx, hb, hml, hr, hlk, hts, hown, hK⟩ := id hM
  intro ls H locs hl hP hS
  unfold zf_FA_forget_8_s at h
  refine lv_iload_n hx hb dFA_forget_8 rfl (lv_at hl 3 rfl) ?_
  refine lv_bipush (v := 16) hx hb dFA_forget_9 (by decide) ?_
  refine lv_icmp_ge (tgt := 40) hx hb dFA_forget_11 rfl (fun hc => ?_) (fun hc => ?_)
  · have h := h.1 hc
    clear hc
    refine lv_aload_n hx hb dFA_forget_40 rfl (lv_at hl 0 rfl) ?_
    refine zr_getr (b := d0 + 1) hx hb hts zi_FA hown hK.1 hP hd0.1.1 hd0.1.2 rfl 0 (by decide) rfl (hts _ zq_114) dFA_forget_41 ?_
    refine lv_iload_n hx hb dFA_forget_44 rfl (lv_at hl 1 rfl) ?_
    refine lv_iconst (v := 0) hx hb dFA_forget_45 (by decide) ?_
    obtain ⟨hi101, h⟩ := h
    refine zr_iast hx hb hK.1 hP hS hd0.2.1.1 hd0.2.1.2 hi101 dFA_forget_46 (fun H locs hP hS => ?_)
    obtain ⟨t102, e9⟩ : ∃ t9 : zs_T, t9 = zs_i st (d0 + 1) l1.toNatClampNeg 0 := ⟨_, rfl⟩
    have h := h t102 e9
    have hP : zs_P g zs_ly zs_N A t102 H := by rw [e9]; exact hP
    clear e9
    refine lv_aload_n hx hb dFA_forget_47 rfl (lv_at hl 0 rfl) ?_
    refine zr_getr (b := d0 + 2) hx hb hts zi_FA hown hK.1 hP hd0.1.1 hd0.1.2 rfl 1 (by decide) rfl (hts _ zq_117) dFA_forget_48 ?_
    refine lv_iload_n hx hb dFA_forget_51 rfl (lv_at hl 1 rfl) ?_
    refine lv_iconst (v := 0) hx hb dFA_forget_52 (by decide) ?_
    obtain ⟨hi103, h⟩ := h
    refine zr_iast hx hb hK.1 hP hS hd0.2.2.1 hd0.2.2.2 hi103 dFA_forget_53 (fun H locs hP hS => ?_)
    obtain ⟨t104, e9⟩ : ∃ t9 : zs_T, t9 = zs_i t102 (d0 + 2) l1.toNatClampNeg 0 := ⟨_, rfl⟩
    have h := h t104 e9
    have hP : zs_P g zs_ly zs_N A t104 H := by rw [e9]; exact hP
    clear e9
    refine lv_aload_n hx hb dFA_forget_54 rfl (lv_at hl 0 rfl) ?_
    refine lv_dup hx hb dFA_forget_55 rfl ?_
    refine zr_geti hx hb hts zi_FA hown hK.1 hP hd0.1.1 hd0.1.2 rfl 2 (by decide) rfl (hts _ zq_120) dFA_forget_56 ?_
    refine lv_iload_n hx hb dFA_forget_59 rfl (lv_at hl 2 rfl) ?_
    refine lv_iand hx hb dFA_forget_60 ?_
    refine zr_put hx hb hts zi_FA tyFA tyFA_ok nmFA hown hK.1 hP hS hd0.1.1 hd0.1.2 rfl 2 (by decide) rfl (hts _ zq_120) rfl rfl rfl dFA_forget_61 (fun H locs hP hS => ?_)
    obtain ⟨t105, e9⟩ : ∃ t9 : zs_T, t9 = zs_i t104 d0 2 ((t104.1 d0 2) &&& l2) := ⟨_, rfl⟩
    have h := h t105 e9
    have hP : zs_P g zs_ly zs_N A t105 H := by rw [e9]; exact hP
    clear e9
    exact zr_vret hx hb hr hlk hP hS h dFA_forget_64
  · have h := h.2 hc
    clear hc
    refine lv_aload_n hx hb dFA_forget_14 rfl (lv_at hl 0 rfl) ?_
    refine zr_getr (b := d0 + 1) hx hb hts zi_FA hown hK.1 hP hd0.1.1 hd0.1.2 rfl 0 (by decide) rfl (hts _ zq_114) dFA_forget_15 ?_
    refine lv_iload_n hx hb dFA_forget_18 rfl (lv_at hl 3 rfl) ?_
    refine lv_dup2_11 hx hb dFA_forget_19 rfl rfl ?_
    obtain ⟨hi106, h⟩ := h
    refine zr_iald hx hb hK.1 hP hd0.2.1.1 hd0.2.1.2 hi106 dFA_forget_20 ?_
    refine lv_iload_n hx hb dFA_forget_21 rfl (lv_at hl 2 rfl) ?_
    refine lv_iand hx hb dFA_forget_22 ?_
    obtain ⟨hi107, h⟩ := h
    refine zr_iast hx hb hK.1 hP hS hd0.2.1.1 hd0.2.1.2 hi107 dFA_forget_23 (fun H locs hP hS => ?_)
    obtain ⟨t108, e9⟩ : ∃ t9 : zs_T, t9 = zs_i st (d0 + 1) l3.toNatClampNeg ((st.1 (d0 + 1) l3.toNatClampNeg) &&& l2) := ⟨_, rfl⟩
    have h := h t108 e9
    have hP : zs_P g zs_ly zs_N A t108 H := by rw [e9]; exact hP
    clear e9
    refine lv_aload_n hx hb dFA_forget_24 rfl (lv_at hl 0 rfl) ?_
    refine zr_getr (b := d0 + 2) hx hb hts zi_FA hown hK.1 hP hd0.1.1 hd0.1.2 rfl 1 (by decide) rfl (hts _ zq_117) dFA_forget_25 ?_
    refine lv_iload_n hx hb dFA_forget_28 rfl (lv_at hl 3 rfl) ?_
    refine lv_dup2_11 hx hb dFA_forget_29 rfl rfl ?_
    obtain ⟨hi109, h⟩ := h
    refine zr_iald hx hb hK.1 hP hd0.2.2.1 hd0.2.2.2 hi109 dFA_forget_30 ?_
    refine lv_iload_n hx hb dFA_forget_31 rfl (lv_at hl 2 rfl) ?_
    refine lv_iand hx hb dFA_forget_32 ?_
    obtain ⟨hi110, h⟩ := h
    refine zr_iast hx hb hK.1 hP hS hd0.2.2.1 hd0.2.2.2 hi110 dFA_forget_33 (fun H locs hP hS => ?_)
    obtain ⟨t111, e9⟩ : ∃ t9 : zs_T, t9 = zs_i t108 (d0 + 2) l3.toNatClampNeg ((t108.1 (d0 + 2) l3.toNatClampNeg) &&& l2) := ⟨_, rfl⟩
    have h := h t111 e9
    have hP : zs_P g zs_ly zs_N A t111 H := by rw [e9]; exact hP
    clear e9
    refine lv_iinc (k := 3) (v := l3 + 1) hx hb dFA_forget_34 hl rfl (by rw [show Int32.ofInt (1) = 1 from by decide]) (by decide) rfl (fun ls hl => ?_)
    have hl : lv_has ls 4 [(3, .int (l3 + 1)), (0, .ref (g.2.1 d0)), (1, .int l1), (2, .int l2)] := hl
    refine lv_goto (tgt := 8) hx hb dFA_forget_37 rfl ?_
    exact hB8 l1 l2 (l3 + 1) t111 h ls H locs (lv_sub hl [1, 2, 3, 0] rfl) hP hS
theorem zw_FA_forget_8 (hM : zs_M p c cFA_forget 4 s m meth args "ThriftyStores$Facts" none g) {d0 : Nat} (hd0 : zs_Fa d0) {K : zs_T → Prop}   : ∀ (n : Nat) (l1 : Int32) (l2 : Int32) (l3 : Int32) (st : zs_T), zf_FA_forget_8 d0 K n l1 l2 l3 st → zs_Go p l e (zs_rm 0 0) s m args below meth c g A (MQ below (zs_Qv g zs_ly zs_N A K) args s 0 0 A) 4 8 [(0, .ref (g.2.1 d0)), (1, .int l1), (2, .int l2), (3, .int l3)] [] st := by
  intro n
  induction n with
  | zero => intro l1 l2 l3 st h; exact False.elim h
  | succ n ih => intro l1 l2 l3 st h; exact zw_FA_forget_8_s hM hd0 ih l1 l2 l3 st h
set_option maxHeartbeats 4000000 in
set_option maxRecDepth 100000 in
theorem zc_FA_forget (l : Launch) (g : zs_G) (A : Nat → Prop) {d0 : Nat} {l1 : Int32} (hd0 : zs_Fa d0) {st : zs_T} {K : zs_T → Prop} (h : zf_FA_forget d0 l1 st K) : Met l yFA_forget (.code yFA_forget cFA_forget 4 none :: zs_tb) (zs_rm 0 0) (zs_Pc zs_nl g zs_ly zs_N A [.ref (g.2.1 d0), .int l1] st) (zs_Qv g zs_ly zs_N A K) 0 0 A := by
  refine zs_met (cc := cFA_forget) (maxL := 4) (ret := none) (by decide) (Nat.le_of_ble_eq_true rfl) (fun p e s m below meth c hM => ?_)
  have hM : zs_M p c cFA_forget 4 s m meth [.ref (g.2.1 d0), .int l1].toArray "ThriftyStores$Facts" none g := hM
  obtain ⟨hx, hb, hml, hr, hlk, hts, hown, hK⟩ := id hM
  intro ls H locs hl hP hS
  have hl : lv_has ls 4 [(0, .ref (g.2.1 d0)), (1, .int l1)] := hl
  unfold zf_FA_forget at h
  refine lv_iconst (v := 1) hx hb dFA_forget_0 (by decide) ?_
  refine lv_iload_n hx hb dFA_forget_1 rfl (lv_at hl 1 rfl) ?_
  refine lv_ishl hx hb dFA_forget_2 ?_
  refine lv_iconst (v := (-1)) hx hb dFA_forget_3 (by decide) ?_
  refine lv_ixor hx hb dFA_forget_4 ?_
  refine lv_istore_n hx hb dFA_forget_5 rfl hl (by decide) rfl (fun ls hl => ?_)
  have hl : lv_has ls 4 [(2, .int (((1 : Int32) <<< (l1 &&& 31)) ^^^ (-1))), (0, .ref (g.2.1 d0)), (1, .int l1)] := hl
  refine lv_iconst (v := 0) hx hb dFA_forget_6 (by decide) ?_
  refine lv_istore_n hx hb dFA_forget_7 rfl hl (by decide) rfl (fun ls hl => ?_)
  have hl : lv_has ls 4 [(3, .int 0), (2, .int (((1 : Int32) <<< (l1 &&& 31)) ^^^ (-1))), (0, .ref (g.2.1 d0)), (1, .int l1)] := hl
  obtain ⟨n, h⟩ := h
  exact zw_FA_forget_8 hM hd0 n l1 (((1 : Int32) <<< (l1 &&& 31)) ^^^ (-1)) 0 st h ls H locs (lv_sub hl [2, 3, 1, 0] rfl) hP hS
set_option maxHeartbeats 4000000 in
set_option maxRecDepth 100000 in
theorem zw_FA_passMove_13_s (hM : zs_M p c cFA_passMove 4 s m meth args "ThriftyStores$Facts" none g) {d0 : Nat} (hd0 : zs_Fa d0) {K : zs_T → Prop}  {B13 : Int32 → Int32 → Int32 → zs_T → Prop}  (hB13 : ∀ (l1 : Int32) (l2 : Int32) (l3 : Int32) (st : zs_T), B13 l1 l2 l3 st → zs_Go p l e (zs_rm 1 23) s m args below meth c g A (MQ below (zs_Qv g zs_ly zs_N A K) args s 0 0 A) 4 13 [(0, .ref (g.2.1 d0)), (1, .int l1), (2, .int l2), (3, .int l3)] [] st) (l1 : Int32) (l2 : Int32) (l3 : Int32) (st : zs_T) (h : zf_FA_passMove_13_s d0 K B13 l1 l2 l3 st) : zs_Go p l e (zs_rm 1 23) s m args below meth c g A (MQ below (zs_Qv g zs_ly zs_N A K) args s 0 0 A) 4 13 [(0, .ref (g.2.1 d0)), (1, .int l1), (2, .int l2), (3, .int l3)] [] st := by
  obtain ⟨hx, hb, hml, hr, hlk, hts, hown, hK⟩ := id hM
  intro ls H locs hl hP hS
  unfold zf_FA_passMove_13_s at h
  refine lv_iload_n hx hb dFA_passMove_13 rfl (lv_at hl 3 rfl) ?_
  refine lv_bipush (v := 16) hx hb dFA_passMove_14 (by decide) ?_
  refine lv_icmp_ge (tgt := 67) hx hb dFA_passMove_16 rfl (fun hc => ?_) (fun hc => ?_)
  · have h := h.1 hc
    clear hc
    refine lv_aload_n hx hb dFA_passMove_67 rfl (lv_at hl 0 rfl) ?_
    refine zr_getr (b := d0 + 1) hx hb hts zi_FA hown hK.1 hP hd0.1.1 hd0.1.2 rfl 0 (by decide) rfl (hts _ zq_114) dFA_passMove_68 ?_
    refine lv_iload_n hx hb dFA_passMove_71 rfl (lv_at hl 1 rfl) ?_
    refine lv_aload_n hx hb dFA_passMove_72 rfl (lv_at hl 0 rfl) ?_
    refine zr_getr (b := d0 + 1) hx hb hts zi_FA hown hK.1 hP hd0.1.1 hd0.1.2 rfl 0 (by decide) rfl (hts _ zq_114) dFA_passMove_73 ?_
    refine lv_iload_n hx hb dFA_passMove_76 rfl (lv_at hl 2 rfl) ?_
    obtain ⟨hi101, h⟩ := h
    refine zr_iald hx hb hK.1 hP hd0.2.1.1 hd0.2.1.2 hi101 dFA_passMove_77 ?_
    refine lv_iconst (v := 1) hx hb dFA_passMove_78 (by decide) ?_
    refine lv_iload_n hx hb dFA_passMove_79 rfl (lv_at hl 2 rfl) ?_
    refine lv_ishl hx hb dFA_passMove_80 ?_
    refine lv_ior hx hb dFA_passMove_81 ?_
    obtain ⟨hi102, h⟩ := h
    refine zr_iast hx hb hK.1 hP hS hd0.2.1.1 hd0.2.1.2 hi102 dFA_passMove_82 (fun H locs hP hS => ?_)
    obtain ⟨t103, e9⟩ : ∃ t9 : zs_T, t9 = zs_i st (d0 + 1) l1.toNatClampNeg ((st.1 (d0 + 1) l2.toNatClampNeg) ||| ((1 : Int32) <<< (l2 &&& 31))) := ⟨_, rfl⟩
    have h := h t103 e9
    have hP : zs_P g zs_ly zs_N A t103 H := by rw [e9]; exact hP
    clear e9
    refine lv_aload_n hx hb dFA_passMove_83 rfl (lv_at hl 0 rfl) ?_
    refine zr_getr (b := d0 + 2) hx hb hts zi_FA hown hK.1 hP hd0.1.1 hd0.1.2 rfl 1 (by decide) rfl (hts _ zq_117) dFA_passMove_84 ?_
    refine lv_iload_n hx hb dFA_passMove_87 rfl (lv_at hl 1 rfl) ?_
    refine lv_aload_n hx hb dFA_passMove_88 rfl (lv_at hl 0 rfl) ?_
    refine zr_getr (b := d0 + 2) hx hb hts zi_FA hown hK.1 hP hd0.1.1 hd0.1.2 rfl 1 (by decide) rfl (hts _ zq_117) dFA_passMove_89 ?_
    refine lv_iload_n hx hb dFA_passMove_92 rfl (lv_at hl 2 rfl) ?_
    obtain ⟨hi104, h⟩ := h
    refine zr_iald hx hb hK.1 hP hd0.2.2.1 hd0.2.2.2 hi104 dFA_passMove_93 ?_
    obtain ⟨hi105, h⟩ := h
    refine zr_iast hx hb hK.1 hP hS hd0.2.2.1 hd0.2.2.2 hi105 dFA_passMove_94 (fun H locs hP hS => ?_)
    obtain ⟨t106, e9⟩ : ∃ t9 : zs_T, t9 = zs_i t103 (d0 + 2) l1.toNatClampNeg (t103.1 (d0 + 2) l2.toNatClampNeg) := ⟨_, rfl⟩
    have h := h t106 e9
    have hP : zs_P g zs_ly zs_N A t106 H := by rw [e9]; exact hP
    clear e9
    refine lv_aload_n hx hb dFA_passMove_95 rfl (lv_at hl 0 rfl) ?_
    refine zr_getr (b := d0 + 1) hx hb hts zi_FA hown hK.1 hP hd0.1.1 hd0.1.2 rfl 0 (by decide) rfl (hts _ zq_114) dFA_passMove_96 ?_
    refine lv_iload_n hx hb dFA_passMove_99 rfl (lv_at hl 2 rfl) ?_
    refine lv_dup2_11 hx hb dFA_passMove_100 rfl rfl ?_
    obtain ⟨hi107, h⟩ := h
    refine zr_iald hx hb hK.1 hP hd0.2.1.1 hd0.2.1.2 hi107 dFA_passMove_101 ?_
    refine lv_iconst (v := 1) hx hb dFA_passMove_102 (by decide) ?_
    refine lv_iload_n hx hb dFA_passMove_103 rfl (lv_at hl 1 rfl) ?_
    refine lv_ishl hx hb dFA_passMove_104 ?_
    refine lv_ior hx hb dFA_passMove_105 ?_
    obtain ⟨hi108, h⟩ := h
    refine zr_iast hx hb hK.1 hP hS hd0.2.1.1 hd0.2.1.2 hi108 dFA_passMove_106 (fun H locs hP hS => ?_)
    obtain ⟨t109, e9⟩ : ∃ t9 : zs_T, t9 = zs_i t106 (d0 + 1) l2.toNatClampNeg ((t106.1 (d0 + 1) l2.toNatClampNeg) ||| ((1 : Int32) <<< (l1 &&& 31))) := ⟨_, rfl⟩
    have h := h t109 e9
    have hP : zs_P g zs_ly zs_N A t109 H := by rw [e9]; exact hP
    clear e9
    refine lv_aload_n hx hb dFA_passMove_107 rfl (lv_at hl 0 rfl) ?_
    refine lv_dup hx hb dFA_passMove_108 rfl ?_
    refine zr_geti hx hb hts zi_FA hown hK.1 hP hd0.1.1 hd0.1.2 rfl 2 (by decide) rfl (hts _ zq_120) dFA_passMove_109 ?_
    refine lv_aload_n hx hb dFA_passMove_112 rfl (lv_at hl 0 rfl) ?_
    refine zr_geti hx hb hts zi_FA hown hK.1 hP hd0.1.1 hd0.1.2 rfl 2 (by decide) rfl (hts _ zq_120) dFA_passMove_113 ?_
    refine lv_iload_n hx hb dFA_passMove_116 rfl (lv_at hl 2 rfl) ?_
    refine lv_ishr hx hb dFA_passMove_117 ?_
    refine lv_iconst (v := 1) hx hb dFA_passMove_118 (by decide) ?_
    refine lv_iand hx hb dFA_passMove_119 ?_
    refine lv_iload_n hx hb dFA_passMove_120 rfl (lv_at hl 1 rfl) ?_
    refine lv_ishl hx hb dFA_passMove_121 ?_
    refine lv_ior hx hb dFA_passMove_122 ?_
    refine zr_put hx hb hts zi_FA tyFA tyFA_ok nmFA hown hK.1 hP hS hd0.1.1 hd0.1.2 rfl 2 (by decide) rfl (hts _ zq_120) rfl rfl rfl dFA_passMove_123 (fun H locs hP hS => ?_)
    obtain ⟨t110, e9⟩ : ∃ t9 : zs_T, t9 = zs_i t109 d0 2 ((t109.1 d0 2) ||| ((((t109.1 d0 2) >>> (l2 &&& 31)) &&& 1) <<< (l1 &&& 31))) := ⟨_, rfl⟩
    have h := h t110 e9
    have hP : zs_P g zs_ly zs_N A t110 H := by rw [e9]; exact hP
    clear e9
    exact zr_vret hx hb hr hlk hP hS h dFA_passMove_126
  · have h := h.2 hc
    clear hc
    refine lv_aload_n hx hb dFA_passMove_19 rfl (lv_at hl 0 rfl) ?_
    refine zr_getr (b := d0 + 1) hx hb hts zi_FA hown hK.1 hP hd0.1.1 hd0.1.2 rfl 0 (by decide) rfl (hts _ zq_114) dFA_passMove_20 ?_
    refine lv_iload_n hx hb dFA_passMove_23 rfl (lv_at hl 3 rfl) ?_
    refine lv_dup2_11 hx hb dFA_passMove_24 rfl rfl ?_
    obtain ⟨hi111, h⟩ := h
    refine zr_iald hx hb hK.1 hP hd0.2.1.1 hd0.2.1.2 hi111 dFA_passMove_25 ?_
    refine lv_aload_n hx hb dFA_passMove_26 rfl (lv_at hl 0 rfl) ?_
    refine zr_getr (b := d0 + 1) hx hb hts zi_FA hown hK.1 hP hd0.1.1 hd0.1.2 rfl 0 (by decide) rfl (hts _ zq_114) dFA_passMove_27 ?_
    refine lv_iload_n hx hb dFA_passMove_30 rfl (lv_at hl 3 rfl) ?_
    obtain ⟨hi112, h⟩ := h
    refine zr_iald hx hb hK.1 hP hd0.2.1.1 hd0.2.1.2 hi112 dFA_passMove_31 ?_
    refine lv_iload_n hx hb dFA_passMove_32 rfl (lv_at hl 2 rfl) ?_
    refine lv_ishr hx hb dFA_passMove_33 ?_
    refine lv_iconst (v := 1) hx hb dFA_passMove_34 (by decide) ?_
    refine lv_iand hx hb dFA_passMove_35 ?_
    refine lv_iload_n hx hb dFA_passMove_36 rfl (lv_at hl 1 rfl) ?_
    refine lv_ishl hx hb dFA_passMove_37 ?_
    refine lv_ior hx hb dFA_passMove_38 ?_
    obtain ⟨hi113, h⟩ := h
    refine zr_iast hx hb hK.1 hP hS hd0.2.1.1 hd0.2.1.2 hi113 dFA_passMove_39 (fun H locs hP hS => ?_)
    obtain ⟨t114, e9⟩ : ∃ t9 : zs_T, t9 = zs_i st (d0 + 1) l3.toNatClampNeg ((st.1 (d0 + 1) l3.toNatClampNeg) ||| ((((st.1 (d0 + 1) l3.toNatClampNeg) >>> (l2 &&& 31)) &&& 1) <<< (l1 &&& 31))) := ⟨_, rfl⟩
    have h := h t114 e9
    have hP : zs_P g zs_ly zs_N A t114 H := by rw [e9]; exact hP
    clear e9
    refine lv_aload_n hx hb dFA_passMove_40 rfl (lv_at hl 0 rfl) ?_
    refine zr_getr (b := d0 + 2) hx hb hts zi_FA hown hK.1 hP hd0.1.1 hd0.1.2 rfl 1 (by decide) rfl (hts _ zq_117) dFA_passMove_41 ?_
    refine lv_iload_n hx hb dFA_passMove_44 rfl (lv_at hl 3 rfl) ?_
    refine lv_dup2_11 hx hb dFA_passMove_45 rfl rfl ?_
    obtain ⟨hi115, h⟩ := h
    refine zr_iald hx hb hK.1 hP hd0.2.2.1 hd0.2.2.2 hi115 dFA_passMove_46 ?_
    refine lv_aload_n hx hb dFA_passMove_47 rfl (lv_at hl 0 rfl) ?_
    refine zr_getr (b := d0 + 2) hx hb hts zi_FA hown hK.1 hP hd0.1.1 hd0.1.2 rfl 1 (by decide) rfl (hts _ zq_117) dFA_passMove_48 ?_
    refine lv_iload_n hx hb dFA_passMove_51 rfl (lv_at hl 3 rfl) ?_
    obtain ⟨hi116, h⟩ := h
    refine zr_iald hx hb hK.1 hP hd0.2.2.1 hd0.2.2.2 hi116 dFA_passMove_52 ?_
    refine lv_iload_n hx hb dFA_passMove_53 rfl (lv_at hl 2 rfl) ?_
    refine lv_ishr hx hb dFA_passMove_54 ?_
    refine lv_iconst (v := 1) hx hb dFA_passMove_55 (by decide) ?_
    refine lv_iand hx hb dFA_passMove_56 ?_
    refine lv_iload_n hx hb dFA_passMove_57 rfl (lv_at hl 1 rfl) ?_
    refine lv_ishl hx hb dFA_passMove_58 ?_
    refine lv_ior hx hb dFA_passMove_59 ?_
    obtain ⟨hi117, h⟩ := h
    refine zr_iast hx hb hK.1 hP hS hd0.2.2.1 hd0.2.2.2 hi117 dFA_passMove_60 (fun H locs hP hS => ?_)
    obtain ⟨t118, e9⟩ : ∃ t9 : zs_T, t9 = zs_i t114 (d0 + 2) l3.toNatClampNeg ((t114.1 (d0 + 2) l3.toNatClampNeg) ||| ((((t114.1 (d0 + 2) l3.toNatClampNeg) >>> (l2 &&& 31)) &&& 1) <<< (l1 &&& 31))) := ⟨_, rfl⟩
    have h := h t118 e9
    have hP : zs_P g zs_ly zs_N A t118 H := by rw [e9]; exact hP
    clear e9
    refine lv_iinc (k := 3) (v := l3 + 1) hx hb dFA_passMove_61 hl rfl (by rw [show Int32.ofInt (1) = 1 from by decide]) (by decide) rfl (fun ls hl => ?_)
    have hl : lv_has ls 4 [(3, .int (l3 + 1)), (0, .ref (g.2.1 d0)), (1, .int l1), (2, .int l2)] := hl
    refine lv_goto (tgt := 13) hx hb dFA_passMove_64 rfl ?_
    exact hB13 l1 l2 (l3 + 1) t118 h ls H locs (lv_sub hl [1, 2, 3, 0] rfl) hP hS
theorem zw_FA_passMove_13 (hM : zs_M p c cFA_passMove 4 s m meth args "ThriftyStores$Facts" none g) {d0 : Nat} (hd0 : zs_Fa d0) {K : zs_T → Prop}   : ∀ (n : Nat) (l1 : Int32) (l2 : Int32) (l3 : Int32) (st : zs_T), zf_FA_passMove_13 d0 K n l1 l2 l3 st → zs_Go p l e (zs_rm 1 23) s m args below meth c g A (MQ below (zs_Qv g zs_ly zs_N A K) args s 0 0 A) 4 13 [(0, .ref (g.2.1 d0)), (1, .int l1), (2, .int l2), (3, .int l3)] [] st := by
  intro n
  induction n with
  | zero => intro l1 l2 l3 st h; exact False.elim h
  | succ n ih => intro l1 l2 l3 st h; exact zw_FA_passMove_13_s hM hd0 ih l1 l2 l3 st h
set_option maxHeartbeats 4000000 in
set_option maxRecDepth 100000 in
theorem zc_FA_passMove (l : Launch) (g : zs_G) (A : Nat → Prop) {d0 : Nat} {l1 : Int32} {l2 : Int32} (hd0 : zs_Fa d0) {st : zs_T} {K : zs_T → Prop} (h : zf_FA_passMove d0 l1 l2 st K) : Met l yFA_passMove (.code yFA_passMove cFA_passMove 4 none :: zs_tb) (zs_rm 1 23) (zs_Pc zs_nl g zs_ly zs_N A [.ref (g.2.1 d0), .int l1, .int l2] st) (zs_Qv g zs_ly zs_N A K) 0 0 A := by
  refine zs_met (cc := cFA_passMove) (maxL := 4) (ret := none) (by decide) (Nat.le_of_ble_eq_true rfl) (fun p e s m below meth c hM => ?_)
  have hM : zs_M p c cFA_passMove 4 s m meth [.ref (g.2.1 d0), .int l1, .int l2].toArray "ThriftyStores$Facts" none g := hM
  obtain ⟨hx, hb, hml, hr, hlk, hts, hown, hK⟩ := id hM
  intro ls H locs hl hP hS
  have hl : lv_has ls 4 [(0, .ref (g.2.1 d0)), (1, .int l1), (2, .int l2)] := hl
  unfold zf_FA_passMove at h
  refine lv_iload_n hx hb dFA_passMove_0 rfl (lv_at hl 1 rfl) ?_
  refine lv_iload_n hx hb dFA_passMove_1 rfl (lv_at hl 2 rfl) ?_
  refine lv_icmp_ne (tgt := 6) hx hb dFA_passMove_2 rfl (fun hc => ?_) (fun hc => ?_)
  · have h := h.1 hc
    clear hc
    refine lv_aload_n hx hb dFA_passMove_6 rfl (lv_at hl 0 rfl) ?_
    refine lv_iload_n hx hb dFA_passMove_7 rfl (lv_at hl 1 rfl) ?_
    refine zr_callv (va_runV (As := [.int l1]) (rest := []) ⟨hx, hb, hml, hown, hts⟩ (zc_FA_forget l g A hd0 h) (cwV 1 hts (zs_gV zq_463 zq_465 zp_14 zq_5 zq_466) rfl rfl rfl ⟨rfl, by decide, by decide, by decide +kernel⟩ ⟨Nat.le_of_ble_eq_true rfl, Nat.le_of_ble_eq_true rfl⟩) (zs_preV zs_nwk hK hP hd0.1.1 hd0.1.2 rfl) rfl rfl hl.1 rfl (lv_room (Nat.le_of_ble_eq_true rfl)) dFA_passMove_8 ⟨Nat.le_refl _, Nat.le_refl _⟩) hS (fun u1 H locs h hP hS => ?_)
    refine lv_iconst (v := 0) hx hb dFA_passMove_11 (by decide) ?_
    refine lv_istore_n hx hb dFA_passMove_12 rfl hl (by decide) rfl (fun ls hl => ?_)
    have hl : lv_has ls 4 [(3, .int 0), (0, .ref (g.2.1 d0)), (1, .int l1), (2, .int l2)] := hl
    obtain ⟨n, h⟩ := h
    exact zw_FA_passMove_13 hM hd0 n l1 l2 0 u1 h ls H locs (lv_sub hl [1, 2, 3, 0] rfl) hP hS
  · have h := h.2 hc
    clear hc
    exact zr_vret hx hb hr hlk hP hS h dFA_passMove_5
set_option maxHeartbeats 4000000 in
set_option maxRecDepth 100000 in
theorem zw_FA_passLoad_57_s (hM : zs_M p c cFA_passLoad 6 s m meth args "ThriftyStores$Facts" none g) {d0 : Nat} (hd0 : zs_Fa d0) {K : zs_T → Prop}  {B57 : Int32 → Int32 → Int32 → Int32 → zs_T → Prop}  (hB57 : ∀ (l1 : Int32) (l3 : Int32) (l4 : Int32) (l5 : Int32) (st : zs_T), B57 l1 l3 l4 l5 st → zs_Go p l e (zs_rm 1 23) s m args below meth c g A (MQ below (zs_Qv g zs_ly zs_N A K) args s 0 0 A) 6 57 [(0, .ref (g.2.1 d0)), (1, .int l1), (3, .int l3), (4, .int l4), (5, .int l5)] [] st) (l1 : Int32) (l3 : Int32) (l4 : Int32) (l5 : Int32) (st : zs_T) (h : zf_FA_passLoad_57_s d0 K B57 l1 l3 l4 l5 st) : zs_Go p l e (zs_rm 1 23) s m args below meth c g A (MQ below (zs_Qv g zs_ly zs_N A K) args s 0 0 A) 6 57 [(0, .ref (g.2.1 d0)), (1, .int l1), (3, .int l3), (4, .int l4), (5, .int l5)] [] st := by
  obtain ⟨hx, hb, hml, hr, hlk, hts, hown, hK⟩ := id hM
  intro ls H locs hl hP hS
  unfold zf_FA_passLoad_57_s at h
  refine lv_iload hx hb dFA_passLoad_57 (lv_at hl 4 rfl) ?_
  refine lv_bipush (v := 16) hx hb dFA_passLoad_59 (by decide) ?_
  refine lv_icmp_ge (tgt := 107) hx hb dFA_passLoad_61 rfl (fun hc => ?_) (fun hc => ?_)
  · have h := h.1 hc
    clear hc
    exact zr_vret hx hb hr hlk hP hS h dFA_passLoad_107
  · have h := h.2 hc
    clear hc
    refine lv_aload_n hx hb dFA_passLoad_64 rfl (lv_at hl 0 rfl) ?_
    refine zr_getr (b := d0 + 2) hx hb hts zi_FA hown hK.1 hP hd0.1.1 hd0.1.2 rfl 1 (by decide) rfl (hts _ zq_117) dFA_passLoad_65 ?_
    refine lv_iload hx hb dFA_passLoad_68 (lv_at hl 4 rfl) ?_
    refine lv_dup2_11 hx hb dFA_passLoad_70 rfl rfl ?_
    obtain ⟨hi101, h⟩ := h
    refine zr_iald hx hb hK.1 hP hd0.2.2.1 hd0.2.2.2 hi101 dFA_passLoad_71 ?_
    refine lv_iload_n hx hb dFA_passLoad_72 rfl (lv_at hl 2 rfl) ?_
    refine lv_iload hx hb dFA_passLoad_73 (lv_at hl 4 rfl) ?_
    refine lv_ishr hx hb dFA_passLoad_75 ?_
    refine lv_iconst (v := 1) hx hb dFA_passLoad_76 (by decide) ?_
    refine lv_iand hx hb dFA_passLoad_77 ?_
    refine lv_iload_n hx hb dFA_passLoad_78 rfl (lv_at hl 1 rfl) ?_
    refine lv_ishl hx hb dFA_passLoad_79 ?_
    refine lv_ior hx hb dFA_passLoad_80 ?_
    obtain ⟨hi102, h⟩ := h
    refine zr_iast hx hb hK.1 hP hS hd0.2.2.1 hd0.2.2.2 hi102 dFA_passLoad_81 (fun H locs hP hS => ?_)
    obtain ⟨t103, e9⟩ : ∃ t9 : zs_T, t9 = zs_i st (d0 + 2) l5.toNatClampNeg ((st.1 (d0 + 2) l5.toNatClampNeg) ||| (((l3 >>> (l5 &&& 31)) &&& 1) <<< (l1 &&& 31))) := ⟨_, rfl⟩
    have h := h t103 e9
    have hP : zs_P g zs_ly zs_N A t103 H := by rw [e9]; exact hP
    clear e9
    refine lv_aload_n hx hb dFA_passLoad_82 rfl (lv_at hl 0 rfl) ?_
    refine zr_getr (b := d0 + 1) hx hb hts zi_FA hown hK.1 hP hd0.1.1 hd0.1.2 rfl 0 (by decide) rfl (hts _ zq_114) dFA_passLoad_83 ?_
    refine lv_iload hx hb dFA_passLoad_86 (lv_at hl 4 rfl) ?_
    refine lv_dup2_11 hx hb dFA_passLoad_88 rfl rfl ?_
    obtain ⟨hi104, h⟩ := h
    refine zr_iald hx hb hK.1 hP hd0.2.1.1 hd0.2.1.2 hi104 dFA_passLoad_89 ?_
    refine lv_iload hx hb dFA_passLoad_90 (lv_at hl 3 rfl) ?_
    refine lv_iload hx hb dFA_passLoad_92 (lv_at hl 4 rfl) ?_
    refine lv_ishr hx hb dFA_passLoad_94 ?_
    refine lv_iconst (v := 1) hx hb dFA_passLoad_95 (by decide) ?_
    refine lv_iand hx hb dFA_passLoad_96 ?_
    refine lv_iload_n hx hb dFA_passLoad_97 rfl (lv_at hl 1 rfl) ?_
    refine lv_ishl hx hb dFA_passLoad_98 ?_
    refine lv_ior hx hb dFA_passLoad_99 ?_
    obtain ⟨hi105, h⟩ := h
    refine zr_iast hx hb hK.1 hP hS hd0.2.1.1 hd0.2.1.2 hi105 dFA_passLoad_100 (fun H locs hP hS => ?_)
    obtain ⟨t106, e9⟩ : ∃ t9 : zs_T, t9 = zs_i t103 (d0 + 1) l5.toNatClampNeg ((t103.1 (d0 + 1) l5.toNatClampNeg) ||| (((l4 >>> (l5 &&& 31)) &&& 1) <<< (l1 &&& 31))) := ⟨_, rfl⟩
    have h := h t106 e9
    have hP : zs_P g zs_ly zs_N A t106 H := by rw [e9]; exact hP
    clear e9
    refine lv_iinc (k := 4) (v := l5 + 1) hx hb dFA_passLoad_101 hl rfl (by rw [show Int32.ofInt (1) = 1 from by decide]) (by decide) rfl (fun ls hl => ?_)
    have hl : lv_has ls 6 [(5, .int (l5 + 1)), (0, .ref (g.2.1 d0)), (1, .int l1), (3, .int l3), (4, .int l4)] := hl
    refine lv_goto (tgt := 57) hx hb dFA_passLoad_104 rfl ?_
    exact hB57 l1 l3 l4 (l5 + 1) t106 h ls H locs (lv_sub hl [1, 2, 3, 4, 0] rfl) hP hS
theorem zw_FA_passLoad_57 (hM : zs_M p c cFA_passLoad 6 s m meth args "ThriftyStores$Facts" none g) {d0 : Nat} (hd0 : zs_Fa d0) {K : zs_T → Prop}   : ∀ (n : Nat) (l1 : Int32) (l3 : Int32) (l4 : Int32) (l5 : Int32) (st : zs_T), zf_FA_passLoad_57 d0 K n l1 l3 l4 l5 st → zs_Go p l e (zs_rm 1 23) s m args below meth c g A (MQ below (zs_Qv g zs_ly zs_N A K) args s 0 0 A) 6 57 [(0, .ref (g.2.1 d0)), (1, .int l1), (3, .int l3), (4, .int l4), (5, .int l5)] [] st := by
  intro n
  induction n with
  | zero => intro l1 l3 l4 l5 st h; exact False.elim h
  | succ n ih => intro l1 l3 l4 l5 st h; exact zw_FA_passLoad_57_s hM hd0 ih l1 l3 l4 l5 st h
set_option maxHeartbeats 4000000 in
set_option maxRecDepth 100000 in
theorem zc_FA_passLoad (l : Launch) (g : zs_G) (A : Nat → Prop) {d0 : Nat} {l1 : Int32} {l2 : Int32} (hd0 : zs_Fa d0) {st : zs_T} {K : zs_T → Prop} (h : zf_FA_passLoad d0 l1 l2 st K) : Met l yFA_passLoad (.code yFA_passLoad cFA_passLoad 6 none :: zs_tb) (zs_rm 1 23) (zs_Pc zs_nl g zs_ly zs_N A [.ref (g.2.1 d0), .int l1, .int l2] st) (zs_Qv g zs_ly zs_N A K) 0 0 A := by
  refine zs_met (cc := cFA_passLoad) (maxL := 6) (ret := none) (by decide) (Nat.le_of_ble_eq_true rfl) (fun p e s m below meth c hM => ?_)
  have hM : zs_M p c cFA_passLoad 6 s m meth [.ref (g.2.1 d0), .int l1, .int l2].toArray "ThriftyStores$Facts" none g := hM
  obtain ⟨hx, hb, hml, hr, hlk, hts, hown, hK⟩ := id hM
  intro ls H locs hl hP hS
  have hl : lv_has ls 6 [(0, .ref (g.2.1 d0)), (1, .int l1), (2, .int l2)] := hl
  unfold zf_FA_passLoad at h
  refine lv_aload_n hx hb dFA_passLoad_0 rfl (lv_at hl 0 rfl) ?_
  refine zr_getr (b := d0 + 1) hx hb hts zi_FA hown hK.1 hP hd0.1.1 hd0.1.2 rfl 0 (by decide) rfl (hts _ zq_114) dFA_passLoad_1 ?_
  refine lv_iload_n hx hb dFA_passLoad_4 rfl (lv_at hl 2 rfl) ?_
  obtain ⟨hi1, h⟩ := h
  refine zr_iald hx hb hK.1 hP hd0.2.1.1 hd0.2.1.2 hi1 dFA_passLoad_5 ?_
  refine lv_iconst (v := 1) hx hb dFA_passLoad_6 (by decide) ?_
  refine lv_iload_n hx hb dFA_passLoad_7 rfl (lv_at hl 2 rfl) ?_
  refine lv_ishl hx hb dFA_passLoad_8 ?_
  refine lv_ior hx hb dFA_passLoad_9 ?_
  refine lv_iconst (v := 1) hx hb dFA_passLoad_10 (by decide) ?_
  refine lv_iload_n hx hb dFA_passLoad_11 rfl (lv_at hl 1 rfl) ?_
  refine lv_ishl hx hb dFA_passLoad_12 ?_
  refine lv_iconst (v := (-1)) hx hb dFA_passLoad_13 (by decide) ?_
  refine lv_ixor hx hb dFA_passLoad_14 ?_
  refine lv_iand hx hb dFA_passLoad_15 ?_
  refine lv_istore_n hx hb dFA_passLoad_16 rfl hl (by decide) rfl (fun ls hl => ?_)
  have hl : lv_has ls 6 [(3, .int (((st.1 (d0 + 1) l2.toNatClampNeg) ||| ((1 : Int32) <<< (l2 &&& 31))) &&& (((1 : Int32) <<< (l1 &&& 31)) ^^^ (-1)))), (0, .ref (g.2.1 d0)), (1, .int l1), (2, .int l2)] := hl
  refine lv_aload_n hx hb dFA_passLoad_17 rfl (lv_at hl 1 rfl) ?_
  refine zr_getr (b := d0 + 2) hx hb hts zi_FA hown hK.1 hP hd0.1.1 hd0.1.2 rfl 1 (by decide) rfl (hts _ zq_117) dFA_passLoad_18 ?_
  refine lv_iload_n hx hb dFA_passLoad_21 rfl (lv_at hl 3 rfl) ?_
  obtain ⟨hi2, h⟩ := h
  refine zr_iald hx hb hK.1 hP hd0.2.2.1 hd0.2.2.2 hi2 dFA_passLoad_22 ?_
  refine lv_iconst (v := 1) hx hb dFA_passLoad_23 (by decide) ?_
  refine lv_iload_n hx hb dFA_passLoad_24 rfl (lv_at hl 2 rfl) ?_
  refine lv_ishl hx hb dFA_passLoad_25 ?_
  refine lv_iconst (v := (-1)) hx hb dFA_passLoad_26 (by decide) ?_
  refine lv_ixor hx hb dFA_passLoad_27 ?_
  refine lv_iand hx hb dFA_passLoad_28 ?_
  refine lv_istore hx hb dFA_passLoad_29 hl (by decide) rfl (fun ls hl => ?_)
  have hl : lv_has ls 6 [(4, .int ((st.1 (d0 + 2) l2.toNatClampNeg) &&& (((1 : Int32) <<< (l1 &&& 31)) ^^^ (-1)))), (3, .int (((st.1 (d0 + 1) l2.toNatClampNeg) ||| ((1 : Int32) <<< (l2 &&& 31))) &&& (((1 : Int32) <<< (l1 &&& 31)) ^^^ (-1)))), (0, .ref (g.2.1 d0)), (1, .int l1), (2, .int l2)] := hl
  refine lv_aload_n hx hb dFA_passLoad_31 rfl (lv_at hl 2 rfl) ?_
  refine lv_iload_n hx hb dFA_passLoad_32 rfl (lv_at hl 3 rfl) ?_
  refine zr_callv (va_runV (As := [.int l1]) (rest := []) ⟨hx, hb, hml, hown, hts⟩ (zc_FA_forget l g A hd0 h) (cwV 1 hts (zs_gV zq_463 zq_465 zp_14 zq_5 zq_466) rfl rfl rfl ⟨rfl, by decide, by decide, by decide +kernel⟩ ⟨Nat.le_of_ble_eq_true rfl, Nat.le_of_ble_eq_true rfl⟩) (zs_preV zs_nwk hK hP hd0.1.1 hd0.1.2 rfl) rfl rfl hl.1 rfl (lv_room (Nat.le_of_ble_eq_true rfl)) dFA_passLoad_33 ⟨Nat.le_refl _, Nat.le_refl _⟩) hS (fun u3 H locs h hP hS => ?_)
  refine lv_aload_n hx hb dFA_passLoad_36 rfl (lv_at hl 2 rfl) ?_
  refine lv_dup hx hb dFA_passLoad_37 rfl ?_
  refine zr_geti hx hb hts zi_FA hown hK.1 hP hd0.1.1 hd0.1.2 rfl 2 (by decide) rfl (hts _ zq_120) dFA_passLoad_38 ?_
  refine lv_iload_n hx hb dFA_passLoad_41 rfl (lv_at hl 1 rfl) ?_
  refine lv_ior hx hb dFA_passLoad_42 ?_
  refine zr_put hx hb hts zi_FA tyFA tyFA_ok nmFA hown hK.1 hP hS hd0.1.1 hd0.1.2 rfl 2 (by decide) rfl (hts _ zq_120) rfl rfl rfl dFA_passLoad_43 (fun H locs hP hS => ?_)
  obtain ⟨t4, e9⟩ : ∃ t9 : zs_T, t9 = zs_i u3 d0 2 ((u3.1 d0 2) ||| (((st.1 (d0 + 1) l2.toNatClampNeg) ||| ((1 : Int32) <<< (l2 &&& 31))) &&& (((1 : Int32) <<< (l1 &&& 31)) ^^^ (-1)))) := ⟨_, rfl⟩
  have h := h t4 e9
  have hP : zs_P g zs_ly zs_N A t4 H := by rw [e9]; exact hP
  clear e9
  refine lv_aload_n hx hb dFA_passLoad_46 rfl (lv_at hl 2 rfl) ?_
  refine zr_getr (b := d0 + 1) hx hb hts zi_FA hown hK.1 hP hd0.1.1 hd0.1.2 rfl 0 (by decide) rfl (hts _ zq_114) dFA_passLoad_47 ?_
  refine lv_iload_n hx hb dFA_passLoad_50 rfl (lv_at hl 3 rfl) ?_
  refine lv_iload hx hb dFA_passLoad_51 (lv_at hl 0 rfl) ?_
  obtain ⟨hi5, h⟩ := h
  refine zr_iast hx hb hK.1 hP hS hd0.2.1.1 hd0.2.1.2 hi5 dFA_passLoad_53 (fun H locs hP hS => ?_)
  obtain ⟨t6, e9⟩ : ∃ t9 : zs_T, t9 = zs_i t4 (d0 + 1) l1.toNatClampNeg ((st.1 (d0 + 2) l2.toNatClampNeg) &&& (((1 : Int32) <<< (l1 &&& 31)) ^^^ (-1))) := ⟨_, rfl⟩
  have h := h t6 e9
  have hP : zs_P g zs_ly zs_N A t6 H := by rw [e9]; exact hP
  clear e9
  refine lv_iconst (v := 0) hx hb dFA_passLoad_54 (by decide) ?_
  refine lv_istore hx hb dFA_passLoad_55 hl (by decide) rfl (fun ls hl => ?_)
  have hl : lv_has ls 6 [(5, .int 0), (4, .int ((st.1 (d0 + 2) l2.toNatClampNeg) &&& (((1 : Int32) <<< (l1 &&& 31)) ^^^ (-1)))), (3, .int (((st.1 (d0 + 1) l2.toNatClampNeg) ||| ((1 : Int32) <<< (l2 &&& 31))) &&& (((1 : Int32) <<< (l1 &&& 31)) ^^^ (-1)))), (0, .ref (g.2.1 d0)), (1, .int l1), (2, .int l2)] := hl
  obtain ⟨n, h⟩ := h
  exact zw_FA_passLoad_57 hM hd0 n l1 (((st.1 (d0 + 1) l2.toNatClampNeg) ||| ((1 : Int32) <<< (l2 &&& 31))) &&& (((1 : Int32) <<< (l1 &&& 31)) ^^^ (-1))) ((st.1 (d0 + 2) l2.toNatClampNeg) &&& (((1 : Int32) <<< (l1 &&& 31)) ^^^ (-1))) 0 t6 h ls H locs (lv_sub hl [3, 4, 2, 1, 0] rfl) hP hS
set_option maxHeartbeats 4000000 in
set_option maxRecDepth 100000 in
theorem zw_FA_passStore_77 (hM : zs_M p c cFA_passStore 7 s m meth args "ThriftyStores$Facts" none g) {d0 : Nat} (hd0 : zs_Fa d0) {K : zs_T → Prop} {B27 : Int32 → Int32 → Int32 → Int32 → zs_T → Prop} (hB27 : ∀ (l3 : Int32) (l4 : Int32) (l5 : Int32) (l6 : Int32) (st : zs_T), B27 l3 l4 l5 l6 st → zs_Go p l e (zs_rm 0 0) s m args below meth c g A (MQ below (zs_Qv g zs_ly zs_N A K) args s 0 0 A) 7 27 [(0, .ref (g.2.1 d0)), (3, .int l3), (4, .int l4), (5, .int l5), (6, .int l6)] [] st) (l3 : Int32) (l4 : Int32) (l5 : Int32) (l6 : Int32) (st : zs_T) (h : zf_FA_passStore_77 d0 K B27 l3 l4 l5 l6 st) : zs_Go p l e (zs_rm 0 0) s m args below meth c g A (MQ below (zs_Qv g zs_ly zs_N A K) args s 0 0 A) 7 77 [(0, .ref (g.2.1 d0)), (3, .int l3), (4, .int l4), (5, .int l5), (6, .int l6)] [] st := by
  obtain ⟨hx, hb, hml, hr, hlk, hts, hown, hK⟩ := id hM
  intro ls H locs hl hP hS
  unfold zf_FA_passStore_77 at h
  refine lv_iinc (k := 4) (v := l6 + 1) hx hb dFA_passStore_77 hl rfl (by rw [show Int32.ofInt (1) = 1 from by decide]) (by decide) rfl (fun ls hl => ?_)
  have hl : lv_has ls 7 [(6, .int (l6 + 1)), (0, .ref (g.2.1 d0)), (3, .int l3), (4, .int l4), (5, .int l5)] := hl
  refine lv_goto (tgt := 27) hx hb dFA_passStore_80 rfl ?_
  exact hB27 l3 l4 l5 (l6 + 1) st h ls H locs (lv_sub hl [1, 2, 3, 4, 0] rfl) hP hS
set_option maxHeartbeats 4000000 in
set_option maxRecDepth 100000 in
theorem zw_FA_passStore_55 (hM : zs_M p c cFA_passStore 7 s m meth args "ThriftyStores$Facts" none g) {d0 : Nat} (hd0 : zs_Fa d0) {K : zs_T → Prop} {B27 : Int32 → Int32 → Int32 → Int32 → zs_T → Prop} (hB27 : ∀ (l3 : Int32) (l4 : Int32) (l5 : Int32) (l6 : Int32) (st : zs_T), B27 l3 l4 l5 l6 st → zs_Go p l e (zs_rm 0 0) s m args below meth c g A (MQ below (zs_Qv g zs_ly zs_N A K) args s 0 0 A) 7 27 [(0, .ref (g.2.1 d0)), (3, .int l3), (4, .int l4), (5, .int l5), (6, .int l6)] [] st) (l3 : Int32) (l4 : Int32) (l5 : Int32) (l6 : Int32) (st : zs_T) (h : zf_FA_passStore_55 d0 K B27 l3 l4 l5 l6 st) : zs_Go p l e (zs_rm 0 0) s m args below meth c g A (MQ below (zs_Qv g zs_ly zs_N A K) args s 0 0 A) 7 55 [(0, .ref (g.2.1 d0)), (3, .int l3), (4, .int l4), (5, .int l5), (6, .int l6)] [] st := by
  obtain ⟨hx, hb, hml, hr, hlk, hts, hown, hK⟩ := id hM
  intro ls H locs hl hP hS
  unfold zf_FA_passStore_55 at h
  refine lv_iload hx hb dFA_passStore_55 (lv_at hl 2 rfl) ?_
  refine lv_iload hx hb dFA_passStore_57 (lv_at hl 4 rfl) ?_
  refine lv_ishr hx hb dFA_passStore_59 ?_
  refine lv_iconst (v := 1) hx hb dFA_passStore_60 (by decide) ?_
  refine lv_iand hx hb dFA_passStore_61 ?_
  refine lv_if_eq (tgt := 77) hx hb dFA_passStore_62 rfl (fun hc => ?_) (fun hc => ?_)
  · have h := h.1 hc
    clear hc
    exact zw_FA_passStore_77 hM hd0 hB27 l3 l4 l5 l6 st h ls H locs (lv_sub hl [0, 1, 2, 3, 4] rfl) hP hS
  · have h := h.2 hc
    clear hc
    refine lv_aload_n hx hb dFA_passStore_65 rfl (lv_at hl 0 rfl) ?_
    refine zr_getr (b := d0 + 2) hx hb hts zi_FA hown hK.1 hP hd0.1.1 hd0.1.2 rfl 1 (by decide) rfl (hts _ zq_117) dFA_passStore_66 ?_
    refine lv_iload hx hb dFA_passStore_69 (lv_at hl 4 rfl) ?_
    refine lv_dup2_11 hx hb dFA_passStore_71 rfl rfl ?_
    obtain ⟨hi201, h⟩ := h
    refine zr_iald hx hb hK.1 hP hd0.2.2.1 hd0.2.2.2 hi201 dFA_passStore_72 ?_
    refine lv_iload hx hb dFA_passStore_73 (lv_at hl 3 rfl) ?_
    refine lv_ior hx hb dFA_passStore_75 ?_
    obtain ⟨hi202, h⟩ := h
    refine zr_iast hx hb hK.1 hP hS hd0.2.2.1 hd0.2.2.2 hi202 dFA_passStore_76 (fun H locs hP hS => ?_)
    obtain ⟨t203, e9⟩ : ∃ t9 : zs_T, t9 = zs_i st (d0 + 2) l6.toNatClampNeg ((st.1 (d0 + 2) l6.toNatClampNeg) ||| l5) := ⟨_, rfl⟩
    have h := h t203 e9
    have hP : zs_P g zs_ly zs_N A t203 H := by rw [e9]; exact hP
    clear e9
    exact zw_FA_passStore_77 hM hd0 hB27 l3 l4 l5 l6 t203 h ls H locs (lv_sub hl [0, 1, 2, 3, 4] rfl) hP hS
set_option maxHeartbeats 4000000 in
set_option maxRecDepth 100000 in
theorem zw_FA_passStore_27_s (hM : zs_M p c cFA_passStore 7 s m meth args "ThriftyStores$Facts" none g) {d0 : Nat} (hd0 : zs_Fa d0) {K : zs_T → Prop}  {B27 : Int32 → Int32 → Int32 → Int32 → zs_T → Prop}  (hB27 : ∀ (l3 : Int32) (l4 : Int32) (l5 : Int32) (l6 : Int32) (st : zs_T), B27 l3 l4 l5 l6 st → zs_Go p l e (zs_rm 0 0) s m args below meth c g A (MQ below (zs_Qv g zs_ly zs_N A K) args s 0 0 A) 7 27 [(0, .ref (g.2.1 d0)), (3, .int l3), (4, .int l4), (5, .int l5), (6, .int l6)] [] st) (l3 : Int32) (l4 : Int32) (l5 : Int32) (l6 : Int32) (st : zs_T) (h : zf_FA_passStore_27_s d0 K B27 l3 l4 l5 l6 st) : zs_Go p l e (zs_rm 0 0) s m args below meth c g A (MQ below (zs_Qv g zs_ly zs_N A K) args s 0 0 A) 7 27 [(0, .ref (g.2.1 d0)), (3, .int l3), (4, .int l4), (5, .int l5), (6, .int l6)] [] st := by
  obtain ⟨hx, hb, hml, hr, hlk, hts, hown, hK⟩ := id hM
  intro ls H locs hl hP hS
  unfold zf_FA_passStore_27_s at h
  refine lv_iload hx hb dFA_passStore_27 (lv_at hl 4 rfl) ?_
  refine lv_bipush (v := 16) hx hb dFA_passStore_29 (by decide) ?_
  refine lv_icmp_ge (tgt := 83) hx hb dFA_passStore_31 rfl (fun hc => ?_) (fun hc => ?_)
  · have h := h.1 hc
    clear hc
    refine lv_aload_n hx hb dFA_passStore_83 rfl (lv_at hl 0 rfl) ?_
    refine lv_dup hx hb dFA_passStore_84 rfl ?_
    refine zr_geti hx hb hts zi_FA hown hK.1 hP hd0.1.1 hd0.1.2 rfl 2 (by decide) rfl (hts _ zq_120) dFA_passStore_85 ?_
    refine lv_iload hx hb dFA_passStore_88 (lv_at hl 2 rfl) ?_
    refine lv_ior hx hb dFA_passStore_90 ?_
    refine zr_put hx hb hts zi_FA tyFA tyFA_ok nmFA hown hK.1 hP hS hd0.1.1 hd0.1.2 rfl 2 (by decide) rfl (hts _ zq_120) rfl rfl rfl dFA_passStore_91 (fun H locs hP hS => ?_)
    obtain ⟨t101, e9⟩ : ∃ t9 : zs_T, t9 = zs_i st d0 2 ((st.1 d0 2) ||| l4) := ⟨_, rfl⟩
    have h := h t101 e9
    have hP : zs_P g zs_ly zs_N A t101 H := by rw [e9]; exact hP
    clear e9
    exact zr_vret hx hb hr hlk hP hS h dFA_passStore_94
  · have h := h.2 hc
    clear hc
    refine lv_iload_n hx hb dFA_passStore_34 rfl (lv_at hl 1 rfl) ?_
    refine lv_iload hx hb dFA_passStore_35 (lv_at hl 4 rfl) ?_
    refine lv_ishr hx hb dFA_passStore_37 ?_
    refine lv_iconst (v := 1) hx hb dFA_passStore_38 (by decide) ?_
    refine lv_iand hx hb dFA_passStore_39 ?_
    refine lv_if_eq (tgt := 55) hx hb dFA_passStore_40 rfl (fun hc => ?_) (fun hc => ?_)
    · have h := h.1 hc
      clear hc
      exact zw_FA_passStore_55 hM hd0 hB27 l3 l4 l5 l6 st h ls H locs (lv_sub hl [0, 1, 2, 3, 4] rfl) hP hS
    · have h := h.2 hc
      clear hc
      refine lv_aload_n hx hb dFA_passStore_43 rfl (lv_at hl 0 rfl) ?_
      refine zr_getr (b := d0 + 2) hx hb hts zi_FA hown hK.1 hP hd0.1.1 hd0.1.2 rfl 1 (by decide) rfl (hts _ zq_117) dFA_passStore_44 ?_
      refine lv_iload hx hb dFA_passStore_47 (lv_at hl 4 rfl) ?_
      refine lv_dup2_11 hx hb dFA_passStore_49 rfl rfl ?_
      obtain ⟨hi102, h⟩ := h
      refine zr_iald hx hb hK.1 hP hd0.2.2.1 hd0.2.2.2 hi102 dFA_passStore_50 ?_
      refine lv_iload hx hb dFA_passStore_51 (lv_at hl 3 rfl) ?_
      refine lv_iand hx hb dFA_passStore_53 ?_
      obtain ⟨hi103, h⟩ := h
      refine zr_iast hx hb hK.1 hP hS hd0.2.2.1 hd0.2.2.2 hi103 dFA_passStore_54 (fun H locs hP hS => ?_)
      obtain ⟨t104, e9⟩ : ∃ t9 : zs_T, t9 = zs_i st (d0 + 2) l6.toNatClampNeg ((st.1 (d0 + 2) l6.toNatClampNeg) &&& l5) := ⟨_, rfl⟩
      have h := h t104 e9
      have hP : zs_P g zs_ly zs_N A t104 H := by rw [e9]; exact hP
      clear e9
      exact zw_FA_passStore_55 hM hd0 hB27 l3 l4 l5 l6 t104 h ls H locs (lv_sub hl [0, 1, 2, 3, 4] rfl) hP hS
theorem zw_FA_passStore_27 (hM : zs_M p c cFA_passStore 7 s m meth args "ThriftyStores$Facts" none g) {d0 : Nat} (hd0 : zs_Fa d0) {K : zs_T → Prop}   : ∀ (n : Nat) (l3 : Int32) (l4 : Int32) (l5 : Int32) (l6 : Int32) (st : zs_T), zf_FA_passStore_27 d0 K n l3 l4 l5 l6 st → zs_Go p l e (zs_rm 0 0) s m args below meth c g A (MQ below (zs_Qv g zs_ly zs_N A K) args s 0 0 A) 7 27 [(0, .ref (g.2.1 d0)), (3, .int l3), (4, .int l4), (5, .int l5), (6, .int l6)] [] st := by
  intro n
  induction n with
  | zero => intro l3 l4 l5 l6 st h; exact False.elim h
  | succ n ih => intro l3 l4 l5 l6 st h; exact zw_FA_passStore_27_s hM hd0 ih l3 l4 l5 l6 st h
set_option maxHeartbeats 4000000 in
set_option maxRecDepth 100000 in
theorem zc_FA_passStore (l : Launch) (g : zs_G) (A : Nat → Prop) {d0 : Nat} {l1 : Int32} {l2 : Int32} {l3 : Int32} (hd0 : zs_Fa d0) {st : zs_T} {K : zs_T → Prop} (h : zf_FA_passStore d0 l1 l2 l3 st K) : Met l yFA_passStore (.code yFA_passStore cFA_passStore 7 none :: zs_tb) (zs_rm 0 0) (zs_Pc zs_nl g zs_ly zs_N A [.ref (g.2.1 d0), .int l1, .int l2, .int l3] st) (zs_Qv g zs_ly zs_N A K) 0 0 A := by
  refine zs_met (cc := cFA_passStore) (maxL := 7) (ret := none) (by decide) (Nat.le_of_ble_eq_true rfl) (fun p e s m below meth c hM => ?_)
  have hM : zs_M p c cFA_passStore 7 s m meth [.ref (g.2.1 d0), .int l1, .int l2, .int l3].toArray "ThriftyStores$Facts" none g := hM
  obtain ⟨hx, hb, hml, hr, hlk, hts, hown, hK⟩ := id hM
  intro ls H locs hl hP hS
  have hl : lv_has ls 7 [(0, .ref (g.2.1 d0)), (1, .int l1), (2, .int l2), (3, .int l3)] := hl
  unfold zf_FA_passStore at h
  refine lv_aload_n hx hb dFA_passStore_0 rfl (lv_at hl 0 rfl) ?_
  refine zr_getr (b := d0 + 1) hx hb hts zi_FA hown hK.1 hP hd0.1.1 hd0.1.2 rfl 0 (by decide) rfl (hts _ zq_114) dFA_passStore_1 ?_
  refine lv_iload_n hx hb dFA_passStore_4 rfl (lv_at hl 1 rfl) ?_
  obtain ⟨hi1, h⟩ := h
  refine zr_iald hx hb hK.1 hP hd0.2.1.1 hd0.2.1.2 hi1 dFA_passStore_5 ?_
  refine lv_iconst (v := 1) hx hb dFA_passStore_6 (by decide) ?_
  refine lv_iload_n hx hb dFA_passStore_7 rfl (lv_at hl 1 rfl) ?_
  refine lv_ishl hx hb dFA_passStore_8 ?_
  refine lv_ior hx hb dFA_passStore_9 ?_
  refine lv_istore hx hb dFA_passStore_10 hl (by decide) rfl (fun ls hl => ?_)
  have hl : lv_has ls 7 [(4, .int ((st.1 (d0 + 1) l1.toNatClampNeg) ||| ((1 : Int32) <<< (l1 &&& 31)))), (0, .ref (g.2.1 d0)), (1, .int l1), (2, .int l2), (3, .int l3)] := hl
  refine lv_aload_n hx hb dFA_passStore_12 rfl (lv_at hl 1 rfl) ?_
  refine zr_getr (b := d0 + 1) hx hb hts zi_FA hown hK.1 hP hd0.1.1 hd0.1.2 rfl 0 (by decide) rfl (hts _ zq_114) dFA_passStore_13 ?_
  refine lv_iload_n hx hb dFA_passStore_16 rfl (lv_at hl 3 rfl) ?_
  obtain ⟨hi2, h⟩ := h
  refine zr_iald hx hb hK.1 hP hd0.2.1.1 hd0.2.1.2 hi2 dFA_passStore_17 ?_
  refine lv_iconst (v := 1) hx hb dFA_passStore_18 (by decide) ?_
  refine lv_iload_n hx hb dFA_passStore_19 rfl (lv_at hl 3 rfl) ?_
  refine lv_ishl hx hb dFA_passStore_20 ?_
  refine lv_ior hx hb dFA_passStore_21 ?_
  refine lv_istore hx hb dFA_passStore_22 hl (by decide) rfl (fun ls hl => ?_)
  have hl : lv_has ls 7 [(5, .int ((st.1 (d0 + 1) l2.toNatClampNeg) ||| ((1 : Int32) <<< (l2 &&& 31)))), (4, .int ((st.1 (d0 + 1) l1.toNatClampNeg) ||| ((1 : Int32) <<< (l1 &&& 31)))), (0, .ref (g.2.1 d0)), (1, .int l1), (2, .int l2), (3, .int l3)] := hl
  refine lv_iconst (v := 0) hx hb dFA_passStore_24 (by decide) ?_
  refine lv_istore hx hb dFA_passStore_25 hl (by decide) rfl (fun ls hl => ?_)
  have hl : lv_has ls 7 [(6, .int 0), (5, .int ((st.1 (d0 + 1) l2.toNatClampNeg) ||| ((1 : Int32) <<< (l2 &&& 31)))), (4, .int ((st.1 (d0 + 1) l1.toNatClampNeg) ||| ((1 : Int32) <<< (l1 &&& 31)))), (0, .ref (g.2.1 d0)), (1, .int l1), (2, .int l2), (3, .int l3)] := hl
  obtain ⟨n, h⟩ := h
  exact zw_FA_passStore_27 hM hd0 n l3 ((st.1 (d0 + 1) l1.toNatClampNeg) ||| ((1 : Int32) <<< (l1 &&& 31))) ((st.1 (d0 + 1) l2.toNatClampNeg) ||| ((1 : Int32) <<< (l2 &&& 31))) 0 st h ls H locs (lv_sub hl [3, 6, 2, 1, 0] rfl) hP hS
set_option maxHeartbeats 4000000 in
set_option maxRecDepth 100000 in
theorem zw_FA_pass_162 (hM : zs_M p c cFA_pass 6 s m meth args "ThriftyStores$Facts" none g) {d0 : Nat} {d1 : Nat} (hd0 : zs_Fa d0) (hd1 : zs_Pr d1) {K : zs_T → Prop}   (l2 : Int32) (l4 : Int32) (st : zs_T) (h : zf_FA_pass_162 d0 d1 K l2 l4 st) : zs_Go p l e (zs_rm 2 48) s m args below meth c g A (MQ below (zs_Qv g zs_ly zs_N A K) args s 0 0 A) 6 162 [(0, .ref (g.2.1 d0)), (1, .ref (g.2.1 d1)), (2, .int l2), (4, .int l4)] [] st := by
  obtain ⟨hx, hb, hml, hr, hlk, hts, hown, hK⟩ := id hM
  intro ls H locs hl hP hS
  unfold zf_FA_pass_162 at h
  refine lv_aload_n hx hb dFA_pass_162 rfl (lv_at hl 1 rfl) ?_
  refine lv_iload_n hx hb dFA_pass_163 rfl (lv_at hl 2 rfl) ?_
  refine zr_calli (va_runV (As := [.int l2]) (rest := []) ⟨hx, hb, hml, hown, hts⟩ (zc_PR_setsFirst l g A hd1 h) (cwV 1 hts (zs_gV zq_475 zq_476 zq_477 zq_2 zq_478) rfl rfl rfl ⟨rfl, by decide, by decide, by decide +kernel⟩ ⟨Nat.le_of_ble_eq_true rfl, Nat.le_of_ble_eq_true rfl⟩) (zs_preV zs_nwk hK hP hd1.1.1 hd1.1.2 rfl) rfl rfl hl.1 rfl (lv_room (Nat.le_of_ble_eq_true rfl)) dFA_pass_164 ⟨Nat.le_refl _, Nat.le_refl _⟩) hS (fun r102 u101 H locs h hP hS => ?_)
  refine lv_if_eq (tgt := 176) hx hb dFA_pass_167 rfl (fun hc => ?_) (fun hc => ?_)
  · have h := h.1 hc
    clear hc
    exact zr_vret hx hb hr hlk hP hS h dFA_pass_176
  · have h := h.2 hc
    clear hc
    refine lv_aload_n hx hb dFA_pass_170 rfl (lv_at hl 0 rfl) ?_
    refine lv_iload hx hb dFA_pass_171 (lv_at hl 3 rfl) ?_
    refine zr_callv (va_runV (As := [.int l4]) (rest := []) ⟨hx, hb, hml, hown, hts⟩ (zc_FA_forget l g A hd0 h) (cwV 1 hts (zs_gV zq_463 zq_465 zp_14 zq_5 zq_466) rfl rfl rfl ⟨rfl, by decide, by decide, by decide +kernel⟩ ⟨Nat.le_of_ble_eq_true rfl, Nat.le_of_ble_eq_true rfl⟩) (zs_preV zs_nwk hK hP hd0.1.1 hd0.1.2 rfl) rfl rfl hl.1 rfl (lv_room (Nat.le_of_ble_eq_true rfl)) dFA_pass_173 ⟨Nat.le_refl _, Nat.le_refl _⟩) hS (fun u103 H locs h hP hS => ?_)
    exact zr_vret hx hb hr hlk hP hS h dFA_pass_176
set_option maxHeartbeats 4000000 in
set_option maxRecDepth 100000 in
theorem zc_FA_pass (l : Launch) (g : zs_G) (A : Nat → Prop) {d0 : Nat} {d1 : Nat} {l2 : Int32} (hd0 : zs_Fa d0) (hd1 : zs_Pr d1) {st : zs_T} {K : zs_T → Prop} (h : zf_FA_pass d0 d1 l2 st K) : Met l yFA_pass (.code yFA_pass cFA_pass 6 none :: zs_tb) (zs_rm 2 48) (zs_Pc zs_nl g zs_ly zs_N A [.ref (g.2.1 d0), .ref (g.2.1 d1), .int l2, .ref (g.2.1 16)] st) (zs_Qv g zs_ly zs_N A K) 0 0 A := by
  refine zs_met (cc := cFA_pass) (maxL := 6) (ret := none) (by decide) (Nat.le_of_ble_eq_true rfl) (fun p e s m below meth c hM => ?_)
  have hM : zs_M p c cFA_pass 6 s m meth [.ref (g.2.1 d0), .ref (g.2.1 d1), .int l2, .ref (g.2.1 16)].toArray "ThriftyStores$Facts" none g := hM
  obtain ⟨hx, hb, hml, hr, hlk, hts, hown, hK⟩ := id hM
  intro ls H locs hl hP hS
  have hl : lv_has ls 6 [(0, .ref (g.2.1 d0)), (1, .ref (g.2.1 d1)), (2, .int l2), (3, .ref (g.2.1 16))] := hl
  unfold zf_FA_pass at h
  refine lv_aload_n hx hb dFA_pass_0 rfl (lv_at hl 1 rfl) ?_
  refine zr_getr (b := d1 + 2) hx hb hts zi_PR hown hK.1 hP hd1.1.1 hd1.1.2 rfl 1 (by decide) rfl (hts _ zq_40) dFA_pass_1 ?_
  refine lv_iload_n hx hb dFA_pass_4 rfl (lv_at hl 2 rfl) ?_
  obtain ⟨hi1, h⟩ := h
  refine zr_iald hx hb hK.1 hP hd1.2.2.1.1 hd1.2.2.1.2 hi1 dFA_pass_5 ?_
  refine lv_istore hx hb dFA_pass_6 hl (by decide) rfl (fun ls hl => ?_)
  have hl : lv_has ls 6 [(4, .int (st.1 (d1 + 2) l2.toNatClampNeg)), (0, .ref (g.2.1 d0)), (1, .ref (g.2.1 d1)), (2, .int l2), (3, .ref (g.2.1 16))] := hl
  refine lv_aload_n hx hb dFA_pass_8 rfl (lv_at hl 2 rfl) ?_
  refine zr_getr (b := d1 + 3) hx hb hts zi_PR hown hK.1 hP hd1.1.1 hd1.1.2 rfl 2 (by decide) rfl (hts _ zq_46) dFA_pass_9 ?_
  refine lv_iload_n hx hb dFA_pass_12 rfl (lv_at hl 3 rfl) ?_
  obtain ⟨hi2, h⟩ := h
  refine zr_iald hx hb hK.1 hP hd1.2.2.2.1.1 hd1.2.2.2.1.2 hi2 dFA_pass_13 ?_
  refine lv_istore hx hb dFA_pass_14 hl (by decide) rfl (fun ls hl => ?_)
  have hl : lv_has ls 6 [(5, .int (st.1 (d1 + 3) l2.toNatClampNeg)), (4, .int (st.1 (d1 + 2) l2.toNatClampNeg)), (0, .ref (g.2.1 d0)), (1, .ref (g.2.1 d1)), (2, .int l2), (3, .ref (g.2.1 16))] := hl
  refine lv_aload_n hx hb dFA_pass_16 rfl (lv_at hl 3 rfl) ?_
  refine zr_getr (b := d1 + 1) hx hb hts zi_PR hown hK.1 hP hd1.1.1 hd1.1.2 rfl 0 (by decide) rfl (hts _ zq_36) dFA_pass_17 ?_
  refine lv_iload_n hx hb dFA_pass_20 rfl (lv_at hl 4 rfl) ?_
  obtain ⟨hi3, h⟩ := h
  refine zr_iald hx hb hK.1 hP hd1.2.1.1 hd1.2.1.2 hi3 dFA_pass_21 ?_
  by_cases hc : (st.1 (d1 + 1) l2.toNatClampNeg) = 1
  · refine lv_tableIn (tgt := 76) (off := 54) hx hb dFA_pass_22 (by rw [hc]; decide) (by rw [hc]; decide) (by rw [hc]; decide) rfl ?_
    have h := h.1 hc
    clear hc
    refine lv_aload_n hx hb dFA_pass_76 rfl (lv_at hl 2 rfl) ?_
    refine lv_iload hx hb dFA_pass_77 (lv_at hl 1 rfl) ?_
    refine lv_iload hx hb dFA_pass_79 (lv_at hl 0 rfl) ?_
    refine zr_callv (va_runV (As := [.int (st.1 (d1 + 2) l2.toNatClampNeg), .int (st.1 (d1 + 3) l2.toNatClampNeg)]) (rest := []) ⟨hx, hb, hml, hown, hts⟩ (zc_FA_passMove l g A hd0 h) (cwV 2 hts (zs_gV zq_459 zq_461 zp_13 zq_5 zq_462) rfl rfl rfl ⟨rfl, by decide, by decide, by decide +kernel⟩ ⟨Nat.le_of_ble_eq_true rfl, Nat.le_of_ble_eq_true rfl⟩) (zs_preV zs_nwk hK hP hd0.1.1 hd0.1.2 rfl) rfl rfl hl.1 rfl (lv_room (Nat.le_of_ble_eq_true rfl)) dFA_pass_81 ⟨Nat.le_refl _, Nat.le_refl _⟩) hS (fun u4 H locs h hP hS => ?_)
    refine lv_goto (tgt := 176) hx hb dFA_pass_84 rfl ?_
    exact zr_vret hx hb hr hlk hP hS h dFA_pass_176
  · have h := h.2 hc
    have hn0 := hc
    clear hc
    by_cases hc : (st.1 (d1 + 1) l2.toNatClampNeg) = 2
    · refine lv_tableIn (tgt := 162) (off := 140) hx hb dFA_pass_22 (by rw [hc]; decide) (by rw [hc]; decide) (by rw [hc]; decide) rfl ?_
      have h := h.1 hc
      clear hc
      exact zw_FA_pass_162 hM hd0 hd1 l2 (st.1 (d1 + 2) l2.toNatClampNeg) st h ls H locs (lv_sub hl [2, 3, 4, 1] rfl) hP hS
    · have h := h.2 hc
      have hn1 := hc
      clear hc
      by_cases hc : (st.1 (d1 + 1) l2.toNatClampNeg) = 3
      · refine lv_tableIn (tgt := 162) (off := 140) hx hb dFA_pass_22 (by rw [hc]; decide) (by rw [hc]; decide) (by rw [hc]; decide) rfl ?_
        have h := h.1 hc
        clear hc
        exact zw_FA_pass_162 hM hd0 hd1 l2 (st.1 (d1 + 2) l2.toNatClampNeg) st h ls H locs (lv_sub hl [2, 3, 4, 1] rfl) hP hS
      · have h := h.2 hc
        have hn2 := hc
        clear hc
        by_cases hc : (st.1 (d1 + 1) l2.toNatClampNeg) = 4
        · refine lv_tableIn (tgt := 162) (off := 140) hx hb dFA_pass_22 (by rw [hc]; decide) (by rw [hc]; decide) (by rw [hc]; decide) rfl ?_
          have h := h.1 hc
          clear hc
          exact zw_FA_pass_162 hM hd0 hd1 l2 (st.1 (d1 + 2) l2.toNatClampNeg) st h ls H locs (lv_sub hl [2, 3, 4, 1] rfl) hP hS
        · have h := h.2 hc
          have hn3 := hc
          clear hc
          by_cases hc : (st.1 (d1 + 1) l2.toNatClampNeg) = 5
          · refine lv_tableIn (tgt := 162) (off := 140) hx hb dFA_pass_22 (by rw [hc]; decide) (by rw [hc]; decide) (by rw [hc]; decide) rfl ?_
            have h := h.1 hc
            clear hc
            exact zw_FA_pass_162 hM hd0 hd1 l2 (st.1 (d1 + 2) l2.toNatClampNeg) st h ls H locs (lv_sub hl [2, 3, 4, 1] rfl) hP hS
          · have h := h.2 hc
            have hn4 := hc
            clear hc
            by_cases hc : (st.1 (d1 + 1) l2.toNatClampNeg) = 6
            · refine lv_tableIn (tgt := 162) (off := 140) hx hb dFA_pass_22 (by rw [hc]; decide) (by rw [hc]; decide) (by rw [hc]; decide) rfl ?_
              have h := h.1 hc
              clear hc
              exact zw_FA_pass_162 hM hd0 hd1 l2 (st.1 (d1 + 2) l2.toNatClampNeg) st h ls H locs (lv_sub hl [2, 3, 4, 1] rfl) hP hS
            · have h := h.2 hc
              have hn5 := hc
              clear hc
              by_cases hc : (st.1 (d1 + 1) l2.toNatClampNeg) = 7
              · refine lv_tableIn (tgt := 87) (off := 65) hx hb dFA_pass_22 (by rw [hc]; decide) (by rw [hc]; decide) (by rw [hc]; decide) rfl ?_
                have h := h.1 hc
                clear hc
                refine lv_aload_n hx hb dFA_pass_87 rfl (lv_at hl 2 rfl) ?_
                refine lv_iload hx hb dFA_pass_88 (lv_at hl 1 rfl) ?_
                refine zr_callv (va_runV (As := [.int (st.1 (d1 + 2) l2.toNatClampNeg)]) (rest := []) ⟨hx, hb, hml, hown, hts⟩ (zc_FA_forget l g A hd0 h) (cwV 1 hts (zs_gV zq_463 zq_465 zp_14 zq_5 zq_466) rfl rfl rfl ⟨rfl, by decide, by decide, by decide +kernel⟩ ⟨Nat.le_of_ble_eq_true rfl, Nat.le_of_ble_eq_true rfl⟩) (zs_preV zs_nwk hK hP hd0.1.1 hd0.1.2 rfl) rfl rfl hl.1 rfl (lv_room (Nat.le_of_ble_eq_true rfl)) dFA_pass_90 ⟨Nat.le_refl _, Nat.le_refl _⟩) hS (fun u5 H locs h hP hS => ?_)
                refine lv_aload_n hx hb dFA_pass_93 rfl (lv_at hl 2 rfl) ?_
                refine lv_dup hx hb dFA_pass_94 rfl ?_
                refine zr_geti hx hb hts zi_FA hown hK.1 hP hd0.1.1 hd0.1.2 rfl 2 (by decide) rfl (hts _ zq_120) dFA_pass_95 ?_
                refine lv_iconst (v := 1) hx hb dFA_pass_98 (by decide) ?_
                refine lv_iload hx hb dFA_pass_99 (lv_at hl 1 rfl) ?_
                refine lv_ishl hx hb dFA_pass_101 ?_
                refine lv_iconst (v := 1) hx hb dFA_pass_102 (by decide) ?_
                refine lv_iload hx hb dFA_pass_103 (lv_at hl 0 rfl) ?_
                refine lv_ishl hx hb dFA_pass_105 ?_
                refine lv_ior hx hb dFA_pass_106 ?_
                refine lv_ior hx hb dFA_pass_107 ?_
                refine zr_put hx hb hts zi_FA tyFA tyFA_ok nmFA hown hK.1 hP hS hd0.1.1 hd0.1.2 rfl 2 (by decide) rfl (hts _ zq_120) rfl rfl rfl dFA_pass_108 (fun H locs hP hS => ?_)
                obtain ⟨t6, e9⟩ : ∃ t9 : zs_T, t9 = zs_i u5 d0 2 ((u5.1 d0 2) ||| (((1 : Int32) <<< ((st.1 (d1 + 2) l2.toNatClampNeg) &&& 31)) ||| ((1 : Int32) <<< ((st.1 (d1 + 3) l2.toNatClampNeg) &&& 31)))) := ⟨_, rfl⟩
                have h := h t6 e9
                have hP : zs_P g zs_ly zs_N A t6 H := by rw [e9]; exact hP
                clear e9
                refine lv_goto (tgt := 176) hx hb dFA_pass_111 rfl ?_
                exact zr_vret hx hb hr hlk hP hS h dFA_pass_176
              · have h := h.2 hc
                have hn6 := hc
                clear hc
                by_cases hc : (st.1 (d1 + 1) l2.toNatClampNeg) = 8
                · refine lv_tableIn (tgt := 114) (off := 92) hx hb dFA_pass_22 (by rw [hc]; decide) (by rw [hc]; decide) (by rw [hc]; decide) rfl ?_
                  have h := h.1 hc
                  clear hc
                  refine lv_aload_n hx hb dFA_pass_114 rfl (lv_at hl 2 rfl) ?_
                  refine lv_iload hx hb dFA_pass_115 (lv_at hl 1 rfl) ?_
                  refine zr_callv (va_runV (As := [.int (st.1 (d1 + 2) l2.toNatClampNeg)]) (rest := []) ⟨hx, hb, hml, hown, hts⟩ (zc_FA_forget l g A hd0 h) (cwV 1 hts (zs_gV zq_463 zq_465 zp_14 zq_5 zq_466) rfl rfl rfl ⟨rfl, by decide, by decide, by decide +kernel⟩ ⟨Nat.le_of_ble_eq_true rfl, Nat.le_of_ble_eq_true rfl⟩) (zs_preV zs_nwk hK hP hd0.1.1 hd0.1.2 rfl) rfl rfl hl.1 rfl (lv_room (Nat.le_of_ble_eq_true rfl)) dFA_pass_117 ⟨Nat.le_refl _, Nat.le_refl _⟩) hS (fun u7 H locs h hP hS => ?_)
                  refine lv_aload_n hx hb dFA_pass_120 rfl (lv_at hl 2 rfl) ?_
                  refine lv_dup hx hb dFA_pass_121 rfl ?_
                  refine zr_geti hx hb hts zi_FA hown hK.1 hP hd0.1.1 hd0.1.2 rfl 2 (by decide) rfl (hts _ zq_120) dFA_pass_122 ?_
                  refine lv_iconst (v := 1) hx hb dFA_pass_125 (by decide) ?_
                  refine lv_iload hx hb dFA_pass_126 (lv_at hl 1 rfl) ?_
                  refine lv_ishl hx hb dFA_pass_128 ?_
                  refine lv_ior hx hb dFA_pass_129 ?_
                  refine zr_put hx hb hts zi_FA tyFA tyFA_ok nmFA hown hK.1 hP hS hd0.1.1 hd0.1.2 rfl 2 (by decide) rfl (hts _ zq_120) rfl rfl rfl dFA_pass_130 (fun H locs hP hS => ?_)
                  obtain ⟨t8, e9⟩ : ∃ t9 : zs_T, t9 = zs_i u7 d0 2 ((u7.1 d0 2) ||| ((1 : Int32) <<< ((st.1 (d1 + 2) l2.toNatClampNeg) &&& 31))) := ⟨_, rfl⟩
                  have h := h t8 e9
                  have hP : zs_P g zs_ly zs_N A t8 H := by rw [e9]; exact hP
                  clear e9
                  refine lv_goto (tgt := 176) hx hb dFA_pass_133 rfl ?_
                  exact zr_vret hx hb hr hlk hP hS h dFA_pass_176
                · have h := h.2 hc
                  have hn7 := hc
                  clear hc
                  by_cases hc : (st.1 (d1 + 1) l2.toNatClampNeg) = 9
                  · refine lv_tableIn (tgt := 136) (off := 114) hx hb dFA_pass_22 (by rw [hc]; decide) (by rw [hc]; decide) (by rw [hc]; decide) rfl ?_
                    have h := h.1 hc
                    clear hc
                    refine lv_aload_n hx hb dFA_pass_136 rfl (lv_at hl 2 rfl) ?_
                    refine lv_iload hx hb dFA_pass_137 (lv_at hl 1 rfl) ?_
                    refine lv_iload hx hb dFA_pass_139 (lv_at hl 0 rfl) ?_
                    refine zr_callv (va_runV (As := [.int (st.1 (d1 + 2) l2.toNatClampNeg), .int (st.1 (d1 + 3) l2.toNatClampNeg)]) (rest := []) ⟨hx, hb, hml, hown, hts⟩ (zc_FA_passLoad l g A hd0 h) (cwV 2 hts (zs_gV zq_467 zq_469 zp_15 zq_5 zq_470) rfl rfl rfl ⟨rfl, by decide, by decide, by decide +kernel⟩ ⟨Nat.le_of_ble_eq_true rfl, Nat.le_of_ble_eq_true rfl⟩) (zs_preV zs_nwk hK hP hd0.1.1 hd0.1.2 rfl) rfl rfl hl.1 rfl (lv_room (Nat.le_of_ble_eq_true rfl)) dFA_pass_141 ⟨Nat.le_refl _, Nat.le_refl _⟩) hS (fun u9 H locs h hP hS => ?_)
                    refine lv_goto (tgt := 176) hx hb dFA_pass_144 rfl ?_
                    exact zr_vret hx hb hr hlk hP hS h dFA_pass_176
                  · have h := h.2 hc
                    have hn8 := hc
                    clear hc
                    by_cases hc : (st.1 (d1 + 1) l2.toNatClampNeg) = 10
                    · refine lv_tableIn (tgt := 147) (off := 125) hx hb dFA_pass_22 (by rw [hc]; decide) (by rw [hc]; decide) (by rw [hc]; decide) rfl ?_
                      have h := h.1 hc
                      clear hc
                      refine lv_aload_n hx hb dFA_pass_147 rfl (lv_at hl 2 rfl) ?_
                      refine lv_iload hx hb dFA_pass_148 (lv_at hl 1 rfl) ?_
                      refine lv_iload hx hb dFA_pass_150 (lv_at hl 0 rfl) ?_
                      refine lv_aload_n hx hb dFA_pass_152 rfl (lv_at hl 5 rfl) ?_
                      refine lv_iload hx hb dFA_pass_153 (lv_at hl 1 rfl) ?_
                      obtain ⟨hi10, h⟩ := h
                      refine zr_iald hx hb hK.1 hP zl_16.1 zl_16.2 hi10 dFA_pass_155 ?_
                      refine zr_callv (va_runV (As := [.int (st.1 (d1 + 2) l2.toNatClampNeg), .int (st.1 (d1 + 3) l2.toNatClampNeg), .int (st.1 16 (st.1 (d1 + 2) l2.toNatClampNeg).toNatClampNeg)]) (rest := []) ⟨hx, hb, hml, hown, hts⟩ (zc_FA_passStore l g A hd0 h) (cwV 3 hts (zs_gV zq_471 zq_473 zp_16 zq_5 zq_474) rfl rfl rfl ⟨rfl, by decide, by decide, by decide +kernel⟩ ⟨Nat.le_of_ble_eq_true rfl, Nat.le_of_ble_eq_true rfl⟩) (zs_preV zs_nwk hK hP hd0.1.1 hd0.1.2 rfl) rfl rfl hl.1 rfl (lv_room (Nat.le_of_ble_eq_true rfl)) dFA_pass_156 ⟨Nat.le_refl _, Nat.le_refl _⟩) hS (fun u11 H locs h hP hS => ?_)
                      refine lv_goto (tgt := 176) hx hb dFA_pass_159 rfl ?_
                      exact zr_vret hx hb hr hlk hP hS h dFA_pass_176
                    · have h := h.2 hc
                      have hn9 := hc
                      clear hc
                      refine lv_tableOut (tgt := 162) hx hb dFA_pass_22 (by have q0 := lv_neT hn0 (a := 1) (by decide); have q1 := lv_neT hn1 (a := 2) (by decide); have q2 := lv_neT hn2 (a := 3) (by decide); have q3 := lv_neT hn3 (a := 4) (by decide); have q4 := lv_neT hn4 (a := 5) (by decide); have q5 := lv_neT hn5 (a := 6) (by decide); have q6 := lv_neT hn6 (a := 7) (by decide); have q7 := lv_neT hn7 (a := 8) (by decide); have q8 := lv_neT hn8 (a := 9) (by decide); have q9 := lv_neT hn9 (a := 10) (by decide); omega) rfl ?_
                      exact zw_FA_pass_162 hM hd0 hd1 l2 (st.1 (d1 + 2) l2.toNatClampNeg) st h ls H locs (lv_sub hl [2, 3, 4, 1] rfl) hP hS
end ZW
