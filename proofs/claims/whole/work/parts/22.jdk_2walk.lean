section ZW
variable {p : Program} {l : Launch} {e : Env} {s : State} {m : MethodId} {args : Array Value} {below : List Frame} {meth : Method} {c : Code} {g : zs_G} {A : Nat → Prop}
set_option maxHeartbeats 4000000 in
set_option maxRecDepth 100000 in
theorem zw_AR_fill_AIIV_5_s (hM : zs_M p c cAR_fill_AIIV 4 s m meth args "java/util/Arrays" none g) {d0 n0 : Nat} (hd0 : d0 < zs_N ∧ zs_ly d0 = (1, n0, [])) {K : zs_T → Prop}  {B5 : Int32 → Int32 → Int32 → zs_T → Prop}  (hB5 : ∀ (l1 : Int32) (l2 : Int32) (l3 : Int32) (st : zs_T), B5 l1 l2 l3 st → zs_Go p l e (zs_rm 0 0) s m args below meth c g A (MQ below (zs_Qv g zs_ly zs_N A K) args s 0 0 A) 4 5 [(0, .ref (g.2.1 d0)), (1, .int l1), (2, .int l2), (3, .int l3)] [] st) (l1 : Int32) (l2 : Int32) (l3 : Int32) (st : zs_T) (h : zf_AR_fill_AIIV_5_s d0 n0 K B5 l1 l2 l3 st) : zs_Go p l e (zs_rm 0 0) s m args below meth c g A (MQ below (zs_Qv g zs_ly zs_N A K) args s 0 0 A) 4 5 [(0, .ref (g.2.1 d0)), (1, .int l1), (2, .int l2), (3, .int l3)] [] st := by
  obtain ⟨hx, hb, hml, hr, hlk, hts, hown, hK⟩ := id hM
  intro ls H locs hl hP hS
  unfold zf_AR_fill_AIIV_5_s at h
  refine lv_iload_n hx hb dAR_fill_AIIV_5 rfl (lv_at hl 2 rfl) ?_
  refine lv_iload_n hx hb dAR_fill_AIIV_6 rfl (lv_at hl 3 rfl) ?_
  refine lv_icmp_ge (tgt := 20) hx hb dAR_fill_AIIV_7 rfl (fun hc => ?_) (fun hc => ?_)
  · have h := h.1 hc
    clear hc
    exact zr_vret hx hb hr hlk hP hS h dAR_fill_AIIV_20
  · have h := h.2 hc
    clear hc
    refine lv_aload_n hx hb dAR_fill_AIIV_10 rfl (lv_at hl 0 rfl) ?_
    refine lv_iload_n hx hb dAR_fill_AIIV_11 rfl (lv_at hl 2 rfl) ?_
    refine lv_iload_n hx hb dAR_fill_AIIV_12 rfl (lv_at hl 1 rfl) ?_
    obtain ⟨hi101, h⟩ := h
    refine zr_iast hx hb hK.1 hP hS hd0.1 hd0.2 hi101 dAR_fill_AIIV_13 (fun H locs hP hS => ?_)
    obtain ⟨t102, e9⟩ : ∃ t9 : zs_T, t9 = zs_i st d0 l2.toNatClampNeg l1 := ⟨_, rfl⟩
    have h := h t102 e9
    have hP : zs_P g zs_ly zs_N A t102 H := by rw [e9]; exact hP
    clear e9
    refine lv_iinc (k := 2) (v := l2 + 1) hx hb dAR_fill_AIIV_14 hl rfl (by rw [show Int32.ofInt (1) = 1 from by decide]) (by decide) rfl (fun ls hl => ?_)
    have hl : lv_has ls 4 [(2, .int (l2 + 1)), (0, .ref (g.2.1 d0)), (1, .int l1), (3, .int l3)] := hl
    refine lv_goto (tgt := 5) hx hb dAR_fill_AIIV_17 rfl ?_
    exact hB5 l1 (l2 + 1) l3 t102 h ls H locs (lv_sub hl [1, 2, 0, 3] rfl) hP hS
theorem zw_AR_fill_AIIV_5 (hM : zs_M p c cAR_fill_AIIV 4 s m meth args "java/util/Arrays" none g) {d0 n0 : Nat} (hd0 : d0 < zs_N ∧ zs_ly d0 = (1, n0, [])) {K : zs_T → Prop}   : ∀ (n : Nat) (l1 : Int32) (l2 : Int32) (l3 : Int32) (st : zs_T), zf_AR_fill_AIIV_5 d0 n0 K n l1 l2 l3 st → zs_Go p l e (zs_rm 0 0) s m args below meth c g A (MQ below (zs_Qv g zs_ly zs_N A K) args s 0 0 A) 4 5 [(0, .ref (g.2.1 d0)), (1, .int l1), (2, .int l2), (3, .int l3)] [] st := by
  intro n
  induction n with
  | zero => intro l1 l2 l3 st h; exact False.elim h
  | succ n ih => intro l1 l2 l3 st h; exact zw_AR_fill_AIIV_5_s hM hd0 ih l1 l2 l3 st h
set_option maxHeartbeats 4000000 in
set_option maxRecDepth 100000 in
theorem zc_AR_fill_AIIV (l : Launch) (g : zs_G) (A : Nat → Prop) {d0 n0 : Nat} {l1 : Int32} (hd0 : d0 < zs_N ∧ zs_ly d0 = (1, n0, [])) {st : zs_T} {K : zs_T → Prop} (h : zf_AR_fill_AIIV d0 n0 l1 st K) : Met l yAR_fill_AIIV (.code yAR_fill_AIIV cAR_fill_AIIV 4 none :: zs_tb) (zs_rm 0 0) (zs_Pc zs_nl g zs_ly zs_N A [.ref (g.2.1 d0), .int l1] st) (zs_Qv g zs_ly zs_N A K) 0 0 A := by
  refine zs_met (cc := cAR_fill_AIIV) (maxL := 4) (ret := none) (by decide) (Nat.le_of_ble_eq_true rfl) (fun p e s m below meth c hM => ?_)
  have hM : zs_M p c cAR_fill_AIIV 4 s m meth [.ref (g.2.1 d0), .int l1].toArray "java/util/Arrays" none g := hM
  obtain ⟨hx, hb, hml, hr, hlk, hts, hown, hK⟩ := id hM
  intro ls H locs hl hP hS
  have hl : lv_has ls 4 [(0, .ref (g.2.1 d0)), (1, .int l1)] := hl
  unfold zf_AR_fill_AIIV at h
  refine lv_iconst (v := 0) hx hb dAR_fill_AIIV_0 (by decide) ?_
  refine lv_istore_n hx hb dAR_fill_AIIV_1 rfl hl (by decide) rfl (fun ls hl => ?_)
  have hl : lv_has ls 4 [(2, .int 0), (0, .ref (g.2.1 d0)), (1, .int l1)] := hl
  refine lv_aload_n hx hb dAR_fill_AIIV_2 rfl (lv_at hl 1 rfl) ?_
  refine zr_alen hx hb hK.1 hP hd0.1 (t := 1) hd0.2 (by decide) dAR_fill_AIIV_3 ?_
  refine lv_istore_n hx hb dAR_fill_AIIV_4 rfl hl (by decide) rfl (fun ls hl => ?_)
  have hl : lv_has ls 4 [(3, .int (nI n0)), (2, .int 0), (0, .ref (g.2.1 d0)), (1, .int l1)] := hl
  obtain ⟨n, h⟩ := h
  exact zw_AR_fill_AIIV_5 hM hd0 n l1 0 (nI n0) st h ls H locs (lv_sub hl [2, 3, 1, 0] rfl) hP hS
set_option maxHeartbeats 4000000 in
set_option maxRecDepth 100000 in
theorem zw_AR_fill_AJJV_6_s (hM : zs_M p c cAR_fill_AJJV 5 s m meth args "java/util/Arrays" none g) {d0 n0 : Nat} (hd0 : d0 < zs_N ∧ zs_ly d0 = (3, n0, [])) {K : zs_T → Prop}  {B6 : Int64 → Int32 → Int32 → zs_T → Prop}  (hB6 : ∀ (l1 : Int64) (l3 : Int32) (l4 : Int32) (st : zs_T), B6 l1 l3 l4 st → zs_Go p l e (zs_rm 0 0) s m args below meth c g A (MQ below (zs_Qv g zs_ly zs_N A K) args s 0 0 A) 5 6 [(0, .ref (g.2.1 d0)), (1, .long l1), (3, .int l3), (4, .int l4)] [] st) (l1 : Int64) (l3 : Int32) (l4 : Int32) (st : zs_T) (h : zf_AR_fill_AJJV_6_s d0 n0 K B6 l1 l3 l4 st) : zs_Go p l e (zs_rm 0 0) s m args below meth c g A (MQ below (zs_Qv g zs_ly zs_N A K) args s 0 0 A) 5 6 [(0, .ref (g.2.1 d0)), (1, .long l1), (3, .int l3), (4, .int l4)] [] st := by
  obtain ⟨hx, hb, hml, hr, hlk, hts, hown, hK⟩ := id hM
  intro ls H locs hl hP hS
  unfold zf_AR_fill_AJJV_6_s at h
  refine lv_iload_n hx hb dAR_fill_AJJV_6 rfl (lv_at hl 2 rfl) ?_
  refine lv_iload hx hb dAR_fill_AJJV_7 (lv_at hl 3 rfl) ?_
  refine lv_icmp_ge (tgt := 22) hx hb dAR_fill_AJJV_9 rfl (fun hc => ?_) (fun hc => ?_)
  · have h := h.1 hc
    clear hc
    exact zr_vret hx hb hr hlk hP hS h dAR_fill_AJJV_22
  · have h := h.2 hc
    clear hc
    refine lv_aload_n hx hb dAR_fill_AJJV_12 rfl (lv_at hl 0 rfl) ?_
    refine lv_iload_n hx hb dAR_fill_AJJV_13 rfl (lv_at hl 2 rfl) ?_
    refine lv_lload_n hx hb dAR_fill_AJJV_14 rfl (lv_at hl 1 rfl) ?_
    obtain ⟨hi101, h⟩ := h
    refine zr_last hx hb hK.1 hP hS hd0.1 hd0.2 hi101 dAR_fill_AJJV_15 (fun H locs hP hS => ?_)
    obtain ⟨t102, e9⟩ : ∃ t9 : zs_T, t9 = zs_l st d0 l3.toNatClampNeg l1 := ⟨_, rfl⟩
    have h := h t102 e9
    have hP : zs_P g zs_ly zs_N A t102 H := by rw [e9]; exact hP
    clear e9
    refine lv_iinc (k := 2) (v := l3 + 1) hx hb dAR_fill_AJJV_16 hl rfl (by rw [show Int32.ofInt (1) = 1 from by decide]) (by decide) rfl (fun ls hl => ?_)
    have hl : lv_has ls 5 [(3, .int (l3 + 1)), (0, .ref (g.2.1 d0)), (1, .long l1), (4, .int l4)] := hl
    refine lv_goto (tgt := 6) hx hb dAR_fill_AJJV_19 rfl ?_
    exact hB6 l1 (l3 + 1) l4 t102 h ls H locs (lv_sub hl [1, 2, 0, 3] rfl) hP hS
theorem zw_AR_fill_AJJV_6 (hM : zs_M p c cAR_fill_AJJV 5 s m meth args "java/util/Arrays" none g) {d0 n0 : Nat} (hd0 : d0 < zs_N ∧ zs_ly d0 = (3, n0, [])) {K : zs_T → Prop}   : ∀ (n : Nat) (l1 : Int64) (l3 : Int32) (l4 : Int32) (st : zs_T), zf_AR_fill_AJJV_6 d0 n0 K n l1 l3 l4 st → zs_Go p l e (zs_rm 0 0) s m args below meth c g A (MQ below (zs_Qv g zs_ly zs_N A K) args s 0 0 A) 5 6 [(0, .ref (g.2.1 d0)), (1, .long l1), (3, .int l3), (4, .int l4)] [] st := by
  intro n
  induction n with
  | zero => intro l1 l3 l4 st h; exact False.elim h
  | succ n ih => intro l1 l3 l4 st h; exact zw_AR_fill_AJJV_6_s hM hd0 ih l1 l3 l4 st h
set_option maxHeartbeats 4000000 in
set_option maxRecDepth 100000 in
theorem zc_AR_fill_AJJV (l : Launch) (g : zs_G) (A : Nat → Prop) {d0 n0 : Nat} {l1 : Int64} (hd0 : d0 < zs_N ∧ zs_ly d0 = (3, n0, [])) {st : zs_T} {K : zs_T → Prop} (h : zf_AR_fill_AJJV d0 n0 l1 st K) : Met l yAR_fill_AJJV (.code yAR_fill_AJJV cAR_fill_AJJV 5 none :: zs_tb) (zs_rm 0 0) (zs_Pc zs_nl g zs_ly zs_N A [.ref (g.2.1 d0), .long l1] st) (zs_Qv g zs_ly zs_N A K) 0 0 A := by
  refine zs_met (cc := cAR_fill_AJJV) (maxL := 5) (ret := none) (by decide) (Nat.le_of_ble_eq_true rfl) (fun p e s m below meth c hM => ?_)
  have hM : zs_M p c cAR_fill_AJJV 5 s m meth [.ref (g.2.1 d0), .long l1].toArray "java/util/Arrays" none g := hM
  obtain ⟨hx, hb, hml, hr, hlk, hts, hown, hK⟩ := id hM
  intro ls H locs hl hP hS
  have hl : lv_has ls 5 [(0, .ref (g.2.1 d0)), (1, .long l1)] := hl
  unfold zf_AR_fill_AJJV at h
  refine lv_iconst (v := 0) hx hb dAR_fill_AJJV_0 (by decide) ?_
  refine lv_istore_n hx hb dAR_fill_AJJV_1 rfl hl (by decide) rfl (fun ls hl => ?_)
  have hl : lv_has ls 5 [(3, .int 0), (0, .ref (g.2.1 d0)), (1, .long l1)] := hl
  refine lv_aload_n hx hb dAR_fill_AJJV_2 rfl (lv_at hl 1 rfl) ?_
  refine zr_alen hx hb hK.1 hP hd0.1 (t := 3) hd0.2 (by decide) dAR_fill_AJJV_3 ?_
  refine lv_istore hx hb dAR_fill_AJJV_4 hl (by decide) rfl (fun ls hl => ?_)
  have hl : lv_has ls 5 [(4, .int (nI n0)), (3, .int 0), (0, .ref (g.2.1 d0)), (1, .long l1)] := hl
  obtain ⟨n, h⟩ := h
  exact zw_AR_fill_AJJV_6 hM hd0 n l1 0 (nI n0) st h ls H locs (lv_sub hl [2, 3, 1, 0] rfl) hP hS
set_option maxHeartbeats 4000000 in
set_option maxRecDepth 100000 in
theorem zw_IN_numberOfTrailingZeros_II_74 (hM : zs_M p c cIN_numberOfTrailingZeros_II 2 s m meth args "java/lang/Integer" (some .int) g)   {K : Int32 → zs_T → Prop}   (l0 : Int32) (l1 : Int32) (st : zs_T) (h : zf_IN_numberOfTrailingZeros_II_74 K l0 l1 st) : zs_Go p l e (zs_rm 0 0) s m args below meth c g A (MQ below (zs_Qi g zs_ly zs_N A K) args s 0 0 A) 2 74 [(0, .int l0), (1, .int l1)] [] st := by
  obtain ⟨hx, hb, hml, hr, hlk, hts, hown, hK⟩ := id hM
  intro ls H locs hl hP hS
  unfold zf_IN_numberOfTrailingZeros_II_74 at h
  refine lv_iload_n hx hb dIN_numberOfTrailingZeros_II_74 rfl (lv_at hl 1 rfl) ?_
  refine lv_iload_n hx hb dIN_numberOfTrailingZeros_II_75 rfl (lv_at hl 0 rfl) ?_
  refine lv_iconst (v := 1) hx hb dIN_numberOfTrailingZeros_II_76 (by decide) ?_
  refine lv_iushr hx hb dIN_numberOfTrailingZeros_II_77 rfl ?_
  refine lv_iadd hx hb dIN_numberOfTrailingZeros_II_78 ?_
  exact zr_iret hx hb hr hlk hP hS h dIN_numberOfTrailingZeros_II_79
set_option maxHeartbeats 4000000 in
set_option maxRecDepth 100000 in
theorem zw_IN_numberOfTrailingZeros_II_62 (hM : zs_M p c cIN_numberOfTrailingZeros_II 2 s m meth args "java/lang/Integer" (some .int) g)   {K : Int32 → zs_T → Prop}   (l0 : Int32) (l1 : Int32) (st : zs_T) (h : zf_IN_numberOfTrailingZeros_II_62 K l0 l1 st) : zs_Go p l e (zs_rm 0 0) s m args below meth c g A (MQ below (zs_Qi g zs_ly zs_N A K) args s 0 0 A) 2 62 [(0, .int l0), (1, .int l1)] [] st := by
  obtain ⟨hx, hb, hml, hr, hlk, hts, hown, hK⟩ := id hM
  intro ls H locs hl hP hS
  unfold zf_IN_numberOfTrailingZeros_II_62 at h
  refine lv_iload_n hx hb dIN_numberOfTrailingZeros_II_62 rfl (lv_at hl 0 rfl) ?_
  refine lv_iconst (v := 4) hx hb dIN_numberOfTrailingZeros_II_63 (by decide) ?_
  refine lv_icmp_le (tgt := 74) hx hb dIN_numberOfTrailingZeros_II_64 rfl (fun hc => ?_) (fun hc => ?_)
  · have h := h.1 hc
    clear hc
    exact zw_IN_numberOfTrailingZeros_II_74 hM  l0 l1 st h ls H locs (lv_sub hl [0, 1] rfl) hP hS
  · have h := h.2 hc
    clear hc
    refine lv_iinc (k := 1) (v := l1 + 2) hx hb dIN_numberOfTrailingZeros_II_67 hl rfl (by rw [show Int32.ofInt (2) = 2 from by decide]) (by decide) rfl (fun ls hl => ?_)
    have hl : lv_has ls 2 [(1, .int (l1 + 2)), (0, .int l0)] := hl
    refine lv_iload_n hx hb dIN_numberOfTrailingZeros_II_70 rfl (lv_at hl 1 rfl) ?_
    refine lv_iconst (v := 2) hx hb dIN_numberOfTrailingZeros_II_71 (by decide) ?_
    refine lv_iushr hx hb dIN_numberOfTrailingZeros_II_72 rfl ?_
    refine lv_istore_n hx hb dIN_numberOfTrailingZeros_II_73 rfl hl (by decide) rfl (fun ls hl => ?_)
    have hl : lv_has ls 2 [(0, .int ((l0.toUInt32 >>> ((2 : Int32).toUInt32 &&& Int32.toUInt32 31)).toInt32)), (1, .int (l1 + 2))] := hl
    exact zw_IN_numberOfTrailingZeros_II_74 hM  ((l0.toUInt32 >>> ((2 : Int32).toUInt32 &&& Int32.toUInt32 31)).toInt32) (l1 + 2) st h ls H locs (lv_sub hl [0, 1] rfl) hP hS
set_option maxHeartbeats 4000000 in
set_option maxRecDepth 100000 in
theorem zw_IN_numberOfTrailingZeros_II_49 (hM : zs_M p c cIN_numberOfTrailingZeros_II 2 s m meth args "java/lang/Integer" (some .int) g)   {K : Int32 → zs_T → Prop}   (l0 : Int32) (l1 : Int32) (st : zs_T) (h : zf_IN_numberOfTrailingZeros_II_49 K l0 l1 st) : zs_Go p l e (zs_rm 0 0) s m args below meth c g A (MQ below (zs_Qi g zs_ly zs_N A K) args s 0 0 A) 2 49 [(0, .int l0), (1, .int l1)] [] st := by
  obtain ⟨hx, hb, hml, hr, hlk, hts, hown, hK⟩ := id hM
  intro ls H locs hl hP hS
  unfold zf_IN_numberOfTrailingZeros_II_49 at h
  refine lv_iload_n hx hb dIN_numberOfTrailingZeros_II_49 rfl (lv_at hl 0 rfl) ?_
  refine lv_bipush (v := 16) hx hb dIN_numberOfTrailingZeros_II_50 (by decide) ?_
  refine lv_icmp_le (tgt := 62) hx hb dIN_numberOfTrailingZeros_II_52 rfl (fun hc => ?_) (fun hc => ?_)
  · have h := h.1 hc
    clear hc
    exact zw_IN_numberOfTrailingZeros_II_62 hM  l0 l1 st h ls H locs (lv_sub hl [0, 1] rfl) hP hS
  · have h := h.2 hc
    clear hc
    refine lv_iinc (k := 1) (v := l1 + 4) hx hb dIN_numberOfTrailingZeros_II_55 hl rfl (by rw [show Int32.ofInt (4) = 4 from by decide]) (by decide) rfl (fun ls hl => ?_)
    have hl : lv_has ls 2 [(1, .int (l1 + 4)), (0, .int l0)] := hl
    refine lv_iload_n hx hb dIN_numberOfTrailingZeros_II_58 rfl (lv_at hl 1 rfl) ?_
    refine lv_iconst (v := 4) hx hb dIN_numberOfTrailingZeros_II_59 (by decide) ?_
    refine lv_iushr hx hb dIN_numberOfTrailingZeros_II_60 rfl ?_
    refine lv_istore_n hx hb dIN_numberOfTrailingZeros_II_61 rfl hl (by decide) rfl (fun ls hl => ?_)
    have hl : lv_has ls 2 [(0, .int ((l0.toUInt32 >>> ((4 : Int32).toUInt32 &&& Int32.toUInt32 31)).toInt32)), (1, .int (l1 + 4))] := hl
    exact zw_IN_numberOfTrailingZeros_II_62 hM  ((l0.toUInt32 >>> ((4 : Int32).toUInt32 &&& Int32.toUInt32 31)).toInt32) (l1 + 4) st h ls H locs (lv_sub hl [0, 1] rfl) hP hS
set_option maxHeartbeats 4000000 in
set_option maxRecDepth 100000 in
theorem zw_IN_numberOfTrailingZeros_II_34 (hM : zs_M p c cIN_numberOfTrailingZeros_II 2 s m meth args "java/lang/Integer" (some .int) g)   {K : Int32 → zs_T → Prop}   (l0 : Int32) (l1 : Int32) (st : zs_T) (h : zf_IN_numberOfTrailingZeros_II_34 K l0 l1 st) : zs_Go p l e (zs_rm 0 0) s m args below meth c g A (MQ below (zs_Qi g zs_ly zs_N A K) args s 0 0 A) 2 34 [(0, .int l0), (1, .int l1)] [] st := by
  obtain ⟨hx, hb, hml, hr, hlk, hts, hown, hK⟩ := id hM
  intro ls H locs hl hP hS
  unfold zf_IN_numberOfTrailingZeros_II_34 at h
  refine lv_iload_n hx hb dIN_numberOfTrailingZeros_II_34 rfl (lv_at hl 0 rfl) ?_
  refine lv_sipush (v := 256) hx hb dIN_numberOfTrailingZeros_II_35 (by decide) ?_
  refine lv_icmp_le (tgt := 49) hx hb dIN_numberOfTrailingZeros_II_38 rfl (fun hc => ?_) (fun hc => ?_)
  · have h := h.1 hc
    clear hc
    exact zw_IN_numberOfTrailingZeros_II_49 hM  l0 l1 st h ls H locs (lv_sub hl [0, 1] rfl) hP hS
  · have h := h.2 hc
    clear hc
    refine lv_iinc (k := 1) (v := l1 + 8) hx hb dIN_numberOfTrailingZeros_II_41 hl rfl (by rw [show Int32.ofInt (8) = 8 from by decide]) (by decide) rfl (fun ls hl => ?_)
    have hl : lv_has ls 2 [(1, .int (l1 + 8)), (0, .int l0)] := hl
    refine lv_iload_n hx hb dIN_numberOfTrailingZeros_II_44 rfl (lv_at hl 1 rfl) ?_
    refine lv_bipush (v := 8) hx hb dIN_numberOfTrailingZeros_II_45 (by decide) ?_
    refine lv_iushr hx hb dIN_numberOfTrailingZeros_II_47 rfl ?_
    refine lv_istore_n hx hb dIN_numberOfTrailingZeros_II_48 rfl hl (by decide) rfl (fun ls hl => ?_)
    have hl : lv_has ls 2 [(0, .int ((l0.toUInt32 >>> ((8 : Int32).toUInt32 &&& Int32.toUInt32 31)).toInt32)), (1, .int (l1 + 8))] := hl
    exact zw_IN_numberOfTrailingZeros_II_49 hM  ((l0.toUInt32 >>> ((8 : Int32).toUInt32 &&& Int32.toUInt32 31)).toInt32) (l1 + 8) st h ls H locs (lv_sub hl [0, 1] rfl) hP hS
set_option maxHeartbeats 4000000 in
set_option maxRecDepth 100000 in
theorem zc_IN_numberOfTrailingZeros_II (l : Launch) (g : zs_G) (A : Nat → Prop) {l0 : Int32}  {st : zs_T} {K : Int32 → zs_T → Prop} (h : zf_IN_numberOfTrailingZeros_II l0 st K) : Met l yIN_numberOfTrailingZeros_II (.code yIN_numberOfTrailingZeros_II cIN_numberOfTrailingZeros_II 2 (some .int) :: zs_tb) (zs_rm 0 0) (zs_Pc zs_nl g zs_ly zs_N A [.int l0] st) (zs_Qi g zs_ly zs_N A K) 0 0 A := by
  refine zs_met (cc := cIN_numberOfTrailingZeros_II) (maxL := 2) (ret := (some .int)) (by decide) (Nat.le_of_ble_eq_true rfl) (fun p e s m below meth c hM => ?_)
  have hM : zs_M p c cIN_numberOfTrailingZeros_II 2 s m meth [.int l0].toArray "java/lang/Integer" (some .int) g := hM
  obtain ⟨hx, hb, hml, hr, hlk, hts, hown, hK⟩ := id hM
  intro ls H locs hl hP hS
  have hl : lv_has ls 2 [(0, .int l0)] := hl
  unfold zf_IN_numberOfTrailingZeros_II at h
  refine lv_iload_n hx hb dIN_numberOfTrailingZeros_II_0 rfl (lv_at hl 0 rfl) ?_
  refine lv_iconst (v := (-1)) hx hb dIN_numberOfTrailingZeros_II_1 (by decide) ?_
  refine lv_ixor hx hb dIN_numberOfTrailingZeros_II_2 ?_
  refine lv_iload_n hx hb dIN_numberOfTrailingZeros_II_3 rfl (lv_at hl 0 rfl) ?_
  refine lv_iconst (v := 1) hx hb dIN_numberOfTrailingZeros_II_4 (by decide) ?_
  refine lv_isub hx hb dIN_numberOfTrailingZeros_II_5 ?_
  refine lv_iand hx hb dIN_numberOfTrailingZeros_II_6 ?_
  refine lv_istore_n hx hb dIN_numberOfTrailingZeros_II_7 rfl hl (by decide) rfl (fun ls hl => ?_)
  have hl : lv_has ls 2 [(0, .int ((l0 ^^^ (-1)) &&& (l0 - 1)))] := hl
  refine lv_iload_n hx hb dIN_numberOfTrailingZeros_II_8 rfl (lv_at hl 0 rfl) ?_
  refine lv_if_gt (tgt := 17) hx hb dIN_numberOfTrailingZeros_II_9 rfl (fun hc => ?_) (fun hc => ?_)
  · have h := h.1 hc
    clear hc
    refine lv_iconst (v := 1) hx hb dIN_numberOfTrailingZeros_II_17 (by decide) ?_
    refine lv_istore_n hx hb dIN_numberOfTrailingZeros_II_18 rfl hl (by decide) rfl (fun ls hl => ?_)
    have hl : lv_has ls 2 [(1, .int 1), (0, .int ((l0 ^^^ (-1)) &&& (l0 - 1)))] := hl
    refine lv_iload_n hx hb dIN_numberOfTrailingZeros_II_19 rfl (lv_at hl 1 rfl) ?_
    refine lv_ldcw hx hb hown (hts _ zq_522) dIN_numberOfTrailingZeros_II_20 ?_
    refine lv_icmp_le (tgt := 34) hx hb dIN_numberOfTrailingZeros_II_23 rfl (fun hc => ?_) (fun hc => ?_)
    · have h := h.1 hc
      clear hc
      exact zw_IN_numberOfTrailingZeros_II_34 hM  ((l0 ^^^ (-1)) &&& (l0 - 1)) 1 st h ls H locs (lv_sub hl [1, 0] rfl) hP hS
    · have h := h.2 hc
      clear hc
      refine lv_iinc (k := 0) (v := 1 + 16) hx hb dIN_numberOfTrailingZeros_II_26 hl rfl (by rw [show Int32.ofInt (16) = 16 from by decide]) (by decide) rfl (fun ls hl => ?_)
      have hl : lv_has ls 2 [(1, .int (1 + 16)), (0, .int ((l0 ^^^ (-1)) &&& (l0 - 1)))] := hl
      refine lv_iload_n hx hb dIN_numberOfTrailingZeros_II_29 rfl (lv_at hl 1 rfl) ?_
      refine lv_bipush (v := 16) hx hb dIN_numberOfTrailingZeros_II_30 (by decide) ?_
      refine lv_iushr hx hb dIN_numberOfTrailingZeros_II_32 rfl ?_
      refine lv_istore_n hx hb dIN_numberOfTrailingZeros_II_33 rfl hl (by decide) rfl (fun ls hl => ?_)
      have hl : lv_has ls 2 [(0, .int ((((l0 ^^^ (-1)) &&& (l0 - 1)).toUInt32 >>> ((16 : Int32).toUInt32 &&& Int32.toUInt32 31)).toInt32)), (1, .int (1 + 16))] := hl
      exact zw_IN_numberOfTrailingZeros_II_34 hM  ((((l0 ^^^ (-1)) &&& (l0 - 1)).toUInt32 >>> ((16 : Int32).toUInt32 &&& Int32.toUInt32 31)).toInt32) (1 + 16) st h ls H locs (lv_sub hl [0, 1] rfl) hP hS
  · have h := h.2 hc
    clear hc
    refine lv_iload_n hx hb dIN_numberOfTrailingZeros_II_12 rfl (lv_at hl 0 rfl) ?_
    refine lv_bipush (v := 32) hx hb dIN_numberOfTrailingZeros_II_13 (by decide) ?_
    refine lv_iand hx hb dIN_numberOfTrailingZeros_II_15 ?_
    exact zr_iret hx hb hr hlk hP hS h dIN_numberOfTrailingZeros_II_16
end ZW
