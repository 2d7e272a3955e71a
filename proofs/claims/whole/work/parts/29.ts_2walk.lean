section ZW
variable {p : Program} {l : Launch} {e : Env} {s : State} {m : MethodId} {args : Array Value} {below : List Frame} {meth : Method} {c : Code} {g : zs_G} {A : Nat → Prop}
set_option maxHeartbeats 4000000 in
set_option maxRecDepth 100000 in
theorem zc_TS_needPresent (l : Launch) (g : zs_G) (A : Nat → Prop) {l0 : Int32}  {st : zs_T} {K : zs_T → Prop} (h : zf_TS_needPresent l0 st K) : Met l yTS_needPresent (.code yTS_needPresent cTS_needPresent 1 none :: zs_tb) (zs_rm 7 104) (zs_Pc zs_nl g zs_ly zs_N A [.int l0] st) (zs_Qv g zs_ly zs_N A K) 0 0 A := by
  refine zs_met (cc := cTS_needPresent) (maxL := 1) (ret := none) (by decide) (Nat.le_of_ble_eq_true rfl) (fun p e s m below meth c hM => ?_)
  have hM : zs_M p c cTS_needPresent 1 s m meth [.int l0].toArray "ThriftyStores" none g := hM
  obtain ⟨hx, hb, hml, hr, hlk, hts, hown, hK⟩ := id hM
  intro ls H locs hl hP hS
  have hl : lv_has ls 1 [(0, .int l0)] := hl
  unfold zf_TS_needPresent at h
  refine lv_iload_n hx hb dTS_needPresent_0 rfl (lv_at hl 0 rfl) ?_
  refine lv_if_ne (tgt := 14) hx hb dTS_needPresent_1 rfl (fun hc => ?_) (fun hc => ?_)
  · have h := h.1 hc
    clear hc
    exact zr_vret hx hb hr hlk hP hS h dTS_needPresent_14
  · have h := h.2 hc
    clear hc
    exact h.elim
set_option maxHeartbeats 4000000 in
set_option maxRecDepth 100000 in
theorem zc_TS_needSensible (l : Launch) (g : zs_G) (A : Nat → Prop) {l0 : Int32}  {st : zs_T} {K : zs_T → Prop} (h : zf_TS_needSensible l0 st K) : Met l yTS_needSensible (.code yTS_needSensible cTS_needSensible 1 none :: zs_tb) (zs_rm 7 104) (zs_Pc zs_nl g zs_ly zs_N A [.int l0] st) (zs_Qv g zs_ly zs_N A K) 0 0 A := by
  refine zs_met (cc := cTS_needSensible) (maxL := 1) (ret := none) (by decide) (Nat.le_of_ble_eq_true rfl) (fun p e s m below meth c hM => ?_)
  have hM : zs_M p c cTS_needSensible 1 s m meth [.int l0].toArray "ThriftyStores" none g := hM
  obtain ⟨hx, hb, hml, hr, hlk, hts, hown, hK⟩ := id hM
  intro ls H locs hl hP hS
  have hl : lv_has ls 1 [(0, .int l0)] := hl
  unfold zf_TS_needSensible at h
  refine lv_iload_n hx hb dTS_needSensible_0 rfl (lv_at hl 0 rfl) ?_
  refine lv_if_ne (tgt := 14) hx hb dTS_needSensible_1 rfl (fun hc => ?_) (fun hc => ?_)
  · have h := h.1 hc
    clear hc
    exact zr_vret hx hb hr hlk hP hS h dTS_needSensible_14
  · have h := h.2 hc
    clear hc
    exact h.elim
set_option maxHeartbeats 4000000 in
set_option maxRecDepth 100000 in
theorem zc_TS_needThrifty (l : Launch) (g : zs_G) (A : Nat → Prop) {l1 : Int32}  {st : zs_T} {K : zs_T → Prop} (h : zf_TS_needThrifty l1 st K) : Met l yTS_needThrifty (.code yTS_needThrifty cTS_needThrifty 2 none :: zs_tb) (zs_rm 7 104) (zs_Pc zs_nl g zs_ly zs_N A [.ref (g.2.1 0), .int l1] st) (zs_Qv g zs_ly zs_N A K) 0 0 A := by
  refine zs_met (cc := cTS_needThrifty) (maxL := 2) (ret := none) (by decide) (Nat.le_of_ble_eq_true rfl) (fun p e s m below meth c hM => ?_)
  have hM : zs_M p c cTS_needThrifty 2 s m meth [.ref (g.2.1 0), .int l1].toArray "ThriftyStores" none g := hM
  obtain ⟨hx, hb, hml, hr, hlk, hts, hown, hK⟩ := id hM
  intro ls H locs hl hP hS
  have hl : lv_has ls 2 [(0, .ref (g.2.1 0)), (1, .int l1)] := hl
  unfold zf_TS_needThrifty at h
  refine lv_iload_n hx hb dTS_needThrifty_0 rfl (lv_at hl 1 rfl) ?_
  refine lv_if_ne (tgt := 21) hx hb dTS_needThrifty_1 rfl (fun hc => ?_) (fun hc => ?_)
  · have h := h.1 hc
    clear hc
    exact zr_vret hx hb hr hlk hP hS h dTS_needThrifty_21
  · have h := h.2 hc
    clear hc
    refine lv_aload_n hx hb dTS_needThrifty_4 rfl (lv_at hl 0 rfl) ?_
    refine zr_geti hx hb hts zi_TS hown hK.1 hP zl_0.1 zl_0.2 rfl 7 (by decide) rfl (hts _ zq_208) dTS_needThrifty_5 ?_
    refine lv_if_ne (tgt := 21) hx hb dTS_needThrifty_8 rfl (fun hc => ?_) (fun hc => ?_)
    · have h := h.1 hc
      clear hc
      exact zr_vret hx hb hr hlk hP hS h dTS_needThrifty_21
    · have h := h.2 hc
      clear hc
      exact h.elim
set_option maxHeartbeats 4000000 in
set_option maxRecDepth 100000 in
theorem zw_TS_add_41 (hM : zs_M p c cTS_add 5 s m meth args "ThriftyStores" (some .int) g)   {K : Int32 → zs_T → Prop}    (st : zs_T) (h : zf_TS_add_41 K  st) : zs_Go p l e (zs_rm 7 104) s m args below meth c g A (MQ below (zs_Qi g zs_ly zs_N A K) args s 0 0 A) 5 41 [] [] st := by
  obtain ⟨hx, hb, hml, hr, hlk, hts, hown, hK⟩ := id hM
  intro ls H locs hl hP hS
  unfold zf_TS_add_41 at h
  exact h.elim
set_option maxHeartbeats 4000000 in
set_option maxRecDepth 100000 in
theorem zc_TS_add (l : Launch) (g : zs_G) (A : Nat → Prop) {l1 : Int32} {l2 : Int32} {l3 : Int32} {l4 : Int32}  {st : zs_T} {K : Int32 → zs_T → Prop} (h : zf_TS_add l1 l2 l3 l4 st K) : Met l yTS_add (.code yTS_add cTS_add 5 (some .int) :: zs_tb) (zs_rm 7 104) (zs_Pc zs_nl g zs_ly zs_N A [.ref (g.2.1 0), .int l1, .int l2, .int l3, .int l4] st) (zs_Qi g zs_ly zs_N A K) 0 0 A := by
  refine zs_met (cc := cTS_add) (maxL := 5) (ret := (some .int)) (by decide) (Nat.le_of_ble_eq_true rfl) (fun p e s m below meth c hM => ?_)
  have hM : zs_M p c cTS_add 5 s m meth [.ref (g.2.1 0), .int l1, .int l2, .int l3, .int l4].toArray "ThriftyStores" (some .int) g := hM
  obtain ⟨hx, hb, hml, hr, hlk, hts, hown, hK⟩ := id hM
  intro ls H locs hl hP hS
  have hl : lv_has ls 5 [(0, .ref (g.2.1 0)), (1, .int l1), (2, .int l2), (3, .int l3), (4, .int l4)] := hl
  unfold zf_TS_add at h
  refine lv_iload_n hx hb dTS_add_0 rfl (lv_at hl 1 rfl) ?_
  refine lv_iload_n hx hb dTS_add_1 rfl (lv_at hl 2 rfl) ?_
  refine lv_iload_n hx hb dTS_add_2 rfl (lv_at hl 3 rfl) ?_
  refine lv_iload hx hb dTS_add_3 (lv_at hl 4 rfl) ?_
  refine zr_calli (va_runS (As := [.int l1, .int l2, .int l3, .int l4]) (rest := []) ⟨hx, hb, hml, hown, hts⟩ (zc_PR_mayStand l g A  h) (va_cwS 4 hts (zs_gS zq_262 zq_263 zq_2 zq_264) rfl rfl rfl ⟨by decide, by decide, by decide +kernel⟩ ⟨Nat.le_of_ble_eq_true rfl, Nat.le_of_ble_eq_true rfl⟩) (zs_preS zs_nwk hK hP) rfl rfl hl.1 rfl (lv_room (Nat.le_of_ble_eq_true rfl)) dTS_add_5 ⟨Nat.le_refl _, Nat.le_refl _⟩) hS (fun r2 u1 H locs h hP hS => ?_)
  refine lv_if_ne (tgt := 21) hx hb dTS_add_8 rfl (fun hc => ?_) (fun hc => ?_)
  · have h := h.1 hc
    clear hc
    refine lv_aload_n hx hb dTS_add_21 rfl (lv_at hl 0 rfl) ?_
    refine zr_geti hx hb hts zi_TS hown hK.1 hP zl_0.1 zl_0.2 rfl 7 (by decide) rfl (hts _ zq_208) dTS_add_22 ?_
    refine lv_if_ne (tgt := 41) hx hb dTS_add_25 rfl (fun hc => ?_) (fun hc => ?_)
    · have h := h.1 hc
      clear hc
      exact zw_TS_add_41 hM  u1 h ls H locs (lv_sub hl [] rfl) hP hS
    · have h := h.2 hc
      clear hc
      refine lv_aload_n hx hb dTS_add_28 rfl (lv_at hl 0 rfl) ?_
      refine zr_getr (b := 1) hx hb hts zi_TS hown hK.1 hP zl_0.1 zl_0.2 rfl 0 (by decide) rfl (hts _ zq_201) dTS_add_29 ?_
      refine zr_geti hx hb hts zi_PR hown hK.1 hP zs_Pr_1.1.1 zs_Pr_1.1.2 rfl 4 (by decide) rfl (hts _ zq_57) dTS_add_32 ?_
      refine lv_sipush (v := 200) hx hb dTS_add_35 (by decide) ?_
      refine lv_icmp_lt (tgt := 51) hx hb dTS_add_38 rfl (fun hc => ?_) (fun hc => ?_)
      · have h := h.1 hc
        clear hc
        refine lv_aload_n hx hb dTS_add_51 rfl (lv_at hl 0 rfl) ?_
        refine zr_getr (b := 1) hx hb hts zi_TS hown hK.1 hP zl_0.1 zl_0.2 rfl 0 (by decide) rfl (hts _ zq_201) dTS_add_52 ?_
        refine lv_iload_n hx hb dTS_add_55 rfl (lv_at hl 1 rfl) ?_
        refine lv_iload_n hx hb dTS_add_56 rfl (lv_at hl 2 rfl) ?_
        refine lv_iload_n hx hb dTS_add_57 rfl (lv_at hl 3 rfl) ?_
        refine lv_iload hx hb dTS_add_58 (lv_at hl 4 rfl) ?_
        refine zr_calli (va_runV (As := [.int l1, .int l2, .int l3, .int l4]) (rest := []) ⟨hx, hb, hml, hown, hts⟩ (zc_PR_append l g A zs_Pr_1 h) (cwV 4 hts (zs_gV zq_355 zq_356 zq_357 zq_2 zq_358) rfl rfl rfl ⟨rfl, by decide, by decide, by decide +kernel⟩ ⟨Nat.le_of_ble_eq_true rfl, Nat.le_of_ble_eq_true rfl⟩) (zs_preV zs_nwk hK hP zs_Pr_1.1.1 zs_Pr_1.1.2 rfl) rfl rfl hl.1 rfl (lv_room (Nat.le_of_ble_eq_true rfl)) dTS_add_60 ⟨Nat.le_refl _, Nat.le_refl _⟩) hS (fun r4 u3 H locs h hP hS => ?_)
        exact zr_iret hx hb hr hlk hP hS h dTS_add_63
      · have h := h.2 hc
        clear hc
        exact zw_TS_add_41 hM  u1 h ls H locs (lv_sub hl [] rfl) hP hS
  · have h := h.2 hc
    clear hc
    exact h.elim
set_option maxHeartbeats 4000000 in
set_option maxRecDepth 100000 in
theorem zw_TS_thrift_81 (hM : zs_M p c cTS_thrift 3 s m meth args "ThriftyStores" (some .int) g)   {K : Int32 → zs_T → Prop}   (l1 : Int32) (st : zs_T) (h : zf_TS_thrift_81 K l1 st) : zs_Go p l e (zs_rm 7 146) s m args below meth c g A (MQ below (zs_Qi g zs_ly zs_N A K) args s 0 0 A) 3 81 [(0, .ref (g.2.1 0)), (1, .int l1)] [] st := by
  obtain ⟨hx, hb, hml, hr, hlk, hts, hown, hK⟩ := id hM
  intro ls H locs hl hP hS
  unfold zf_TS_thrift_81 at h
  refine lv_aload_n hx hb dTS_thrift_81 rfl (lv_at hl 0 rfl) ?_
  refine lv_aload_n hx hb dTS_thrift_82 rfl (lv_at hl 0 rfl) ?_
  refine zr_getr (b := 1) hx hb hts zi_TS hown hK.1 hP zl_0.1 zl_0.2 rfl 0 (by decide) rfl (hts _ zq_201) dTS_thrift_83 ?_
  refine zr_callv (va_runV (As := [.ref (g.2.1 1)]) (rest := []) ⟨hx, hb, hml, hown, hts⟩ (zc_TS_lookThrough l g A zs_Pr_1 h) (cwV 1 hts (zs_gV zq_381 zq_383 zp_2 zq_1 zq_384) rfl rfl rfl ⟨rfl, by decide, by decide, by decide +kernel⟩ ⟨Nat.le_of_ble_eq_true rfl, Nat.le_of_ble_eq_true rfl⟩) (zs_preV zs_nwk hK hP zl_0.1 zl_0.2 rfl) rfl rfl hl.1 rfl (lv_room (Nat.le_of_ble_eq_true rfl)) dTS_thrift_86 ⟨Nat.le_refl _, Nat.le_refl _⟩) hS (fun u201 H locs h hP hS => ?_)
  refine lv_aload_n hx hb dTS_thrift_89 rfl (lv_at hl 0 rfl) ?_
  refine lv_iconst (v := 1) hx hb dTS_thrift_90 (by decide) ?_
  refine zr_put hx hb hts zi_TS tyTS tyTS_ok nmTS hown hK.1 hP hS zl_0.1 zl_0.2 rfl 7 (by decide) rfl (hts _ zq_208) rfl rfl rfl dTS_thrift_91 (fun H locs hP hS => ?_)
  obtain ⟨t202, ez⟩ : ∃ tz : zs_T, tz = zs_i u201 0 7 1 := ⟨_, rfl⟩
  have h := h t202 ez
  have hP : zs_P g zs_ly zs_N A t202 H := by rw [ez]; exact hP
  clear ez
  refine lv_iload_n hx hb dTS_thrift_94 rfl (lv_at hl 1 rfl) ?_
  exact zr_iret hx hb hr hlk hP hS h dTS_thrift_95
set_option maxHeartbeats 4000000 in
set_option maxRecDepth 100000 in
theorem zw_TS_thrift_45_s (hM : zs_M p c cTS_thrift 3 s m meth args "ThriftyStores" (some .int) g)   {K : Int32 → zs_T → Prop}  {B45 : Int32 → Int32 → zs_T → Prop}  (hB45 : ∀ (l1 : Int32) (l2 : Int32) (st : zs_T), B45 l1 l2 st → zs_Go p l e (zs_rm 7 146) s m args below meth c g A (MQ below (zs_Qi g zs_ly zs_N A K) args s 0 0 A) 3 45 [(0, .ref (g.2.1 0)), (1, .int l1), (2, .int l2)] [] st) (l1 : Int32) (l2 : Int32) (st : zs_T) (h : zf_TS_thrift_45_s K B45 l1 l2 st) : zs_Go p l e (zs_rm 7 146) s m args below meth c g A (MQ below (zs_Qi g zs_ly zs_N A K) args s 0 0 A) 3 45 [(0, .ref (g.2.1 0)), (1, .int l1), (2, .int l2)] [] st := by
  obtain ⟨hx, hb, hml, hr, hlk, hts, hown, hK⟩ := id hM
  intro ls H locs hl hP hS
  unfold zf_TS_thrift_45_s at h
  refine lv_iload_n hx hb dTS_thrift_45 rfl (lv_at hl 2 rfl) ?_
  refine lv_if_eq (tgt := 81) hx hb dTS_thrift_46 rfl (fun hc => ?_) (fun hc => ?_)
  · have h := h.1 hc
    clear hc
    exact zw_TS_thrift_81 hM  l1 st h ls H locs (lv_sub hl [0, 1] rfl) hP hS
  · have h := h.2 hc
    clear hc
    refine lv_aload_n hx hb dTS_thrift_49 rfl (lv_at hl 0 rfl) ?_
    refine zr_geti hx hb hts zi_TS hown hK.1 hP zl_0.1 zl_0.2 rfl 8 (by decide) rfl (hts _ zq_209) dTS_thrift_50 ?_
    refine lv_sipush (v := 1000) hx hb dTS_thrift_53 (by decide) ?_
    refine lv_icmp_ge (tgt := 81) hx hb dTS_thrift_56 rfl (fun hc => ?_) (fun hc => ?_)
    · have h := h.1 hc
      clear hc
      exact zw_TS_thrift_81 hM  l1 st h ls H locs (lv_sub hl [0, 1] rfl) hP hS
    · have h := h.2 hc
      clear hc
      refine lv_aload_n hx hb dTS_thrift_59 rfl (lv_at hl 0 rfl) ?_
      refine zr_calli (va_runV (As := []) (rest := []) ⟨hx, hb, hml, hown, hts⟩ (zc_TS_makeRound l g A  h) (cwV 0 hts (zs_gV zq_377 zq_379 zp_1 zq_1 zq_380) rfl rfl rfl ⟨rfl, by decide, by decide, by decide +kernel⟩ ⟨Nat.le_of_ble_eq_true rfl, Nat.le_of_ble_eq_true rfl⟩) (zs_preV zs_nwk hK hP zl_0.1 zl_0.2 rfl) rfl rfl hl.1 rfl (lv_room (Nat.le_of_ble_eq_true rfl)) dTS_thrift_60 ⟨Nat.le_refl _, Nat.le_refl _⟩) hS (fun r102 u101 H locs h hP hS => ?_)
      refine lv_istore_n hx hb dTS_thrift_63 rfl hl (by decide) rfl (fun ls hl => ?_)
      have hl : lv_has ls 3 [(2, .int r102), (0, .ref (g.2.1 0)), (1, .int l1)] := hl
      refine lv_iload_n hx hb dTS_thrift_64 rfl (lv_at hl 2 rfl) ?_
      refine lv_iload_n hx hb dTS_thrift_65 rfl (lv_at hl 0 rfl) ?_
      refine lv_iadd hx hb dTS_thrift_66 ?_
      refine lv_istore_n hx hb dTS_thrift_67 rfl hl (by decide) rfl (fun ls hl => ?_)
      have hl : lv_has ls 3 [(1, .int (l1 + r102)), (2, .int r102), (0, .ref (g.2.1 0))] := hl
      refine lv_aload_n hx hb dTS_thrift_68 rfl (lv_at hl 2 rfl) ?_
      refine lv_dup hx hb dTS_thrift_69 rfl ?_
      refine zr_geti hx hb hts zi_TS hown hK.1 hP zl_0.1 zl_0.2 rfl 8 (by decide) rfl (hts _ zq_209) dTS_thrift_70 ?_
      refine lv_iconst (v := 1) hx hb dTS_thrift_73 (by decide) ?_
      refine lv_iadd hx hb dTS_thrift_74 ?_
      refine zr_put hx hb hts zi_TS tyTS tyTS_ok nmTS hown hK.1 hP hS zl_0.1 zl_0.2 rfl 8 (by decide) rfl (hts _ zq_209) rfl rfl rfl dTS_thrift_75 (fun H locs hP hS => ?_)
      obtain ⟨t103, ez⟩ : ∃ tz : zs_T, tz = zs_i u101 0 8 ((u101.1 0 8) + 1) := ⟨_, rfl⟩
      have h := h t103 ez
      have hP : zs_P g zs_ly zs_N A t103 H := by rw [ez]; exact hP
      clear ez
      refine lv_goto (tgt := 45) hx hb dTS_thrift_78 rfl ?_
      exact hB45 (l1 + r102) r102 t103 h ls H locs (lv_sub hl [2, 0, 1] rfl) hP hS
theorem zw_TS_thrift_45 (hM : zs_M p c cTS_thrift 3 s m meth args "ThriftyStores" (some .int) g)   {K : Int32 → zs_T → Prop}   : ∀ (n : Nat) (l1 : Int32) (l2 : Int32) (st : zs_T), zf_TS_thrift_45 K n l1 l2 st → zs_Go p l e (zs_rm 7 146) s m args below meth c g A (MQ below (zs_Qi g zs_ly zs_N A K) args s 0 0 A) 3 45 [(0, .ref (g.2.1 0)), (1, .int l1), (2, .int l2)] [] st := by
  intro n
  induction n with
  | zero => intro l1 l2 st h; exact False.elim h
  | succ n ih => intro l1 l2 st h; exact zw_TS_thrift_45_s hM  ih l1 l2 st h
set_option maxHeartbeats 4000000 in
set_option maxRecDepth 100000 in
theorem zc_TS_thrift (l : Launch) (g : zs_G) (A : Nat → Prop)   {st : zs_T} {K : Int32 → zs_T → Prop} (h : zf_TS_thrift  st K) : Met l yTS_thrift (.code yTS_thrift cTS_thrift 3 (some .int) :: zs_tb) (zs_rm 7 146) (zs_Pc zs_nl g zs_ly zs_N A [.ref (g.2.1 0)] st) (zs_Qi g zs_ly zs_N A K) 0 0 A := by
  refine zs_met (cc := cTS_thrift) (maxL := 3) (ret := (some .int)) (by decide) (Nat.le_of_ble_eq_true rfl) (fun p e s m below meth c hM => ?_)
  have hM : zs_M p c cTS_thrift 3 s m meth [.ref (g.2.1 0)].toArray "ThriftyStores" (some .int) g := hM
  obtain ⟨hx, hb, hml, hr, hlk, hts, hown, hK⟩ := id hM
  intro ls H locs hl hP hS
  have hl : lv_has ls 3 [(0, .ref (g.2.1 0))] := hl
  unfold zf_TS_thrift at h
  refine lv_aload_n hx hb dTS_thrift_0 rfl (lv_at hl 0 rfl) ?_
  refine zr_geti hx hb hts zi_TS hown hK.1 hP zl_0.1 zl_0.2 rfl 7 (by decide) rfl (hts _ zq_208) dTS_thrift_1 ?_
  refine lv_if_eq (tgt := 17) hx hb dTS_thrift_4 rfl (fun hc => ?_) (fun hc => ?_)
  · have h := h.1 hc
    clear hc
    refine lv_aload_n hx hb dTS_thrift_17 rfl (lv_at hl 0 rfl) ?_
    refine zr_getr (b := 6) hx hb hts zi_TS hown hK.1 hP zl_0.1 zl_0.2 rfl 1 (by decide) rfl (hts _ zq_202) dTS_thrift_18 ?_
    refine lv_aload_n hx hb dTS_thrift_21 rfl (lv_at hl 0 rfl) ?_
    refine zr_getr (b := 1) hx hb hts zi_TS hown hK.1 hP zl_0.1 zl_0.2 rfl 0 (by decide) rfl (hts _ zq_201) dTS_thrift_22 ?_
    refine zr_callv (va_runV (As := [.ref (g.2.1 1)]) (rest := []) ⟨hx, hb, hml, hown, hts⟩ (zc_PR_copy l g A zs_Pr_6 zs_Pr_1 h) (cwV 1 hts (zs_gV zq_367 zq_368 zq_369 zq_2 zq_370) rfl rfl rfl ⟨rfl, by decide, by decide, by decide +kernel⟩ ⟨Nat.le_of_ble_eq_true rfl, Nat.le_of_ble_eq_true rfl⟩) (zs_preV zs_nwk hK hP zs_Pr_6.1.1 zs_Pr_6.1.2 rfl) rfl rfl hl.1 rfl (lv_room (Nat.le_of_ble_eq_true rfl)) dTS_thrift_25 ⟨Nat.le_refl _, Nat.le_refl _⟩) hS (fun u1 H locs h hP hS => ?_)
    refine lv_aload_n hx hb dTS_thrift_28 rfl (lv_at hl 0 rfl) ?_
    refine zr_getr (b := 11) hx hb hts zi_TS hown hK.1 hP zl_0.1 zl_0.2 rfl 2 (by decide) rfl (hts _ zq_203) dTS_thrift_29 ?_
    refine lv_iconst (v := 0) hx hb dTS_thrift_32 (by decide) ?_
    refine zr_callv (va_runS (As := [.ref (g.2.1 11), .int 0]) (rest := []) ⟨hx, hb, hml, hown, hts⟩ (zc_AR_fill_AIIV l g A zl_11 h) (va_cwS 2 hts (zs_gS zq_374 zq_375 zq_15 zq_376) rfl rfl rfl ⟨by decide, by decide, by decide +kernel⟩ ⟨Nat.le_of_ble_eq_true rfl, Nat.le_of_ble_eq_true rfl⟩) (zs_preS zs_nwk hK hP) rfl rfl hl.1 rfl (lv_room (Nat.le_of_ble_eq_true rfl)) dTS_thrift_33 ⟨Nat.le_refl _, Nat.le_refl _⟩) hS (fun u2 H locs h hP hS => ?_)
    refine lv_iconst (v := 0) hx hb dTS_thrift_36 (by decide) ?_
    refine lv_istore_n hx hb dTS_thrift_37 rfl hl (by decide) rfl (fun ls hl => ?_)
    have hl : lv_has ls 3 [(1, .int 0), (0, .ref (g.2.1 0))] := hl
    refine lv_iconst (v := (-1)) hx hb dTS_thrift_38 (by decide) ?_
    refine lv_istore_n hx hb dTS_thrift_39 rfl hl (by decide) rfl (fun ls hl => ?_)
    have hl : lv_has ls 3 [(2, .int (-1)), (1, .int 0), (0, .ref (g.2.1 0))] := hl
    refine lv_aload_n hx hb dTS_thrift_40 rfl (lv_at hl 2 rfl) ?_
    refine lv_iconst (v := 0) hx hb dTS_thrift_41 (by decide) ?_
    refine zr_put hx hb hts zi_TS tyTS tyTS_ok nmTS hown hK.1 hP hS zl_0.1 zl_0.2 rfl 8 (by decide) rfl (hts _ zq_209) rfl rfl rfl dTS_thrift_42 (fun H locs hP hS => ?_)
    obtain ⟨t3, ez⟩ : ∃ tz : zs_T, tz = zs_i u2 0 8 0 := ⟨_, rfl⟩
    have h := h t3 ez
    have hP : zs_P g zs_ly zs_N A t3 H := by rw [ez]; exact hP
    clear ez
    obtain ⟨n, h⟩ := h
    exact zw_TS_thrift_45 hM  n 0 (-1) t3 h ls H locs (lv_sub hl [2, 1, 0] rfl) hP hS
  · have h := h.2 hc
    clear hc
    exact h.elim
set_option maxHeartbeats 4000000 in
set_option maxRecDepth 100000 in
theorem zw_TS_instruction_22 (hM : zs_M p c cTS_instruction 5 s m meth args "ThriftyStores" (some .int) g)   {K : Int32 → zs_T → Prop}   (l1 : Int32) (l2 : Int32) (l3 : Int32) (s0 : Int32) (st : zs_T) (h : zf_TS_instruction_22 K l1 l2 l3 s0 st) : zs_Go p l e (zs_rm 8 125) s m args below meth c g A (MQ below (zs_Qi g zs_ly zs_N A K) args s 0 0 A) 5 22 [(0, .ref (g.2.1 0)), (1, .int l1), (2, .int l2), (3, .int l3)] [.int s0] st := by
  obtain ⟨hx, hb, hml, hr, hlk, hts, hown, hK⟩ := id hM
  intro ls H locs hl hP hS
  unfold zf_TS_instruction_22 at h
  refine zr_callv (va_runS (As := [.int s0]) (rest := []) ⟨hx, hb, hml, hown, hts⟩ (zc_TS_needSensible l g A  h) (va_cwS 1 hts (zs_gS zq_566 zq_567 zq_1 zq_568) rfl rfl rfl ⟨by decide, by decide, by decide +kernel⟩ ⟨Nat.le_of_ble_eq_true rfl, Nat.le_of_ble_eq_true rfl⟩) (zs_preS zs_nwk hK hP) rfl rfl hl.1 rfl (lv_room (Nat.le_of_ble_eq_true rfl)) dTS_instruction_22 ⟨Nat.le_refl _, Nat.le_refl _⟩) hS (fun u201 H locs h hP hS => ?_)
  refine lv_aload_n hx hb dTS_instruction_25 rfl (lv_at hl 0 rfl) ?_
  refine lv_iload_n hx hb dTS_instruction_26 rfl (lv_at hl 3 rfl) ?_
  refine zr_callv (va_runV (As := [.int l3]) (rest := []) ⟨hx, hb, hml, hown, hts⟩ (zc_TS_needThrifty l g A  h) (cwV 1 hts (zs_gV zq_570 zq_572 zp_23 zq_1 zq_573) rfl rfl rfl ⟨rfl, by decide, by decide, by decide +kernel⟩ ⟨Nat.le_of_ble_eq_true rfl, Nat.le_of_ble_eq_true rfl⟩) (zs_preV zs_nwk hK hP zl_0.1 zl_0.2 rfl) rfl rfl hl.1 rfl (lv_room (Nat.le_of_ble_eq_true rfl)) dTS_instruction_27 ⟨Nat.le_refl _, Nat.le_refl _⟩) hS (fun u202 H locs h hP hS => ?_)
  refine lv_iload_n hx hb dTS_instruction_30 rfl (lv_at hl 3 rfl) ?_
  refine lv_if_eq (tgt := 41) hx hb dTS_instruction_31 rfl (fun hc => ?_) (fun hc => ?_)
  · have h := h.1 hc
    clear hc
    refine lv_aload_n hx hb dTS_instruction_41 rfl (lv_at hl 0 rfl) ?_
    refine zr_getr (b := 6) hx hb hts zi_TS hown hK.1 hP zl_0.1 zl_0.2 rfl 1 (by decide) rfl (hts _ zq_202) dTS_instruction_42 ?_
    refine lv_astore hx hb dTS_instruction_45 hl (by decide) rfl (fun ls hl => ?_)
    have hl : lv_has ls 5 [(4, .ref (g.2.1 6)), (0, .ref (g.2.1 0)), (1, .int l1), (2, .int l2), (3, .int l3)] := hl
    refine lv_aload hx hb dTS_instruction_47 (lv_at hl 0 rfl) ?_
    refine lv_iload_n hx hb dTS_instruction_49 rfl (lv_at hl 2 rfl) ?_
    refine lv_iload_n hx hb dTS_instruction_50 rfl (lv_at hl 3 rfl) ?_
    refine zr_calli (va_runV (As := [.int l1, .int l2]) (rest := []) ⟨hx, hb, hml, hown, hts⟩ (zc_PR_part l g A zs_Pr_6 h) (cwV 2 hts (zs_gV zq_575 zq_576 zq_577 zq_2 zq_578) rfl rfl rfl ⟨rfl, by decide, by decide, by decide +kernel⟩ ⟨Nat.le_of_ble_eq_true rfl, Nat.le_of_ble_eq_true rfl⟩) (zs_preV zs_nwk hK hP zs_Pr_6.1.1 zs_Pr_6.1.2 rfl) rfl rfl hl.1 rfl (lv_room (Nat.le_of_ble_eq_true rfl)) dTS_instruction_51 ⟨Nat.le_refl _, Nat.le_refl _⟩) hS (fun r204 u203 H locs h hP hS => ?_)
    exact zr_iret hx hb hr hlk hP hS h dTS_instruction_54
  · have h := h.2 hc
    clear hc
    refine lv_aload_n hx hb dTS_instruction_34 rfl (lv_at hl 0 rfl) ?_
    refine zr_getr (b := 1) hx hb hts zi_TS hown hK.1 hP zl_0.1 zl_0.2 rfl 0 (by decide) rfl (hts _ zq_201) dTS_instruction_35 ?_
    refine lv_goto (tgt := 45) hx hb dTS_instruction_38 rfl ?_
    refine lv_astore hx hb dTS_instruction_45 hl (by decide) rfl (fun ls hl => ?_)
    have hl : lv_has ls 5 [(4, .ref (g.2.1 1)), (0, .ref (g.2.1 0)), (1, .int l1), (2, .int l2), (3, .int l3)] := hl
    refine lv_aload hx hb dTS_instruction_47 (lv_at hl 0 rfl) ?_
    refine lv_iload_n hx hb dTS_instruction_49 rfl (lv_at hl 2 rfl) ?_
    refine lv_iload_n hx hb dTS_instruction_50 rfl (lv_at hl 3 rfl) ?_
    refine zr_calli (va_runV (As := [.int l1, .int l2]) (rest := []) ⟨hx, hb, hml, hown, hts⟩ (zc_PR_part l g A zs_Pr_1 h) (cwV 2 hts (zs_gV zq_575 zq_576 zq_577 zq_2 zq_578) rfl rfl rfl ⟨rfl, by decide, by decide, by decide +kernel⟩ ⟨Nat.le_of_ble_eq_true rfl, Nat.le_of_ble_eq_true rfl⟩) (zs_preV zs_nwk hK hP zs_Pr_1.1.1 zs_Pr_1.1.2 rfl) rfl rfl hl.1 rfl (lv_room (Nat.le_of_ble_eq_true rfl)) dTS_instruction_51 ⟨Nat.le_refl _, Nat.le_refl _⟩) hS (fun r206 u205 H locs h hP hS => ?_)
    exact zr_iret hx hb hr hlk hP hS h dTS_instruction_54
set_option maxHeartbeats 4000000 in
set_option maxRecDepth 100000 in
theorem zw_TS_instruction_21 (hM : zs_M p c cTS_instruction 5 s m meth args "ThriftyStores" (some .int) g)   {K : Int32 → zs_T → Prop}   (l1 : Int32) (l2 : Int32) (l3 : Int32) (st : zs_T) (h : zf_TS_instruction_21 K l1 l2 l3 st) : zs_Go p l e (zs_rm 8 125) s m args below meth c g A (MQ below (zs_Qi g zs_ly zs_N A K) args s 0 0 A) 5 21 [(0, .ref (g.2.1 0)), (1, .int l1), (2, .int l2), (3, .int l3)] [] st := by
  obtain ⟨hx, hb, hml, hr, hlk, hts, hown, hK⟩ := id hM
  intro ls H locs hl hP hS
  unfold zf_TS_instruction_21 at h
  refine lv_iconst (v := 0) hx hb dTS_instruction_21 (by decide) ?_
  exact zw_TS_instruction_22 hM  l1 l2 l3 0 st h ls H locs (lv_sub hl [0, 1, 2, 3] rfl) hP hS
set_option maxHeartbeats 4000000 in
set_option maxRecDepth 100000 in
theorem zc_TS_instruction (l : Launch) (g : zs_G) (A : Nat → Prop) {l1 : Int32} {l2 : Int32} {l3 : Int32}  {st : zs_T} {K : Int32 → zs_T → Prop} (h : zf_TS_instruction l1 l2 l3 st K) : Met l yTS_instruction (.code yTS_instruction cTS_instruction 5 (some .int) :: zs_tb) (zs_rm 8 125) (zs_Pc zs_nl g zs_ly zs_N A [.ref (g.2.1 0), .int l1, .int l2, .int l3] st) (zs_Qi g zs_ly zs_N A K) 0 0 A := by
  refine zs_met (cc := cTS_instruction) (maxL := 5) (ret := (some .int)) (by decide) (Nat.le_of_ble_eq_true rfl) (fun p e s m below meth c hM => ?_)
  have hM : zs_M p c cTS_instruction 5 s m meth [.ref (g.2.1 0), .int l1, .int l2, .int l3].toArray "ThriftyStores" (some .int) g := hM
  obtain ⟨hx, hb, hml, hr, hlk, hts, hown, hK⟩ := id hM
  intro ls H locs hl hP hS
  have hl : lv_has ls 5 [(0, .ref (g.2.1 0)), (1, .int l1), (2, .int l2), (3, .int l3)] := hl
  unfold zf_TS_instruction at h
  refine lv_aload_n hx hb dTS_instruction_0 rfl (lv_at hl 0 rfl) ?_
  refine lv_iload_n hx hb dTS_instruction_1 rfl (lv_at hl 1 rfl) ?_
  refine zr_calli (va_runV (As := [.int l1]) (rest := []) ⟨hx, hb, hml, hown, hts⟩ (zc_TS_isInstruction l g A  h) (cwV 1 hts (zs_gV zq_543 zq_545 zp_22 zq_1 zq_546) rfl rfl rfl ⟨rfl, by decide, by decide, by decide +kernel⟩ ⟨Nat.le_of_ble_eq_true rfl, Nat.le_of_ble_eq_true rfl⟩) (zs_preV zs_nwk hK hP zl_0.1 zl_0.2 rfl) rfl rfl hl.1 rfl (lv_room (Nat.le_of_ble_eq_true rfl)) dTS_instruction_2 ⟨Nat.le_refl _, Nat.le_refl _⟩) hS (fun r2 u1 H locs h hP hS => ?_)
  refine zr_callv (va_runS (As := [.int r2]) (rest := []) ⟨hx, hb, hml, hown, hts⟩ (zc_TS_needPresent l g A  h) (va_cwS 1 hts (zs_gS zq_547 zq_548 zq_1 zq_549) rfl rfl rfl ⟨by decide, by decide, by decide +kernel⟩ ⟨Nat.le_of_ble_eq_true rfl, Nat.le_of_ble_eq_true rfl⟩) (zs_preS zs_nwk hK hP) rfl rfl hl.1 rfl (lv_room (Nat.le_of_ble_eq_true rfl)) dTS_instruction_5 ⟨Nat.le_refl _, Nat.le_refl _⟩) hS (fun u3 H locs h hP hS => ?_)
  refine lv_iload_n hx hb dTS_instruction_8 rfl (lv_at hl 2 rfl) ?_
  refine lv_if_lt (tgt := 21) hx hb dTS_instruction_9 rfl (fun hc => ?_) (fun hc => ?_)
  · have h := h.1 hc
    clear hc
    exact zw_TS_instruction_21 hM  l1 l2 l3 u3 h ls H locs (lv_sub hl [0, 1, 2, 3] rfl) hP hS
  · have h := h.2 hc
    clear hc
    refine lv_iload_n hx hb dTS_instruction_12 rfl (lv_at hl 2 rfl) ?_
    refine lv_iconst (v := 3) hx hb dTS_instruction_13 (by decide) ?_
    refine lv_icmp_gt (tgt := 21) hx hb dTS_instruction_14 rfl (fun hc => ?_) (fun hc => ?_)
    · have h := h.1 hc
      clear hc
      exact zw_TS_instruction_21 hM  l1 l2 l3 u3 h ls H locs (lv_sub hl [0, 1, 2, 3] rfl) hP hS
    · have h := h.2 hc
      clear hc
      refine lv_iconst (v := 1) hx hb dTS_instruction_17 (by decide) ?_
      refine lv_goto (tgt := 22) hx hb dTS_instruction_18 rfl ?_
      exact zw_TS_instruction_22 hM  l1 l2 l3 1 u3 h ls H locs (lv_sub hl [0, 1, 2, 3] rfl) hP hS
set_option maxHeartbeats 4000000 in
set_option maxRecDepth 100000 in
theorem zc_TS_fate (l : Launch) (g : zs_G) (A : Nat → Prop) {l1 : Int32}  {st : zs_T} {K : Int32 → zs_T → Prop} (h : zf_TS_fate l1 st K) : Met l yTS_fate (.code yTS_fate cTS_fate 2 (some .int) :: zs_tb) (zs_rm 8 125) (zs_Pc zs_nl g zs_ly zs_N A [.ref (g.2.1 0), .int l1] st) (zs_Qi g zs_ly zs_N A K) 0 0 A := by
  refine zs_met (cc := cTS_fate) (maxL := 2) (ret := (some .int)) (by decide) (Nat.le_of_ble_eq_true rfl) (fun p e s m below meth c hM => ?_)
  have hM : zs_M p c cTS_fate 2 s m meth [.ref (g.2.1 0), .int l1].toArray "ThriftyStores" (some .int) g := hM
  obtain ⟨hx, hb, hml, hr, hlk, hts, hown, hK⟩ := id hM
  intro ls H locs hl hP hS
  have hl : lv_has ls 2 [(0, .ref (g.2.1 0)), (1, .int l1)] := hl
  unfold zf_TS_fate at h
  refine lv_aload_n hx hb dTS_fate_0 rfl (lv_at hl 0 rfl) ?_
  refine lv_iload_n hx hb dTS_fate_1 rfl (lv_at hl 1 rfl) ?_
  refine zr_calli (va_runV (As := [.int l1]) (rest := []) ⟨hx, hb, hml, hown, hts⟩ (zc_TS_isInstruction l g A  h) (cwV 1 hts (zs_gV zq_543 zq_545 zp_22 zq_1 zq_546) rfl rfl rfl ⟨rfl, by decide, by decide, by decide +kernel⟩ ⟨Nat.le_of_ble_eq_true rfl, Nat.le_of_ble_eq_true rfl⟩) (zs_preV zs_nwk hK hP zl_0.1 zl_0.2 rfl) rfl rfl hl.1 rfl (lv_room (Nat.le_of_ble_eq_true rfl)) dTS_fate_2 ⟨Nat.le_refl _, Nat.le_refl _⟩) hS (fun r2 u1 H locs h hP hS => ?_)
  refine zr_callv (va_runS (As := [.int r2]) (rest := []) ⟨hx, hb, hml, hown, hts⟩ (zc_TS_needPresent l g A  h) (va_cwS 1 hts (zs_gS zq_547 zq_548 zq_1 zq_549) rfl rfl rfl ⟨by decide, by decide, by decide +kernel⟩ ⟨Nat.le_of_ble_eq_true rfl, Nat.le_of_ble_eq_true rfl⟩) (zs_preS zs_nwk hK hP) rfl rfl hl.1 rfl (lv_room (Nat.le_of_ble_eq_true rfl)) dTS_fate_5 ⟨Nat.le_refl _, Nat.le_refl _⟩) hS (fun u3 H locs h hP hS => ?_)
  refine lv_aload_n hx hb dTS_fate_8 rfl (lv_at hl 0 rfl) ?_
  refine lv_iconst (v := 0) hx hb dTS_fate_9 (by decide) ?_
  refine zr_callv (va_runV (As := [.int 0]) (rest := []) ⟨hx, hb, hml, hown, hts⟩ (zc_TS_needThrifty l g A  h) (cwV 1 hts (zs_gV zq_570 zq_572 zp_23 zq_1 zq_573) rfl rfl rfl ⟨rfl, by decide, by decide, by decide +kernel⟩ ⟨Nat.le_of_ble_eq_true rfl, Nat.le_of_ble_eq_true rfl⟩) (zs_preV zs_nwk hK hP zl_0.1 zl_0.2 rfl) rfl rfl hl.1 rfl (lv_room (Nat.le_of_ble_eq_true rfl)) dTS_fate_10 ⟨Nat.le_refl _, Nat.le_refl _⟩) hS (fun u4 H locs h hP hS => ?_)
  refine lv_aload_n hx hb dTS_fate_13 rfl (lv_at hl 0 rfl) ?_
  refine zr_getr (b := 11) hx hb hts zi_TS hown hK.1 hP zl_0.1 zl_0.2 rfl 2 (by decide) rfl (hts _ zq_203) dTS_fate_14 ?_
  refine lv_iload_n hx hb dTS_fate_17 rfl (lv_at hl 1 rfl) ?_
  obtain ⟨hi5, h⟩ := h
  refine zr_iald hx hb hK.1 hP zl_11.1 zl_11.2 hi5 dTS_fate_18 ?_
  exact zr_iret hx hb hr hlk hP hS h dTS_fate_19
set_option maxHeartbeats 4000000 in
set_option maxRecDepth 100000 in
theorem zc_TS_rounds (l : Launch) (g : zs_G) (A : Nat → Prop)   {st : zs_T} {K : Int32 → zs_T → Prop} (h : zf_TS_rounds  st K) : Met l yTS_rounds (.code yTS_rounds cTS_rounds 1 (some .int) :: zs_tb) (zs_rm 8 125) (zs_Pc zs_nl g zs_ly zs_N A [.ref (g.2.1 0)] st) (zs_Qi g zs_ly zs_N A K) 0 0 A := by
  refine zs_met (cc := cTS_rounds) (maxL := 1) (ret := (some .int)) (by decide) (Nat.le_of_ble_eq_true rfl) (fun p e s m below meth c hM => ?_)
  have hM : zs_M p c cTS_rounds 1 s m meth [.ref (g.2.1 0)].toArray "ThriftyStores" (some .int) g := hM
  obtain ⟨hx, hb, hml, hr, hlk, hts, hown, hK⟩ := id hM
  intro ls H locs hl hP hS
  have hl : lv_has ls 1 [(0, .ref (g.2.1 0))] := hl
  unfold zf_TS_rounds at h
  refine lv_aload_n hx hb dTS_rounds_0 rfl (lv_at hl 0 rfl) ?_
  refine lv_iconst (v := 0) hx hb dTS_rounds_1 (by decide) ?_
  refine zr_callv (va_runV (As := [.int 0]) (rest := []) ⟨hx, hb, hml, hown, hts⟩ (zc_TS_needThrifty l g A  h) (cwV 1 hts (zs_gV zq_570 zq_572 zp_23 zq_1 zq_573) rfl rfl rfl ⟨rfl, by decide, by decide, by decide +kernel⟩ ⟨Nat.le_of_ble_eq_true rfl, Nat.le_of_ble_eq_true rfl⟩) (zs_preV zs_nwk hK hP zl_0.1 zl_0.2 rfl) rfl rfl hl.1 rfl (lv_room (Nat.le_of_ble_eq_true rfl)) dTS_rounds_2 ⟨Nat.le_refl _, Nat.le_refl _⟩) hS (fun u1 H locs h hP hS => ?_)
  refine lv_aload_n hx hb dTS_rounds_5 rfl (lv_at hl 0 rfl) ?_
  refine zr_geti hx hb hts zi_TS hown hK.1 hP zl_0.1 zl_0.2 rfl 8 (by decide) rfl (hts _ zq_209) dTS_rounds_6 ?_
  exact zr_iret hx hb hr hlk hP hS h dTS_rounds_9
set_option maxHeartbeats 4000000 in
set_option maxRecDepth 100000 in
theorem zw_TS_may_20 (hM : zs_M p c cTS_may 3 s m meth args "ThriftyStores" (some .boolean) g)   {K : Int32 → zs_T → Prop}   (l1 : Int32) (l2 : Int32) (s0 : Int32) (st : zs_T) (h : zf_TS_may_20 K l1 l2 s0 st) : zs_Go p l e (zs_rm 8 125) s m args below meth c g A (MQ below (zs_Qi g zs_ly zs_N A K) args s 0 0 A) 3 20 [(0, .ref (g.2.1 0)), (1, .int l1), (2, .int l2)] [.int s0] st := by
  obtain ⟨hx, hb, hml, hr, hlk, hts, hown, hK⟩ := id hM
  intro ls H locs hl hP hS
  unfold zf_TS_may_20 at h
  refine zr_callv (va_runS (As := [.int s0]) (rest := []) ⟨hx, hb, hml, hown, hts⟩ (zc_TS_needPresent l g A  h) (va_cwS 1 hts (zs_gS zq_547 zq_548 zq_1 zq_549) rfl rfl rfl ⟨by decide, by decide, by decide +kernel⟩ ⟨Nat.le_of_ble_eq_true rfl, Nat.le_of_ble_eq_true rfl⟩) (zs_preS zs_nwk hK hP) rfl rfl hl.1 rfl (lv_room (Nat.le_of_ble_eq_true rfl)) dTS_may_20 ⟨Nat.le_refl _, Nat.le_refl _⟩) hS (fun u201 H locs h hP hS => ?_)
  refine lv_aload_n hx hb dTS_may_23 rfl (lv_at hl 0 rfl) ?_
  refine lv_iconst (v := 0) hx hb dTS_may_24 (by decide) ?_
  refine zr_callv (va_runV (As := [.int 0]) (rest := []) ⟨hx, hb, hml, hown, hts⟩ (zc_TS_needThrifty l g A  h) (cwV 1 hts (zs_gV zq_570 zq_572 zp_23 zq_1 zq_573) rfl rfl rfl ⟨rfl, by decide, by decide, by decide +kernel⟩ ⟨Nat.le_of_ble_eq_true rfl, Nat.le_of_ble_eq_true rfl⟩) (zs_preV zs_nwk hK hP zl_0.1 zl_0.2 rfl) rfl rfl hl.1 rfl (lv_room (Nat.le_of_ble_eq_true rfl)) dTS_may_25 ⟨Nat.le_refl _, Nat.le_refl _⟩) hS (fun u202 H locs h hP hS => ?_)
  refine lv_aload_n hx hb dTS_may_28 rfl (lv_at hl 0 rfl) ?_
  refine zr_getr (b := 12) hx hb hts zi_TS hown hK.1 hP zl_0.1 zl_0.2 rfl 3 (by decide) rfl (hts _ zq_204) dTS_may_29 ?_
  refine lv_iload_n hx hb dTS_may_32 rfl (lv_at hl 1 rfl) ?_
  refine lv_iload_n hx hb dTS_may_33 rfl (lv_at hl 2 rfl) ?_
  refine zr_calli (va_runV (As := [.int l1, .int l2]) (rest := []) ⟨hx, hb, hml, hown, hts⟩ (zc_AD_mayBe l g A  h) (cwV 2 hts (zs_gV zq_601 zq_602 zq_603 zq_3 zq_604) rfl rfl rfl ⟨rfl, by decide, by decide, by decide +kernel⟩ ⟨Nat.le_of_ble_eq_true rfl, Nat.le_of_ble_eq_true rfl⟩) (zs_preV zs_nwk hK hP zl_12.1 zl_12.2 rfl) rfl rfl hl.1 rfl (lv_room (Nat.le_of_ble_eq_true rfl)) dTS_may_34 ⟨Nat.le_refl _, Nat.le_refl _⟩) hS (fun r204 u203 H locs h hP hS => ?_)
  exact zr_zret hx hb hr hlk hP hS (zs_bn h.1) h.2 dTS_may_37
set_option maxHeartbeats 4000000 in
set_option maxRecDepth 100000 in
theorem zw_TS_may_19 (hM : zs_M p c cTS_may 3 s m meth args "ThriftyStores" (some .boolean) g)   {K : Int32 → zs_T → Prop}   (l1 : Int32) (l2 : Int32) (st : zs_T) (h : zf_TS_may_19 K l1 l2 st) : zs_Go p l e (zs_rm 8 125) s m args below meth c g A (MQ below (zs_Qi g zs_ly zs_N A K) args s 0 0 A) 3 19 [(0, .ref (g.2.1 0)), (1, .int l1), (2, .int l2)] [] st := by
  obtain ⟨hx, hb, hml, hr, hlk, hts, hown, hK⟩ := id hM
  intro ls H locs hl hP hS
  unfold zf_TS_may_19 at h
  refine lv_iconst (v := 0) hx hb dTS_may_19 (by decide) ?_
  exact zw_TS_may_20 hM  l1 l2 0 st h ls H locs (lv_sub hl [0, 1, 2] rfl) hP hS
set_option maxHeartbeats 4000000 in
set_option maxRecDepth 100000 in
theorem zc_TS_may (l : Launch) (g : zs_G) (A : Nat → Prop) {l1 : Int32} {l2 : Int32}  {st : zs_T} {K : Int32 → zs_T → Prop} (h : zf_TS_may l1 l2 st K) : Met l yTS_may (.code yTS_may cTS_may 3 (some .boolean) :: zs_tb) (zs_rm 8 125) (zs_Pc zs_nl g zs_ly zs_N A [.ref (g.2.1 0), .int l1, .int l2] st) (zs_Qi g zs_ly zs_N A K) 0 0 A := by
  refine zs_met (cc := cTS_may) (maxL := 3) (ret := (some .boolean)) (by decide) (Nat.le_of_ble_eq_true rfl) (fun p e s m below meth c hM => ?_)
  have hM : zs_M p c cTS_may 3 s m meth [.ref (g.2.1 0), .int l1, .int l2].toArray "ThriftyStores" (some .boolean) g := hM
  obtain ⟨hx, hb, hml, hr, hlk, hts, hown, hK⟩ := id hM
  intro ls H locs hl hP hS
  have hl : lv_has ls 3 [(0, .ref (g.2.1 0)), (1, .int l1), (2, .int l2)] := hl
  unfold zf_TS_may at h
  refine lv_iload_n hx hb dTS_may_0 rfl (lv_at hl 1 rfl) ?_
  refine zr_calli (va_runS (As := [.int l1]) (rest := []) ⟨hx, hb, hml, hown, hts⟩ (zc_TS_isRegister l g A  h) (va_cwS 1 hts (zs_gS zq_600 zq_266 zq_1 zq_267) rfl rfl rfl ⟨by decide, by decide, by decide +kernel⟩ ⟨Nat.le_of_ble_eq_true rfl, Nat.le_of_ble_eq_true rfl⟩) (zs_preS zs_nwk hK hP) rfl rfl hl.1 rfl (lv_room (Nat.le_of_ble_eq_true rfl)) dTS_may_1 ⟨Nat.le_refl _, Nat.le_refl _⟩) hS (fun r2 u1 H locs h hP hS => ?_)
  refine lv_if_eq (tgt := 19) hx hb dTS_may_4 rfl (fun hc => ?_) (fun hc => ?_)
  · have h := h.1 hc
    clear hc
    exact zw_TS_may_19 hM  l1 l2 u1 h ls H locs (lv_sub hl [0, 1, 2] rfl) hP hS
  · have h := h.2 hc
    clear hc
    refine lv_aload_n hx hb dTS_may_7 rfl (lv_at hl 0 rfl) ?_
    refine lv_iload_n hx hb dTS_may_8 rfl (lv_at hl 2 rfl) ?_
    refine zr_calli (va_runV (As := [.int l2]) (rest := []) ⟨hx, hb, hml, hown, hts⟩ (zc_TS_isInstruction l g A  h) (cwV 1 hts (zs_gV zq_543 zq_545 zp_22 zq_1 zq_546) rfl rfl rfl ⟨rfl, by decide, by decide, by decide +kernel⟩ ⟨Nat.le_of_ble_eq_true rfl, Nat.le_of_ble_eq_true rfl⟩) (zs_preV zs_nwk hK hP zl_0.1 zl_0.2 rfl) rfl rfl hl.1 rfl (lv_room (Nat.le_of_ble_eq_true rfl)) dTS_may_9 ⟨Nat.le_refl _, Nat.le_refl _⟩) hS (fun r4 u3 H locs h hP hS => ?_)
    refine lv_if_eq (tgt := 19) hx hb dTS_may_12 rfl (fun hc => ?_) (fun hc => ?_)
    · have h := h.1 hc
      clear hc
      exact zw_TS_may_19 hM  l1 l2 u3 h ls H locs (lv_sub hl [0, 1, 2] rfl) hP hS
    · have h := h.2 hc
      clear hc
      refine lv_iconst (v := 1) hx hb dTS_may_15 (by decide) ?_
      refine lv_goto (tgt := 20) hx hb dTS_may_16 rfl ?_
      exact zw_TS_may_20 hM  l1 l2 1 u3 h ls H locs (lv_sub hl [0, 1, 2] rfl) hP hS
set_option maxHeartbeats 4000000 in
set_option maxRecDepth 100000 in
theorem zw_TS_inside_21 (hM : zs_M p c cTS_inside 3 s m meth args "ThriftyStores" (some .boolean) g)   {K : Int32 → zs_T → Prop}   (l1 : Int32) (l2 : Int32) (s0 : Int32) (st : zs_T) (h : zf_TS_inside_21 K l1 l2 s0 st) : zs_Go p l e (zs_rm 8 125) s m args below meth c g A (MQ below (zs_Qi g zs_ly zs_N A K) args s 0 0 A) 3 21 [(0, .ref (g.2.1 0)), (1, .int l1), (2, .int l2)] [.int s0] st := by
  obtain ⟨hx, hb, hml, hr, hlk, hts, hown, hK⟩ := id hM
  intro ls H locs hl hP hS
  unfold zf_TS_inside_21 at h
  refine zr_callv (va_runS (As := [.int s0]) (rest := []) ⟨hx, hb, hml, hown, hts⟩ (zc_TS_needPresent l g A  h) (va_cwS 1 hts (zs_gS zq_547 zq_548 zq_1 zq_549) rfl rfl rfl ⟨by decide, by decide, by decide +kernel⟩ ⟨Nat.le_of_ble_eq_true rfl, Nat.le_of_ble_eq_true rfl⟩) (zs_preS zs_nwk hK hP) rfl rfl hl.1 rfl (lv_room (Nat.le_of_ble_eq_true rfl)) dTS_inside_21 ⟨Nat.le_refl _, Nat.le_refl _⟩) hS (fun u201 H locs h hP hS => ?_)
  refine lv_aload_n hx hb dTS_inside_24 rfl (lv_at hl 0 rfl) ?_
  refine lv_iconst (v := 0) hx hb dTS_inside_25 (by decide) ?_
  refine zr_callv (va_runV (As := [.int 0]) (rest := []) ⟨hx, hb, hml, hown, hts⟩ (zc_TS_needThrifty l g A  h) (cwV 1 hts (zs_gV zq_570 zq_572 zp_23 zq_1 zq_573) rfl rfl rfl ⟨rfl, by decide, by decide, by decide +kernel⟩ ⟨Nat.le_of_ble_eq_true rfl, Nat.le_of_ble_eq_true rfl⟩) (zs_preV zs_nwk hK hP zl_0.1 zl_0.2 rfl) rfl rfl hl.1 rfl (lv_room (Nat.le_of_ble_eq_true rfl)) dTS_inside_26 ⟨Nat.le_refl _, Nat.le_refl _⟩) hS (fun u202 H locs h hP hS => ?_)
  refine lv_aload_n hx hb dTS_inside_29 rfl (lv_at hl 0 rfl) ?_
  refine zr_getr (b := 12) hx hb hts zi_TS hown hK.1 hP zl_0.1 zl_0.2 rfl 3 (by decide) rfl (hts _ zq_204) dTS_inside_30 ?_
  refine lv_iload_n hx hb dTS_inside_33 rfl (lv_at hl 1 rfl) ?_
  refine lv_iload_n hx hb dTS_inside_34 rfl (lv_at hl 2 rfl) ?_
  refine zr_calli (va_runV (As := [.int l1, .int l2]) (rest := []) ⟨hx, hb, hml, hown, hts⟩ (zc_AD_mayHold l g A  h) (cwV 2 hts (zs_gV zq_612 zq_613 zq_614 zq_3 zq_615) rfl rfl rfl ⟨rfl, by decide, by decide, by decide +kernel⟩ ⟨Nat.le_of_ble_eq_true rfl, Nat.le_of_ble_eq_true rfl⟩) (zs_preV zs_nwk hK hP zl_12.1 zl_12.2 rfl) rfl rfl hl.1 rfl (lv_room (Nat.le_of_ble_eq_true rfl)) dTS_inside_35 ⟨Nat.le_refl _, Nat.le_refl _⟩) hS (fun r204 u203 H locs h hP hS => ?_)
  exact zr_zret hx hb hr hlk hP hS (zs_bn h.1) h.2 dTS_inside_38
set_option maxHeartbeats 4000000 in
set_option maxRecDepth 100000 in
theorem zw_TS_inside_20 (hM : zs_M p c cTS_inside 3 s m meth args "ThriftyStores" (some .boolean) g)   {K : Int32 → zs_T → Prop}   (l1 : Int32) (l2 : Int32) (st : zs_T) (h : zf_TS_inside_20 K l1 l2 st) : zs_Go p l e (zs_rm 8 125) s m args below meth c g A (MQ below (zs_Qi g zs_ly zs_N A K) args s 0 0 A) 3 20 [(0, .ref (g.2.1 0)), (1, .int l1), (2, .int l2)] [] st := by
  obtain ⟨hx, hb, hml, hr, hlk, hts, hown, hK⟩ := id hM
  intro ls H locs hl hP hS
  unfold zf_TS_inside_20 at h
  refine lv_iconst (v := 0) hx hb dTS_inside_20 (by decide) ?_
  exact zw_TS_inside_21 hM  l1 l2 0 st h ls H locs (lv_sub hl [0, 1, 2] rfl) hP hS
set_option maxHeartbeats 4000000 in
set_option maxRecDepth 100000 in
theorem zc_TS_inside (l : Launch) (g : zs_G) (A : Nat → Prop) {l1 : Int32} {l2 : Int32}  {st : zs_T} {K : Int32 → zs_T → Prop} (h : zf_TS_inside l1 l2 st K) : Met l yTS_inside (.code yTS_inside cTS_inside 3 (some .boolean) :: zs_tb) (zs_rm 8 125) (zs_Pc zs_nl g zs_ly zs_N A [.ref (g.2.1 0), .int l1, .int l2] st) (zs_Qi g zs_ly zs_N A K) 0 0 A := by
  refine zs_met (cc := cTS_inside) (maxL := 3) (ret := (some .boolean)) (by decide) (Nat.le_of_ble_eq_true rfl) (fun p e s m below meth c hM => ?_)
  have hM : zs_M p c cTS_inside 3 s m meth [.ref (g.2.1 0), .int l1, .int l2].toArray "ThriftyStores" (some .boolean) g := hM
  obtain ⟨hx, hb, hml, hr, hlk, hts, hown, hK⟩ := id hM
  intro ls H locs hl hP hS
  have hl : lv_has ls 3 [(0, .ref (g.2.1 0)), (1, .int l1), (2, .int l2)] := hl
  unfold zf_TS_inside at h
  refine lv_aload_n hx hb dTS_inside_0 rfl (lv_at hl 0 rfl) ?_
  refine lv_iload_n hx hb dTS_inside_1 rfl (lv_at hl 1 rfl) ?_
  refine zr_calli (va_runV (As := [.int l1]) (rest := []) ⟨hx, hb, hml, hown, hts⟩ (zc_TS_isInstruction l g A  h) (cwV 1 hts (zs_gV zq_543 zq_545 zp_22 zq_1 zq_546) rfl rfl rfl ⟨rfl, by decide, by decide, by decide +kernel⟩ ⟨Nat.le_of_ble_eq_true rfl, Nat.le_of_ble_eq_true rfl⟩) (zs_preV zs_nwk hK hP zl_0.1 zl_0.2 rfl) rfl rfl hl.1 rfl (lv_room (Nat.le_of_ble_eq_true rfl)) dTS_inside_2 ⟨Nat.le_refl _, Nat.le_refl _⟩) hS (fun r2 u1 H locs h hP hS => ?_)
  refine lv_if_eq (tgt := 20) hx hb dTS_inside_5 rfl (fun hc => ?_) (fun hc => ?_)
  · have h := h.1 hc
    clear hc
    exact zw_TS_inside_20 hM  l1 l2 u1 h ls H locs (lv_sub hl [0, 1, 2] rfl) hP hS
  · have h := h.2 hc
    clear hc
    refine lv_aload_n hx hb dTS_inside_8 rfl (lv_at hl 0 rfl) ?_
    refine lv_iload_n hx hb dTS_inside_9 rfl (lv_at hl 2 rfl) ?_
    refine zr_calli (va_runV (As := [.int l2]) (rest := []) ⟨hx, hb, hml, hown, hts⟩ (zc_TS_isInstruction l g A  h) (cwV 1 hts (zs_gV zq_543 zq_545 zp_22 zq_1 zq_546) rfl rfl rfl ⟨rfl, by decide, by decide, by decide +kernel⟩ ⟨Nat.le_of_ble_eq_true rfl, Nat.le_of_ble_eq_true rfl⟩) (zs_preV zs_nwk hK hP zl_0.1 zl_0.2 rfl) rfl rfl hl.1 rfl (lv_room (Nat.le_of_ble_eq_true rfl)) dTS_inside_10 ⟨Nat.le_refl _, Nat.le_refl _⟩) hS (fun r4 u3 H locs h hP hS => ?_)
    refine lv_if_eq (tgt := 20) hx hb dTS_inside_13 rfl (fun hc => ?_) (fun hc => ?_)
    · have h := h.1 hc
      clear hc
      exact zw_TS_inside_20 hM  l1 l2 u3 h ls H locs (lv_sub hl [0, 1, 2] rfl) hP hS
    · have h := h.2 hc
      clear hc
      refine lv_iconst (v := 1) hx hb dTS_inside_16 (by decide) ?_
      refine lv_goto (tgt := 21) hx hb dTS_inside_17 rfl ?_
      exact zw_TS_inside_21 hM  l1 l2 1 u3 h ls H locs (lv_sub hl [0, 1, 2] rfl) hP hS
set_option maxHeartbeats 4000000 in
set_option maxRecDepth 100000 in
theorem zw_TS_fact_64 (hM : zs_M p c cTS_fact 5 s m meth args "ThriftyStores" (some .boolean) g)   {K : Int32 → zs_T → Prop}   (l1 : Int32) (l2 : Int32) (l3 : Int32) (l4 : Int32) (s0 : Int32) (st : zs_T) (h : zf_TS_fact_64 K l1 l2 l3 l4 s0 st) : zs_Go p l e (zs_rm 8 125) s m args below meth c g A (MQ below (zs_Qi g zs_ly zs_N A K) args s 0 0 A) 5 64 [(0, .ref (g.2.1 0)), (1, .int l1), (2, .int l2), (3, .int l3), (4, .int l4)] [.int s0] st := by
  obtain ⟨hx, hb, hml, hr, hlk, hts, hown, hK⟩ := id hM
  intro ls H locs hl hP hS
  unfold zf_TS_fact_64 at h
  refine zr_callv (va_runS (As := [.int s0]) (rest := []) ⟨hx, hb, hml, hown, hts⟩ (zc_TS_needSensible l g A  h) (va_cwS 1 hts (zs_gS zq_566 zq_567 zq_1 zq_568) rfl rfl rfl ⟨by decide, by decide, by decide +kernel⟩ ⟨Nat.le_of_ble_eq_true rfl, Nat.le_of_ble_eq_true rfl⟩) (zs_preS zs_nwk hK hP) rfl rfl hl.1 rfl (lv_room (Nat.le_of_ble_eq_true rfl)) dTS_fact_64 ⟨Nat.le_refl _, Nat.le_refl _⟩) hS (fun u501 H locs h hP hS => ?_)
  refine lv_aload_n hx hb dTS_fact_67 rfl (lv_at hl 0 rfl) ?_
  refine lv_iconst (v := 0) hx hb dTS_fact_68 (by decide) ?_
  refine zr_callv (va_runV (As := [.int 0]) (rest := []) ⟨hx, hb, hml, hown, hts⟩ (zc_TS_needThrifty l g A  h) (cwV 1 hts (zs_gV zq_570 zq_572 zp_23 zq_1 zq_573) rfl rfl rfl ⟨rfl, by decide, by decide, by decide +kernel⟩ ⟨Nat.le_of_ble_eq_true rfl, Nat.le_of_ble_eq_true rfl⟩) (zs_preV zs_nwk hK hP zl_0.1 zl_0.2 rfl) rfl rfl hl.1 rfl (lv_room (Nat.le_of_ble_eq_true rfl)) dTS_fact_69 ⟨Nat.le_refl _, Nat.le_refl _⟩) hS (fun u502 H locs h hP hS => ?_)
  refine lv_aload_n hx hb dTS_fact_72 rfl (lv_at hl 0 rfl) ?_
  refine zr_getr (b := 17) hx hb hts zi_TS hown hK.1 hP zl_0.1 zl_0.2 rfl 4 (by decide) rfl (hts _ zq_205) dTS_fact_73 ?_
  refine lv_iload_n hx hb dTS_fact_76 rfl (lv_at hl 1 rfl) ?_
  refine lv_iload_n hx hb dTS_fact_77 rfl (lv_at hl 2 rfl) ?_
  refine lv_iload_n hx hb dTS_fact_78 rfl (lv_at hl 3 rfl) ?_
  refine lv_iload hx hb dTS_fact_79 (lv_at hl 4 rfl) ?_
  refine zr_calli (va_runV (As := [.int l1, .int l2, .int l3, .int l4]) (rest := []) ⟨hx, hb, hml, hown, hts⟩ (zc_KN_tells l g A  h) (cwV 4 hts (zs_gV zq_627 zq_628 zq_629 zq_4 zq_630) rfl rfl rfl ⟨rfl, by decide, by decide, by decide +kernel⟩ ⟨Nat.le_of_ble_eq_true rfl, Nat.le_of_ble_eq_true rfl⟩) (zs_preV zs_nwk hK hP zl_17.1 zl_17.2 rfl) rfl rfl hl.1 rfl (lv_room (Nat.le_of_ble_eq_true rfl)) dTS_fact_81 ⟨Nat.le_refl _, Nat.le_refl _⟩) hS (fun r504 u503 H locs h hP hS => ?_)
  exact zr_zret hx hb hr hlk hP hS (zs_bn h.1) h.2 dTS_fact_84
set_option maxHeartbeats 4000000 in
set_option maxRecDepth 100000 in
theorem zw_TS_fact_59 (hM : zs_M p c cTS_fact 5 s m meth args "ThriftyStores" (some .boolean) g)   {K : Int32 → zs_T → Prop}   (l1 : Int32) (l2 : Int32) (l3 : Int32) (l4 : Int32) (st : zs_T) (h : zf_TS_fact_59 K l1 l2 l3 l4 st) : zs_Go p l e (zs_rm 8 125) s m args below meth c g A (MQ below (zs_Qi g zs_ly zs_N A K) args s 0 0 A) 5 59 [(0, .ref (g.2.1 0)), (1, .int l1), (2, .int l2), (3, .int l3), (4, .int l4)] [] st := by
  obtain ⟨hx, hb, hml, hr, hlk, hts, hown, hK⟩ := id hM
  intro ls H locs hl hP hS
  unfold zf_TS_fact_59 at h
  refine lv_iconst (v := 1) hx hb dTS_fact_59 (by decide) ?_
  refine lv_goto (tgt := 64) hx hb dTS_fact_60 rfl ?_
  exact zw_TS_fact_64 hM  l1 l2 l3 l4 1 st h ls H locs (lv_sub hl [0, 1, 2, 3, 4] rfl) hP hS
set_option maxHeartbeats 4000000 in
set_option maxRecDepth 100000 in
theorem zw_TS_fact_63 (hM : zs_M p c cTS_fact 5 s m meth args "ThriftyStores" (some .boolean) g)   {K : Int32 → zs_T → Prop}   (l1 : Int32) (l2 : Int32) (l3 : Int32) (l4 : Int32) (st : zs_T) (h : zf_TS_fact_63 K l1 l2 l3 l4 st) : zs_Go p l e (zs_rm 8 125) s m args below meth c g A (MQ below (zs_Qi g zs_ly zs_N A K) args s 0 0 A) 5 63 [(0, .ref (g.2.1 0)), (1, .int l1), (2, .int l2), (3, .int l3), (4, .int l4)] [] st := by
  obtain ⟨hx, hb, hml, hr, hlk, hts, hown, hK⟩ := id hM
  intro ls H locs hl hP hS
  unfold zf_TS_fact_63 at h
  refine lv_iconst (v := 0) hx hb dTS_fact_63 (by decide) ?_
  exact zw_TS_fact_64 hM  l1 l2 l3 l4 0 st h ls H locs (lv_sub hl [0, 1, 2, 3, 4] rfl) hP hS
set_option maxHeartbeats 4000000 in
set_option maxRecDepth 100000 in
theorem zw_TS_fact_50 (hM : zs_M p c cTS_fact 5 s m meth args "ThriftyStores" (some .boolean) g)   {K : Int32 → zs_T → Prop}   (l1 : Int32) (l2 : Int32) (l3 : Int32) (l4 : Int32) (st : zs_T) (h : zf_TS_fact_50 K l1 l2 l3 l4 st) : zs_Go p l e (zs_rm 8 125) s m args below meth c g A (MQ below (zs_Qi g zs_ly zs_N A K) args s 0 0 A) 5 50 [(0, .ref (g.2.1 0)), (1, .int l1), (2, .int l2), (3, .int l3), (4, .int l4)] [] st := by
  obtain ⟨hx, hb, hml, hr, hlk, hts, hown, hK⟩ := id hM
  intro ls H locs hl hP hS
  unfold zf_TS_fact_50 at h
  refine lv_iload_n hx hb dTS_fact_50 rfl (lv_at hl 2 rfl) ?_
  refine lv_iconst (v := 3) hx hb dTS_fact_51 (by decide) ?_
  refine lv_icmp_lt (tgt := 59) hx hb dTS_fact_52 rfl (fun hc => ?_) (fun hc => ?_)
  · have h := h.1 hc
    clear hc
    exact zw_TS_fact_59 hM  l1 l2 l3 l4 st h ls H locs (lv_sub hl [0, 1, 2, 3, 4] rfl) hP hS
  · have h := h.2 hc
    clear hc
    refine lv_iload_n hx hb dTS_fact_55 rfl (lv_at hl 3 rfl) ?_
    refine lv_if_ne (tgt := 63) hx hb dTS_fact_56 rfl (fun hc => ?_) (fun hc => ?_)
    · have h := h.1 hc
      clear hc
      exact zw_TS_fact_63 hM  l1 l2 l3 l4 st h ls H locs (lv_sub hl [0, 1, 2, 3, 4] rfl) hP hS
    · have h := h.2 hc
      clear hc
      exact zw_TS_fact_59 hM  l1 l2 l3 l4 st h ls H locs (lv_sub hl [0, 1, 2, 3, 4] rfl) hP hS
set_option maxHeartbeats 4000000 in
set_option maxRecDepth 100000 in
theorem zw_TS_fact_28 (hM : zs_M p c cTS_fact 5 s m meth args "ThriftyStores" (some .boolean) g)   {K : Int32 → zs_T → Prop}   (l1 : Int32) (l2 : Int32) (l3 : Int32) (l4 : Int32) (s0 : Int32) (st : zs_T) (h : zf_TS_fact_28 K l1 l2 l3 l4 s0 st) : zs_Go p l e (zs_rm 8 125) s m args below meth c g A (MQ below (zs_Qi g zs_ly zs_N A K) args s 0 0 A) 5 28 [(0, .ref (g.2.1 0)), (1, .int l1), (2, .int l2), (3, .int l3), (4, .int l4)] [.int s0] st := by
  obtain ⟨hx, hb, hml, hr, hlk, hts, hown, hK⟩ := id hM
  intro ls H locs hl hP hS
  unfold zf_TS_fact_28 at h
  refine zr_callv (va_runS (As := [.int s0]) (rest := []) ⟨hx, hb, hml, hown, hts⟩ (zc_TS_needPresent l g A  h) (va_cwS 1 hts (zs_gS zq_547 zq_548 zq_1 zq_549) rfl rfl rfl ⟨by decide, by decide, by decide +kernel⟩ ⟨Nat.le_of_ble_eq_true rfl, Nat.le_of_ble_eq_true rfl⟩) (zs_preS zs_nwk hK hP) rfl rfl hl.1 rfl (lv_room (Nat.le_of_ble_eq_true rfl)) dTS_fact_28 ⟨Nat.le_refl _, Nat.le_refl _⟩) hS (fun u201 H locs h hP hS => ?_)
  refine lv_iload_n hx hb dTS_fact_31 rfl (lv_at hl 2 rfl) ?_
  refine lv_if_lt (tgt := 63) hx hb dTS_fact_32 rfl (fun hc => ?_) (fun hc => ?_)
  · have h := h.1 hc
    clear hc
    exact zw_TS_fact_63 hM  l1 l2 l3 l4 u201 h ls H locs (lv_sub hl [0, 1, 2, 3, 4] rfl) hP hS
  · have h := h.2 hc
    clear hc
    refine lv_iload_n hx hb dTS_fact_35 rfl (lv_at hl 2 rfl) ?_
    refine lv_iconst (v := 3) hx hb dTS_fact_36 (by decide) ?_
    refine lv_icmp_gt (tgt := 63) hx hb dTS_fact_37 rfl (fun hc => ?_) (fun hc => ?_)
    · have h := h.1 hc
      clear hc
      exact zw_TS_fact_63 hM  l1 l2 l3 l4 u201 h ls H locs (lv_sub hl [0, 1, 2, 3, 4] rfl) hP hS
    · have h := h.2 hc
      clear hc
      refine lv_iload_n hx hb dTS_fact_40 rfl (lv_at hl 2 rfl) ?_
      refine lv_iconst (v := 2) hx hb dTS_fact_41 (by decide) ?_
      refine lv_icmp_lt (tgt := 50) hx hb dTS_fact_42 rfl (fun hc => ?_) (fun hc => ?_)
      · have h := h.1 hc
        clear hc
        exact zw_TS_fact_50 hM  l1 l2 l3 l4 u201 h ls H locs (lv_sub hl [0, 1, 2, 3, 4] rfl) hP hS
      · have h := h.2 hc
        clear hc
        refine lv_iload hx hb dTS_fact_45 (lv_at hl 4 rfl) ?_
        refine lv_if_ne (tgt := 63) hx hb dTS_fact_47 rfl (fun hc => ?_) (fun hc => ?_)
        · have h := h.1 hc
          clear hc
          exact zw_TS_fact_63 hM  l1 l2 l3 l4 u201 h ls H locs (lv_sub hl [0, 1, 2, 3, 4] rfl) hP hS
        · have h := h.2 hc
          clear hc
          exact zw_TS_fact_50 hM  l1 l2 l3 l4 u201 h ls H locs (lv_sub hl [0, 1, 2, 3, 4] rfl) hP hS
set_option maxHeartbeats 4000000 in
set_option maxRecDepth 100000 in
theorem zw_TS_fact_27 (hM : zs_M p c cTS_fact 5 s m meth args "ThriftyStores" (some .boolean) g)   {K : Int32 → zs_T → Prop}   (l1 : Int32) (l2 : Int32) (l3 : Int32) (l4 : Int32) (st : zs_T) (h : zf_TS_fact_27 K l1 l2 l3 l4 st) : zs_Go p l e (zs_rm 8 125) s m args below meth c g A (MQ below (zs_Qi g zs_ly zs_N A K) args s 0 0 A) 5 27 [(0, .ref (g.2.1 0)), (1, .int l1), (2, .int l2), (3, .int l3), (4, .int l4)] [] st := by
  obtain ⟨hx, hb, hml, hr, hlk, hts, hown, hK⟩ := id hM
  intro ls H locs hl hP hS
  unfold zf_TS_fact_27 at h
  refine lv_iconst (v := 0) hx hb dTS_fact_27 (by decide) ?_
  exact zw_TS_fact_28 hM  l1 l2 l3 l4 0 st h ls H locs (lv_sub hl [0, 1, 2, 3, 4] rfl) hP hS
set_option maxHeartbeats 4000000 in
set_option maxRecDepth 100000 in
theorem zc_TS_fact (l : Launch) (g : zs_G) (A : Nat → Prop) {l1 : Int32} {l2 : Int32} {l3 : Int32} {l4 : Int32}  {st : zs_T} {K : Int32 → zs_T → Prop} (h : zf_TS_fact l1 l2 l3 l4 st K) : Met l yTS_fact (.code yTS_fact cTS_fact 5 (some .boolean) :: zs_tb) (zs_rm 8 125) (zs_Pc zs_nl g zs_ly zs_N A [.ref (g.2.1 0), .int l1, .int l2, .int l3, .int l4] st) (zs_Qi g zs_ly zs_N A K) 0 0 A := by
  refine zs_met (cc := cTS_fact) (maxL := 5) (ret := (some .boolean)) (by decide) (Nat.le_of_ble_eq_true rfl) (fun p e s m below meth c hM => ?_)
  have hM : zs_M p c cTS_fact 5 s m meth [.ref (g.2.1 0), .int l1, .int l2, .int l3, .int l4].toArray "ThriftyStores" (some .boolean) g := hM
  obtain ⟨hx, hb, hml, hr, hlk, hts, hown, hK⟩ := id hM
  intro ls H locs hl hP hS
  have hl : lv_has ls 5 [(0, .ref (g.2.1 0)), (1, .int l1), (2, .int l2), (3, .int l3), (4, .int l4)] := hl
  unfold zf_TS_fact at h
  refine lv_aload_n hx hb dTS_fact_0 rfl (lv_at hl 0 rfl) ?_
  refine lv_iload_n hx hb dTS_fact_1 rfl (lv_at hl 1 rfl) ?_
  refine zr_calli (va_runV (As := [.int l1]) (rest := []) ⟨hx, hb, hml, hown, hts⟩ (zc_TS_isPoint l g A  h) (cwV 1 hts (zs_gV zq_623 zq_625 zp_24 zq_1 zq_626) rfl rfl rfl ⟨rfl, by decide, by decide, by decide +kernel⟩ ⟨Nat.le_of_ble_eq_true rfl, Nat.le_of_ble_eq_true rfl⟩) (zs_preV zs_nwk hK hP zl_0.1 zl_0.2 rfl) rfl rfl hl.1 rfl (lv_room (Nat.le_of_ble_eq_true rfl)) dTS_fact_2 ⟨Nat.le_refl _, Nat.le_refl _⟩) hS (fun r2 u1 H locs h hP hS => ?_)
  refine lv_if_eq (tgt := 27) hx hb dTS_fact_5 rfl (fun hc => ?_) (fun hc => ?_)
  · have h := h.1 hc
    clear hc
    exact zw_TS_fact_27 hM  l1 l2 l3 l4 u1 h ls H locs (lv_sub hl [0, 1, 2, 3, 4] rfl) hP hS
  · have h := h.2 hc
    clear hc
    refine lv_iload_n hx hb dTS_fact_8 rfl (lv_at hl 3 rfl) ?_
    refine zr_calli (va_runS (As := [.int l3]) (rest := []) ⟨hx, hb, hml, hown, hts⟩ (zc_TS_isRegister l g A  h) (va_cwS 1 hts (zs_gS zq_600 zq_266 zq_1 zq_267) rfl rfl rfl ⟨by decide, by decide, by decide +kernel⟩ ⟨Nat.le_of_ble_eq_true rfl, Nat.le_of_ble_eq_true rfl⟩) (zs_preS zs_nwk hK hP) rfl rfl hl.1 rfl (lv_room (Nat.le_of_ble_eq_true rfl)) dTS_fact_9 ⟨Nat.le_refl _, Nat.le_refl _⟩) hS (fun r4 u3 H locs h hP hS => ?_)
    refine lv_if_eq (tgt := 27) hx hb dTS_fact_12 rfl (fun hc => ?_) (fun hc => ?_)
    · have h := h.1 hc
      clear hc
      exact zw_TS_fact_27 hM  l1 l2 l3 l4 u3 h ls H locs (lv_sub hl [0, 1, 2, 3, 4] rfl) hP hS
    · have h := h.2 hc
      clear hc
      refine lv_iload hx hb dTS_fact_15 (lv_at hl 4 rfl) ?_
      refine zr_calli (va_runS (As := [.int l4]) (rest := []) ⟨hx, hb, hml, hown, hts⟩ (zc_TS_isRegister l g A  h) (va_cwS 1 hts (zs_gS zq_600 zq_266 zq_1 zq_267) rfl rfl rfl ⟨by decide, by decide, by decide +kernel⟩ ⟨Nat.le_of_ble_eq_true rfl, Nat.le_of_ble_eq_true rfl⟩) (zs_preS zs_nwk hK hP) rfl rfl hl.1 rfl (lv_room (Nat.le_of_ble_eq_true rfl)) dTS_fact_17 ⟨Nat.le_refl _, Nat.le_refl _⟩) hS (fun r6 u5 H locs h hP hS => ?_)
      refine lv_if_eq (tgt := 27) hx hb dTS_fact_20 rfl (fun hc => ?_) (fun hc => ?_)
      · have h := h.1 hc
        clear hc
        exact zw_TS_fact_27 hM  l1 l2 l3 l4 u5 h ls H locs (lv_sub hl [0, 1, 2, 3, 4] rfl) hP hS
      · have h := h.2 hc
        clear hc
        refine lv_iconst (v := 1) hx hb dTS_fact_23 (by decide) ?_
        refine lv_goto (tgt := 28) hx hb dTS_fact_24 rfl ?_
        exact zw_TS_fact_28 hM  l1 l2 l3 l4 1 u5 h ls H locs (lv_sub hl [0, 1, 2, 3, 4] rfl) hP hS
set_option maxHeartbeats 4000000 in
set_option maxRecDepth 100000 in
theorem zw_TS_free_20 (hM : zs_M p c cTS_free 3 s m meth args "ThriftyStores" (some .boolean) g)   {K : Int32 → zs_T → Prop}   (l1 : Int32) (l2 : Int32) (s0 : Int32) (st : zs_T) (h : zf_TS_free_20 K l1 l2 s0 st) : zs_Go p l e (zs_rm 8 125) s m args below meth c g A (MQ below (zs_Qi g zs_ly zs_N A K) args s 0 0 A) 3 20 [(0, .ref (g.2.1 0)), (1, .int l1), (2, .int l2)] [.int s0] st := by
  obtain ⟨hx, hb, hml, hr, hlk, hts, hown, hK⟩ := id hM
  intro ls H locs hl hP hS
  unfold zf_TS_free_20 at h
  refine zr_callv (va_runS (As := [.int s0]) (rest := []) ⟨hx, hb, hml, hown, hts⟩ (zc_TS_needPresent l g A  h) (va_cwS 1 hts (zs_gS zq_547 zq_548 zq_1 zq_549) rfl rfl rfl ⟨by decide, by decide, by decide +kernel⟩ ⟨Nat.le_of_ble_eq_true rfl, Nat.le_of_ble_eq_true rfl⟩) (zs_preS zs_nwk hK hP) rfl rfl hl.1 rfl (lv_room (Nat.le_of_ble_eq_true rfl)) dTS_free_20 ⟨Nat.le_refl _, Nat.le_refl _⟩) hS (fun u201 H locs h hP hS => ?_)
  refine lv_aload_n hx hb dTS_free_23 rfl (lv_at hl 0 rfl) ?_
  refine lv_iconst (v := 0) hx hb dTS_free_24 (by decide) ?_
  refine zr_callv (va_runV (As := [.int 0]) (rest := []) ⟨hx, hb, hml, hown, hts⟩ (zc_TS_needThrifty l g A  h) (cwV 1 hts (zs_gV zq_570 zq_572 zp_23 zq_1 zq_573) rfl rfl rfl ⟨rfl, by decide, by decide, by decide +kernel⟩ ⟨Nat.le_of_ble_eq_true rfl, Nat.le_of_ble_eq_true rfl⟩) (zs_preV zs_nwk hK hP zl_0.1 zl_0.2 rfl) rfl rfl hl.1 rfl (lv_room (Nat.le_of_ble_eq_true rfl)) dTS_free_25 ⟨Nat.le_refl _, Nat.le_refl _⟩) hS (fun u202 H locs h hP hS => ?_)
  refine lv_aload_n hx hb dTS_free_28 rfl (lv_at hl 0 rfl) ?_
  refine zr_getr (b := 627) hx hb hts zi_TS hown hK.1 hP zl_0.1 zl_0.2 rfl 5 (by decide) rfl (hts _ zq_206) dTS_free_29 ?_
  refine lv_iload_n hx hb dTS_free_32 rfl (lv_at hl 1 rfl) ?_
  refine lv_iload_n hx hb dTS_free_33 rfl (lv_at hl 2 rfl) ?_
  refine zr_calli (va_runV (As := [.int l1, .int l2]) (rest := []) ⟨hx, hb, hml, hown, hts⟩ (zc_FR_isFreeBehind l g A  h) (cwV 2 hts (zs_gV zq_531 zq_532 zq_533 zq_6 zq_534) rfl rfl rfl ⟨rfl, by decide, by decide, by decide +kernel⟩ ⟨Nat.le_of_ble_eq_true rfl, Nat.le_of_ble_eq_true rfl⟩) (zs_preV zs_nwk hK hP zl_627.1 zl_627.2 rfl) rfl rfl hl.1 rfl (lv_room (Nat.le_of_ble_eq_true rfl)) dTS_free_34 ⟨Nat.le_refl _, Nat.le_refl _⟩) hS (fun r204 u203 H locs h hP hS => ?_)
  exact zr_zret hx hb hr hlk hP hS (zs_bn h.1) h.2 dTS_free_37
set_option maxHeartbeats 4000000 in
set_option maxRecDepth 100000 in
theorem zw_TS_free_19 (hM : zs_M p c cTS_free 3 s m meth args "ThriftyStores" (some .boolean) g)   {K : Int32 → zs_T → Prop}   (l1 : Int32) (l2 : Int32) (st : zs_T) (h : zf_TS_free_19 K l1 l2 st) : zs_Go p l e (zs_rm 8 125) s m args below meth c g A (MQ below (zs_Qi g zs_ly zs_N A K) args s 0 0 A) 3 19 [(0, .ref (g.2.1 0)), (1, .int l1), (2, .int l2)] [] st := by
  obtain ⟨hx, hb, hml, hr, hlk, hts, hown, hK⟩ := id hM
  intro ls H locs hl hP hS
  unfold zf_TS_free_19 at h
  refine lv_iconst (v := 0) hx hb dTS_free_19 (by decide) ?_
  exact zw_TS_free_20 hM  l1 l2 0 st h ls H locs (lv_sub hl [0, 1, 2] rfl) hP hS
set_option maxHeartbeats 4000000 in
set_option maxRecDepth 100000 in
theorem zc_TS_free (l : Launch) (g : zs_G) (A : Nat → Prop) {l1 : Int32} {l2 : Int32}  {st : zs_T} {K : Int32 → zs_T → Prop} (h : zf_TS_free l1 l2 st K) : Met l yTS_free (.code yTS_free cTS_free 3 (some .boolean) :: zs_tb) (zs_rm 8 125) (zs_Pc zs_nl g zs_ly zs_N A [.ref (g.2.1 0), .int l1, .int l2] st) (zs_Qi g zs_ly zs_N A K) 0 0 A := by
  refine zs_met (cc := cTS_free) (maxL := 3) (ret := (some .boolean)) (by decide) (Nat.le_of_ble_eq_true rfl) (fun p e s m below meth c hM => ?_)
  have hM : zs_M p c cTS_free 3 s m meth [.ref (g.2.1 0), .int l1, .int l2].toArray "ThriftyStores" (some .boolean) g := hM
  obtain ⟨hx, hb, hml, hr, hlk, hts, hown, hK⟩ := id hM
  intro ls H locs hl hP hS
  have hl : lv_has ls 3 [(0, .ref (g.2.1 0)), (1, .int l1), (2, .int l2)] := hl
  unfold zf_TS_free at h
  refine lv_aload_n hx hb dTS_free_0 rfl (lv_at hl 0 rfl) ?_
  refine lv_iload_n hx hb dTS_free_1 rfl (lv_at hl 1 rfl) ?_
  refine zr_calli (va_runV (As := [.int l1]) (rest := []) ⟨hx, hb, hml, hown, hts⟩ (zc_TS_isPoint l g A  h) (cwV 1 hts (zs_gV zq_623 zq_625 zp_24 zq_1 zq_626) rfl rfl rfl ⟨rfl, by decide, by decide, by decide +kernel⟩ ⟨Nat.le_of_ble_eq_true rfl, Nat.le_of_ble_eq_true rfl⟩) (zs_preV zs_nwk hK hP zl_0.1 zl_0.2 rfl) rfl rfl hl.1 rfl (lv_room (Nat.le_of_ble_eq_true rfl)) dTS_free_2 ⟨Nat.le_refl _, Nat.le_refl _⟩) hS (fun r2 u1 H locs h hP hS => ?_)
  refine lv_if_eq (tgt := 19) hx hb dTS_free_5 rfl (fun hc => ?_) (fun hc => ?_)
  · have h := h.1 hc
    clear hc
    exact zw_TS_free_19 hM  l1 l2 u1 h ls H locs (lv_sub hl [0, 1, 2] rfl) hP hS
  · have h := h.2 hc
    clear hc
    refine lv_iload_n hx hb dTS_free_8 rfl (lv_at hl 2 rfl) ?_
    refine zr_calli (va_runS (As := [.int l2]) (rest := []) ⟨hx, hb, hml, hown, hts⟩ (zc_TS_isRegister l g A  h) (va_cwS 1 hts (zs_gS zq_600 zq_266 zq_1 zq_267) rfl rfl rfl ⟨by decide, by decide, by decide +kernel⟩ ⟨Nat.le_of_ble_eq_true rfl, Nat.le_of_ble_eq_true rfl⟩) (zs_preS zs_nwk hK hP) rfl rfl hl.1 rfl (lv_room (Nat.le_of_ble_eq_true rfl)) dTS_free_9 ⟨Nat.le_refl _, Nat.le_refl _⟩) hS (fun r4 u3 H locs h hP hS => ?_)
    refine lv_if_eq (tgt := 19) hx hb dTS_free_12 rfl (fun hc => ?_) (fun hc => ?_)
    · have h := h.1 hc
      clear hc
      exact zw_TS_free_19 hM  l1 l2 u3 h ls H locs (lv_sub hl [0, 1, 2] rfl) hP hS
    · have h := h.2 hc
      clear hc
      refine lv_iconst (v := 1) hx hb dTS_free_15 (by decide) ?_
      refine lv_goto (tgt := 20) hx hb dTS_free_16 rfl ?_
      exact zw_TS_free_20 hM  l1 l2 1 u3 h ls H locs (lv_sub hl [0, 1, 2] rfl) hP hS
set_option maxHeartbeats 4000000 in
set_option maxRecDepth 100000 in
theorem zw_TS_run_17 (hM : zs_M p c cTS_run 3 s m meth args "ThriftyStores" (some .int) g)   {K : Int32 → zs_T → Prop}   (l1 : Int32) (l2 : Int32) (s0 : Int32) (st : zs_T) (h : zf_TS_run_17 K l1 l2 s0 st) : zs_Go p l e (zs_rm 8 125) s m args below meth c g A (MQ below (zs_Qi g zs_ly zs_N A K) args s 0 0 A) 3 17 [(0, .ref (g.2.1 0)), (1, .int l1), (2, .int l2)] [.int s0] st := by
  obtain ⟨hx, hb, hml, hr, hlk, hts, hown, hK⟩ := id hM
  intro ls H locs hl hP hS
  unfold zf_TS_run_17 at h
  refine zr_callv (va_runS (As := [.int s0]) (rest := []) ⟨hx, hb, hml, hown, hts⟩ (zc_TS_needSensible l g A  h) (va_cwS 1 hts (zs_gS zq_566 zq_567 zq_1 zq_568) rfl rfl rfl ⟨by decide, by decide, by decide +kernel⟩ ⟨Nat.le_of_ble_eq_true rfl, Nat.le_of_ble_eq_true rfl⟩) (zs_preS zs_nwk hK hP) rfl rfl hl.1 rfl (lv_room (Nat.le_of_ble_eq_true rfl)) dTS_run_17 ⟨Nat.le_refl _, Nat.le_refl _⟩) hS (fun u201 H locs h hP hS => ?_)
  refine lv_aload_n hx hb dTS_run_20 rfl (lv_at hl 0 rfl) ?_
  refine lv_iload_n hx hb dTS_run_21 rfl (lv_at hl 1 rfl) ?_
  refine zr_callv (va_runV (As := [.int l1]) (rest := []) ⟨hx, hb, hml, hown, hts⟩ (zc_TS_needThrifty l g A  h) (cwV 1 hts (zs_gV zq_570 zq_572 zp_23 zq_1 zq_573) rfl rfl rfl ⟨rfl, by decide, by decide, by decide +kernel⟩ ⟨Nat.le_of_ble_eq_true rfl, Nat.le_of_ble_eq_true rfl⟩) (zs_preV zs_nwk hK hP zl_0.1 zl_0.2 rfl) rfl rfl hl.1 rfl (lv_room (Nat.le_of_ble_eq_true rfl)) dTS_run_22 ⟨Nat.le_refl _, Nat.le_refl _⟩) hS (fun u202 H locs h hP hS => ?_)
  refine lv_aload_n hx hb dTS_run_25 rfl (lv_at hl 0 rfl) ?_
  refine zr_getr (b := 629) hx hb hts zi_TS hown hK.1 hP zl_0.1 zl_0.2 rfl 6 (by decide) rfl (hts _ zq_207) dTS_run_26 ?_
  refine lv_iload_n hx hb dTS_run_29 rfl (lv_at hl 1 rfl) ?_
  refine lv_if_eq (tgt := 40) hx hb dTS_run_30 rfl (fun hc => ?_) (fun hc => ?_)
  · have h := h.1 hc
    clear hc
    refine lv_aload_n hx hb dTS_run_40 rfl (lv_at hl 0 rfl) ?_
    refine zr_getr (b := 6) hx hb hts zi_TS hown hK.1 hP zl_0.1 zl_0.2 rfl 1 (by decide) rfl (hts _ zq_202) dTS_run_41 ?_
    refine lv_iload_n hx hb dTS_run_44 rfl (lv_at hl 2 rfl) ?_
    refine zr_calli (va_runV (As := [.ref (g.2.1 6), .int l2]) (rest := []) ⟨hx, hb, hml, hown, hts⟩ (zc_MA_perform l g A zs_Pr_6 h) (cwV 2 hts (zs_gV zq_645 zq_646 zq_647 zq_7 zq_648) rfl rfl rfl ⟨rfl, by decide, by decide, by decide +kernel⟩ ⟨Nat.le_of_ble_eq_true rfl, Nat.le_of_ble_eq_true rfl⟩) (zs_preV zs_nwk hK hP zl_629.1 zl_629.2 rfl) rfl rfl hl.1 rfl (lv_room (Nat.le_of_ble_eq_true rfl)) dTS_run_45 ⟨Nat.le_refl _, Nat.le_refl _⟩) hS (fun r204 u203 H locs h hP hS => ?_)
    exact zr_iret hx hb hr hlk hP hS h dTS_run_48
  · have h := h.2 hc
    clear hc
    refine lv_aload_n hx hb dTS_run_33 rfl (lv_at hl 0 rfl) ?_
    refine zr_getr (b := 1) hx hb hts zi_TS hown hK.1 hP zl_0.1 zl_0.2 rfl 0 (by decide) rfl (hts _ zq_201) dTS_run_34 ?_
    refine lv_goto (tgt := 44) hx hb dTS_run_37 rfl ?_
    refine lv_iload_n hx hb dTS_run_44 rfl (lv_at hl 2 rfl) ?_
    refine zr_calli (va_runV (As := [.ref (g.2.1 1), .int l2]) (rest := []) ⟨hx, hb, hml, hown, hts⟩ (zc_MA_perform l g A zs_Pr_1 h) (cwV 2 hts (zs_gV zq_645 zq_646 zq_647 zq_7 zq_648) rfl rfl rfl ⟨rfl, by decide, by decide, by decide +kernel⟩ ⟨Nat.le_of_ble_eq_true rfl, Nat.le_of_ble_eq_true rfl⟩) (zs_preV zs_nwk hK hP zl_629.1 zl_629.2 rfl) rfl rfl hl.1 rfl (lv_room (Nat.le_of_ble_eq_true rfl)) dTS_run_45 ⟨Nat.le_refl _, Nat.le_refl _⟩) hS (fun r206 u205 H locs h hP hS => ?_)
    exact zr_iret hx hb hr hlk hP hS h dTS_run_48
set_option maxHeartbeats 4000000 in
set_option maxRecDepth 100000 in
theorem zw_TS_run_16 (hM : zs_M p c cTS_run 3 s m meth args "ThriftyStores" (some .int) g)   {K : Int32 → zs_T → Prop}   (l1 : Int32) (l2 : Int32) (st : zs_T) (h : zf_TS_run_16 K l1 l2 st) : zs_Go p l e (zs_rm 8 125) s m args below meth c g A (MQ below (zs_Qi g zs_ly zs_N A K) args s 0 0 A) 3 16 [(0, .ref (g.2.1 0)), (1, .int l1), (2, .int l2)] [] st := by
  obtain ⟨hx, hb, hml, hr, hlk, hts, hown, hK⟩ := id hM
  intro ls H locs hl hP hS
  unfold zf_TS_run_16 at h
  refine lv_iconst (v := 0) hx hb dTS_run_16 (by decide) ?_
  exact zw_TS_run_17 hM  l1 l2 0 st h ls H locs (lv_sub hl [0, 1, 2] rfl) hP hS
set_option maxHeartbeats 4000000 in
set_option maxRecDepth 100000 in
theorem zc_TS_run (l : Launch) (g : zs_G) (A : Nat → Prop) {l1 : Int32} {l2 : Int32}  {st : zs_T} {K : Int32 → zs_T → Prop} (h : zf_TS_run l1 l2 st K) : Met l yTS_run (.code yTS_run cTS_run 3 (some .int) :: zs_tb) (zs_rm 8 125) (zs_Pc zs_nl g zs_ly zs_N A [.ref (g.2.1 0), .int l1, .int l2] st) (zs_Qi g zs_ly zs_N A K) 0 0 A := by
  refine zs_met (cc := cTS_run) (maxL := 3) (ret := (some .int)) (by decide) (Nat.le_of_ble_eq_true rfl) (fun p e s m below meth c hM => ?_)
  have hM : zs_M p c cTS_run 3 s m meth [.ref (g.2.1 0), .int l1, .int l2].toArray "ThriftyStores" (some .int) g := hM
  obtain ⟨hx, hb, hml, hr, hlk, hts, hown, hK⟩ := id hM
  intro ls H locs hl hP hS
  have hl : lv_has ls 3 [(0, .ref (g.2.1 0)), (1, .int l1), (2, .int l2)] := hl
  unfold zf_TS_run at h
  refine lv_iload_n hx hb dTS_run_0 rfl (lv_at hl 2 rfl) ?_
  refine lv_iconst (v := 1) hx hb dTS_run_1 (by decide) ?_
  refine lv_icmp_lt (tgt := 16) hx hb dTS_run_2 rfl (fun hc => ?_) (fun hc => ?_)
  · have h := h.1 hc
    clear hc
    exact zw_TS_run_16 hM  l1 l2 st h ls H locs (lv_sub hl [0, 1, 2] rfl) hP hS
  · have h := h.2 hc
    clear hc
    refine lv_iload_n hx hb dTS_run_5 rfl (lv_at hl 2 rfl) ?_
    refine lv_sipush (v := 5000) hx hb dTS_run_6 (by decide) ?_
    refine lv_icmp_gt (tgt := 16) hx hb dTS_run_9 rfl (fun hc => ?_) (fun hc => ?_)
    · have h := h.1 hc
      clear hc
      exact zw_TS_run_16 hM  l1 l2 st h ls H locs (lv_sub hl [0, 1, 2] rfl) hP hS
    · have h := h.2 hc
      clear hc
      refine lv_iconst (v := 1) hx hb dTS_run_12 (by decide) ?_
      refine lv_goto (tgt := 17) hx hb dTS_run_13 rfl ?_
      exact zw_TS_run_17 hM  l1 l2 1 st h ls H locs (lv_sub hl [0, 1, 2] rfl) hP hS
set_option maxHeartbeats 4000000 in
set_option maxRecDepth 100000 in
theorem zw_TS_print_20 (hM : zs_M p c cTS_print 2 s m meth args "ThriftyStores" (some .int) g)   {K : Int32 → zs_T → Prop}   (l1 : Int32) (s0 : Int32) (st : zs_T) (h : zf_TS_print_20 K l1 s0 st) : zs_Go p l e (zs_rm 8 124) s m args below meth c g A (MQ below (zs_Qi g zs_ly zs_N A K) args s 0 0 A) 2 20 [(0, .ref (g.2.1 0)), (1, .int l1)] [.int s0] st := by
  obtain ⟨hx, hb, hml, hr, hlk, hts, hown, hK⟩ := id hM
  intro ls H locs hl hP hS
  unfold zf_TS_print_20 at h
  refine zr_callv (va_runS (As := [.int s0]) (rest := []) ⟨hx, hb, hml, hown, hts⟩ (zc_TS_needPresent l g A  h) (va_cwS 1 hts (zs_gS zq_547 zq_548 zq_1 zq_549) rfl rfl rfl ⟨by decide, by decide, by decide +kernel⟩ ⟨Nat.le_of_ble_eq_true rfl, Nat.le_of_ble_eq_true rfl⟩) (zs_preS zs_nwk hK hP) rfl rfl hl.1 rfl (lv_room (Nat.le_of_ble_eq_true rfl)) dTS_print_20 ⟨Nat.le_refl _, Nat.le_refl _⟩) hS (fun u201 H locs h hP hS => ?_)
  refine lv_aload_n hx hb dTS_print_23 rfl (lv_at hl 0 rfl) ?_
  refine zr_getr (b := 629) hx hb hts zi_TS hown hK.1 hP zl_0.1 zl_0.2 rfl 6 (by decide) rfl (hts _ zq_207) dTS_print_24 ?_
  refine zr_getr (b := 634) hx hb hts zi_MA hown hK.1 hP zl_629.1 zl_629.2 rfl 8 (by decide) rfl (hts _ zq_173) dTS_print_27 ?_
  refine lv_iload_n hx hb dTS_print_30 rfl (lv_at hl 1 rfl) ?_
  obtain ⟨hi202, h⟩ := h
  refine zr_iald hx hb hK.1 hP zl_634.1 zl_634.2 hi202 dTS_print_31 ?_
  exact zr_iret hx hb hr hlk hP hS h dTS_print_32
set_option maxHeartbeats 4000000 in
set_option maxRecDepth 100000 in
theorem zw_TS_print_19 (hM : zs_M p c cTS_print 2 s m meth args "ThriftyStores" (some .int) g)   {K : Int32 → zs_T → Prop}   (l1 : Int32) (st : zs_T) (h : zf_TS_print_19 K l1 st) : zs_Go p l e (zs_rm 8 124) s m args below meth c g A (MQ below (zs_Qi g zs_ly zs_N A K) args s 0 0 A) 2 19 [(0, .ref (g.2.1 0)), (1, .int l1)] [] st := by
  obtain ⟨hx, hb, hml, hr, hlk, hts, hown, hK⟩ := id hM
  intro ls H locs hl hP hS
  unfold zf_TS_print_19 at h
  refine lv_iconst (v := 0) hx hb dTS_print_19 (by decide) ?_
  exact zw_TS_print_20 hM  l1 0 st h ls H locs (lv_sub hl [0, 1] rfl) hP hS
set_option maxHeartbeats 4000000 in
set_option maxRecDepth 100000 in
theorem zc_TS_print (l : Launch) (g : zs_G) (A : Nat → Prop) {l1 : Int32}  {st : zs_T} {K : Int32 → zs_T → Prop} (h : zf_TS_print l1 st K) : Met l yTS_print (.code yTS_print cTS_print 2 (some .int) :: zs_tb) (zs_rm 8 124) (zs_Pc zs_nl g zs_ly zs_N A [.ref (g.2.1 0), .int l1] st) (zs_Qi g zs_ly zs_N A K) 0 0 A := by
  refine zs_met (cc := cTS_print) (maxL := 2) (ret := (some .int)) (by decide) (Nat.le_of_ble_eq_true rfl) (fun p e s m below meth c hM => ?_)
  have hM : zs_M p c cTS_print 2 s m meth [.ref (g.2.1 0), .int l1].toArray "ThriftyStores" (some .int) g := hM
  obtain ⟨hx, hb, hml, hr, hlk, hts, hown, hK⟩ := id hM
  intro ls H locs hl hP hS
  have hl : lv_has ls 2 [(0, .ref (g.2.1 0)), (1, .int l1)] := hl
  unfold zf_TS_print at h
  refine lv_iload_n hx hb dTS_print_0 rfl (lv_at hl 1 rfl) ?_
  refine lv_if_lt (tgt := 19) hx hb dTS_print_1 rfl (fun hc => ?_) (fun hc => ?_)
  · have h := h.1 hc
    clear hc
    exact zw_TS_print_19 hM  l1 st h ls H locs (lv_sub hl [0, 1] rfl) hP hS
  · have h := h.2 hc
    clear hc
    refine lv_iload_n hx hb dTS_print_4 rfl (lv_at hl 1 rfl) ?_
    refine lv_aload_n hx hb dTS_print_5 rfl (lv_at hl 0 rfl) ?_
    refine zr_getr (b := 629) hx hb hts zi_TS hown hK.1 hP zl_0.1 zl_0.2 rfl 6 (by decide) rfl (hts _ zq_207) dTS_print_6 ?_
    refine zr_geti hx hb hts zi_MA hown hK.1 hP zl_629.1 zl_629.2 rfl 9 (by decide) rfl (hts _ zq_175) dTS_print_9 ?_
    refine lv_icmp_ge (tgt := 19) hx hb dTS_print_12 rfl (fun hc => ?_) (fun hc => ?_)
    · have h := h.1 hc
      clear hc
      exact zw_TS_print_19 hM  l1 st h ls H locs (lv_sub hl [0, 1] rfl) hP hS
    · have h := h.2 hc
      clear hc
      refine lv_iconst (v := 1) hx hb dTS_print_15 (by decide) ?_
      refine lv_goto (tgt := 20) hx hb dTS_print_16 rfl ?_
      exact zw_TS_print_20 hM  l1 1 st h ls H locs (lv_sub hl [0, 1] rfl) hP hS
set_option maxHeartbeats 4000000 in
set_option maxRecDepth 100000 in
theorem zw_TS_cell_26 (hM : zs_M p c cTS_cell 4 s m meth args "ThriftyStores" (some .int) g)   {K : Int32 → zs_T → Prop}   (l1 : Int32) (l2 : Int32) (l3 : Int32) (s0 : Int32) (st : zs_T) (h : zf_TS_cell_26 K l1 l2 l3 s0 st) : zs_Go p l e (zs_rm 8 124) s m args below meth c g A (MQ below (zs_Qi g zs_ly zs_N A K) args s 0 0 A) 4 26 [(0, .ref (g.2.1 0)), (1, .int l1), (2, .int l2), (3, .int l3)] [.int s0] st := by
  obtain ⟨hx, hb, hml, hr, hlk, hts, hown, hK⟩ := id hM
  intro ls H locs hl hP hS
  unfold zf_TS_cell_26 at h
  refine zr_callv (va_runS (As := [.int s0]) (rest := []) ⟨hx, hb, hml, hown, hts⟩ (zc_TS_needSensible l g A  h) (va_cwS 1 hts (zs_gS zq_566 zq_567 zq_1 zq_568) rfl rfl rfl ⟨by decide, by decide, by decide +kernel⟩ ⟨Nat.le_of_ble_eq_true rfl, Nat.le_of_ble_eq_true rfl⟩) (zs_preS zs_nwk hK hP) rfl rfl hl.1 rfl (lv_room (Nat.le_of_ble_eq_true rfl)) dTS_cell_26 ⟨Nat.le_refl _, Nat.le_refl _⟩) hS (fun u201 H locs h hP hS => ?_)
  refine lv_aload_n hx hb dTS_cell_29 rfl (lv_at hl 0 rfl) ?_
  refine zr_getr (b := 629) hx hb hts zi_TS hown hK.1 hP zl_0.1 zl_0.2 rfl 6 (by decide) rfl (hts _ zq_207) dTS_cell_30 ?_
  refine lv_iload_n hx hb dTS_cell_33 rfl (lv_at hl 1 rfl) ?_
  refine lv_iload_n hx hb dTS_cell_34 rfl (lv_at hl 2 rfl) ?_
  refine lv_iload_n hx hb dTS_cell_35 rfl (lv_at hl 3 rfl) ?_
  refine zr_calli (va_runV (As := [.int l1, .int l2, .int l3]) (rest := []) ⟨hx, hb, hml, hown, hts⟩ (zc_MA_partOfCell l g A  h) (cwV 3 hts (zs_gV zq_721 zq_722 zq_723 zq_7 zq_724) rfl rfl rfl ⟨rfl, by decide, by decide, by decide +kernel⟩ ⟨Nat.le_of_ble_eq_true rfl, Nat.le_of_ble_eq_true rfl⟩) (zs_preV zs_nwk hK hP zl_629.1 zl_629.2 rfl) rfl rfl hl.1 rfl (lv_room (Nat.le_of_ble_eq_true rfl)) dTS_cell_36 ⟨Nat.le_refl _, Nat.le_refl _⟩) hS (fun r203 u202 H locs h hP hS => ?_)
  exact zr_iret hx hb hr hlk hP hS h dTS_cell_39
set_option maxHeartbeats 4000000 in
set_option maxRecDepth 100000 in
theorem zw_TS_cell_25 (hM : zs_M p c cTS_cell 4 s m meth args "ThriftyStores" (some .int) g)   {K : Int32 → zs_T → Prop}   (l1 : Int32) (l2 : Int32) (l3 : Int32) (st : zs_T) (h : zf_TS_cell_25 K l1 l2 l3 st) : zs_Go p l e (zs_rm 8 124) s m args below meth c g A (MQ below (zs_Qi g zs_ly zs_N A K) args s 0 0 A) 4 25 [(0, .ref (g.2.1 0)), (1, .int l1), (2, .int l2), (3, .int l3)] [] st := by
  obtain ⟨hx, hb, hml, hr, hlk, hts, hown, hK⟩ := id hM
  intro ls H locs hl hP hS
  unfold zf_TS_cell_25 at h
  refine lv_iconst (v := 0) hx hb dTS_cell_25 (by decide) ?_
  exact zw_TS_cell_26 hM  l1 l2 l3 0 st h ls H locs (lv_sub hl [0, 1, 2, 3] rfl) hP hS
set_option maxHeartbeats 4000000 in
set_option maxRecDepth 100000 in
theorem zc_TS_cell (l : Launch) (g : zs_G) (A : Nat → Prop) {l1 : Int32} {l2 : Int32} {l3 : Int32}  {st : zs_T} {K : Int32 → zs_T → Prop} (h : zf_TS_cell l1 l2 l3 st K) : Met l yTS_cell (.code yTS_cell cTS_cell 4 (some .int) :: zs_tb) (zs_rm 8 124) (zs_Pc zs_nl g zs_ly zs_N A [.ref (g.2.1 0), .int l1, .int l2, .int l3] st) (zs_Qi g zs_ly zs_N A K) 0 0 A := by
  refine zs_met (cc := cTS_cell) (maxL := 4) (ret := (some .int)) (by decide) (Nat.le_of_ble_eq_true rfl) (fun p e s m below meth c hM => ?_)
  have hM : zs_M p c cTS_cell 4 s m meth [.ref (g.2.1 0), .int l1, .int l2, .int l3].toArray "ThriftyStores" (some .int) g := hM
  obtain ⟨hx, hb, hml, hr, hlk, hts, hown, hK⟩ := id hM
  intro ls H locs hl hP hS
  have hl : lv_has ls 4 [(0, .ref (g.2.1 0)), (1, .int l1), (2, .int l2), (3, .int l3)] := hl
  unfold zf_TS_cell at h
  refine lv_aload_n hx hb dTS_cell_0 rfl (lv_at hl 0 rfl) ?_
  refine zr_getr (b := 629) hx hb hts zi_TS hown hK.1 hP zl_0.1 zl_0.2 rfl 6 (by decide) rfl (hts _ zq_207) dTS_cell_1 ?_
  refine lv_iload_n hx hb dTS_cell_4 rfl (lv_at hl 1 rfl) ?_
  refine lv_iload_n hx hb dTS_cell_5 rfl (lv_at hl 2 rfl) ?_
  refine zr_calli (va_runV (As := [.int l1, .int l2]) (rest := []) ⟨hx, hb, hml, hown, hts⟩ (zc_MA_hasKeptCell l g A  h) (cwV 2 hts (zs_gV zq_716 zq_717 zq_718 zq_7 zq_719) rfl rfl rfl ⟨rfl, by decide, by decide, by decide +kernel⟩ ⟨Nat.le_of_ble_eq_true rfl, Nat.le_of_ble_eq_true rfl⟩) (zs_preV zs_nwk hK hP zl_629.1 zl_629.2 rfl) rfl rfl hl.1 rfl (lv_room (Nat.le_of_ble_eq_true rfl)) dTS_cell_6 ⟨Nat.le_refl _, Nat.le_refl _⟩) hS (fun r2 u1 H locs h hP hS => ?_)
  refine zr_callv (va_runS (As := [.int r2]) (rest := []) ⟨hx, hb, hml, hown, hts⟩ (zc_TS_needPresent l g A  h) (va_cwS 1 hts (zs_gS zq_547 zq_548 zq_1 zq_549) rfl rfl rfl ⟨by decide, by decide, by decide +kernel⟩ ⟨Nat.le_of_ble_eq_true rfl, Nat.le_of_ble_eq_true rfl⟩) (zs_preS zs_nwk hK hP) rfl rfl hl.1 rfl (lv_room (Nat.le_of_ble_eq_true rfl)) dTS_cell_9 ⟨Nat.le_refl _, Nat.le_refl _⟩) hS (fun u3 H locs h hP hS => ?_)
  refine lv_iload_n hx hb dTS_cell_12 rfl (lv_at hl 3 rfl) ?_
  refine lv_if_lt (tgt := 25) hx hb dTS_cell_13 rfl (fun hc => ?_) (fun hc => ?_)
  · have h := h.1 hc
    clear hc
    exact zw_TS_cell_25 hM  l1 l2 l3 u3 h ls H locs (lv_sub hl [0, 1, 2, 3] rfl) hP hS
  · have h := h.2 hc
    clear hc
    refine lv_iload_n hx hb dTS_cell_16 rfl (lv_at hl 3 rfl) ?_
    refine lv_iconst (v := 2) hx hb dTS_cell_17 (by decide) ?_
    refine lv_icmp_gt (tgt := 25) hx hb dTS_cell_18 rfl (fun hc => ?_) (fun hc => ?_)
    · have h := h.1 hc
      clear hc
      exact zw_TS_cell_25 hM  l1 l2 l3 u3 h ls H locs (lv_sub hl [0, 1, 2, 3] rfl) hP hS
    · have h := h.2 hc
      clear hc
      refine lv_iconst (v := 1) hx hb dTS_cell_21 (by decide) ?_
      refine lv_goto (tgt := 26) hx hb dTS_cell_22 rfl ?_
      exact zw_TS_cell_26 hM  l1 l2 l3 1 u3 h ls H locs (lv_sub hl [0, 1, 2, 3] rfl) hP hS
end ZW
