def zs_GoL (p : Program) (l : Launch) (e : Env) (s : State) (m : MethodId) (b : Nat) (below : List Frame) (meth : Method) (c : Code) (g : zs_G) (A : Nat → Prop) (nL pc : Nat) (lv : List (Nat × Value)) (stk : List Value) (st : zs_T) (cells slots : Nat) : Prop :=
  ∀ (ls : Array Slot) (H : Heap) (locs : List Loc), lv_has ls nL lv → zs_P g zs_ly zs_N A st H → va_S A s.heap H locs → W p l e room_1 s m #[Value.ref b] below meth c H locs cells slots (lw_Z below #[Value.ref b] s) (F0 m pc ls stk)
def zs_End (p : Program) (l : Launch) (e : Env) (s : State) (m : MethodId) (b : Nat) (below : List Frame) (meth : Method) (c : Code) (A : Nat → Prop) : Prop :=
  ∀ (ls : Array Slot) (H : Heap) (locs : List Loc) (cells slots : Nat), cells ≤ 601024 → slots ≤ 7293034 → va_S A s.heap H locs → ∀ {pc : Nat}, decode code pc = .ok (.ireturn, 1) → W p l e room_1 s m #[Value.ref b] below meth c H locs cells slots (lw_Z below #[Value.ref b] s) (F0 m pc ls [.int 1])
section ZWL
variable {p : Program} {l : Launch} {e : Env} {s : State} {m : MethodId} {b : Nat} {below : List Frame} {meth : Method} {c : Code} {g : zs_G} {A : Nat → Prop}
set_option maxHeartbeats 8000000 in
set_option maxRecDepth 100000 in
theorem zw_LAW_1061 (hM : zs_M p c code 7 s m meth #[Value.ref b] "ThriftyStoresLaw" ret g) (hl0 : l.stackTraces = false) (hZ : zx_K A s) (hN : zl_N s) {L : Nat} {xs : Nat → Int32} (hX : va_X b L xs s s.heap) (hbl : b < s.heap.size) (hbA : ¬ A b) (hend : zs_End p l e s m b below meth c A) {cb sb : Nat} (hcb : cb + 1 ≤ 601024) (hsb : sb + 6 ≤ 7293034) {B23 : Int32 → zs_T → Prop} (hB23 : ∀ (l4 : Int32) (st : zs_T), B23 l4 st → zs_GoL p l e s m b below meth c g A 7 23 [(0, .ref b), (1, .ref (g.2.1 0)), (2, .ref (g.2.1 635)), (3, .ref (g.2.1 658)), (4, .int l4)] [] st (cb + 1) (sb + 6)) (l4 : Int32) (st : zs_T) (h : zf_LAW_1061 L xs B23 l4 st) : zs_GoL p l e s m b below meth c g A 7 1061 [(0, .ref b), (1, .ref (g.2.1 0)), (2, .ref (g.2.1 635)), (3, .ref (g.2.1 658)), (4, .int l4)] [] st (cb + 1) (sb + 6) := by
  obtain ⟨hx, hb, hml, hr, hlk, hts, hown, hK⟩ := id hM
  intro ls H locs hl hP hS
  unfold zf_LAW_1061 at h
  refine lv_iinc (k := 4) (v := l4 + 5) hx hb dLAW_1061 hl rfl (by rw [show Int32.ofInt (5) = 5 from by decide]) (by decide) rfl (fun ls hl => ?_)
  have hl : lv_has ls 7 [(4, .int (l4 + 5)), (0, .ref b), (1, .ref (g.2.1 0)), (2, .ref (g.2.1 635)), (3, .ref (g.2.1 658))] := hl
  refine lv_goto (tgt := 23) hx hb dLAW_1064 rfl ?_
  exact hB23 (l4 + 5) st h ls H locs (lv_sub hl [1, 2, 3, 4, 0] rfl) hP hS
set_option maxHeartbeats 8000000 in
set_option maxRecDepth 100000 in
theorem zw_LAW_209 (hM : zs_M p c code 7 s m meth #[Value.ref b] "ThriftyStoresLaw" ret g) (hl0 : l.stackTraces = false) (hZ : zx_K A s) (hN : zl_N s) {L : Nat} {xs : Nat → Int32} (hX : va_X b L xs s s.heap) (hbl : b < s.heap.size) (hbA : ¬ A b) (hend : zs_End p l e s m b below meth c A) {cb sb : Nat} (hcb : cb + 1 ≤ 601024) (hsb : sb + 6 ≤ 7293034) {B23 : Int32 → zs_T → Prop} (hB23 : ∀ (l4 : Int32) (st : zs_T), B23 l4 st → zs_GoL p l e s m b below meth c g A 7 23 [(0, .ref b), (1, .ref (g.2.1 0)), (2, .ref (g.2.1 635)), (3, .ref (g.2.1 658)), (4, .int l4)] [] st (cb + 1) (sb + 6)) (l4 : Int32) (st : zs_T) (h : zf_LAW_209 L xs B23 l4 st) : zs_GoL p l e s m b below meth c g A 7 209 [(0, .ref b), (1, .ref (g.2.1 0)), (2, .ref (g.2.1 635)), (3, .ref (g.2.1 658)), (4, .int l4)] [] st (cb + 1) (sb + 6) := by
  obtain ⟨hx, hb, hml, hr, hlk, hts, hown, hK⟩ := id hM
  intro ls H locs hl hP hS
  unfold zf_LAW_209 at h
  refine lv_goto (tgt := 1061) hx hb dLAW_209 rfl ?_
  exact zw_LAW_1061 hM hl0 hZ hN hX hbl hbA hend hcb hsb hB23 l4 st h ls H locs (lv_sub hl [0, 1, 2, 3, 4] rfl) hP hS
set_option maxHeartbeats 8000000 in
set_option maxRecDepth 100000 in
theorem zw_LAW_266 (hM : zs_M p c code 7 s m meth #[Value.ref b] "ThriftyStoresLaw" ret g) (hl0 : l.stackTraces = false) (hZ : zx_K A s) (hN : zl_N s) {L : Nat} {xs : Nat → Int32} (hX : va_X b L xs s s.heap) (hbl : b < s.heap.size) (hbA : ¬ A b) (hend : zs_End p l e s m b below meth c A) {cb sb : Nat} (hcb : cb + 1 ≤ 601024) (hsb : sb + 6 ≤ 7293034) {B23 : Int32 → zs_T → Prop} (hB23 : ∀ (l4 : Int32) (st : zs_T), B23 l4 st → zs_GoL p l e s m b below meth c g A 7 23 [(0, .ref b), (1, .ref (g.2.1 0)), (2, .ref (g.2.1 635)), (3, .ref (g.2.1 658)), (4, .int l4)] [] st (cb + 1) (sb + 6)) (l4 : Int32) (st : zs_T) (h : zf_LAW_266 L xs B23 l4 st) : zs_GoL p l e s m b below meth c g A 7 266 [(0, .ref b), (1, .ref (g.2.1 0)), (2, .ref (g.2.1 635)), (3, .ref (g.2.1 658)), (4, .int l4)] [] st (cb + 1) (sb + 6) := by
  obtain ⟨hx, hb, hml, hr, hlk, hts, hown, hK⟩ := id hM
  intro ls H locs hl hP hS
  unfold zf_LAW_266 at h
  refine lv_goto (tgt := 1061) hx hb dLAW_266 rfl ?_
  exact zw_LAW_1061 hM hl0 hZ hN hX hbl hbA hend hcb hsb hB23 l4 st h ls H locs (lv_sub hl [0, 1, 2, 3, 4] rfl) hP hS
set_option maxHeartbeats 8000000 in
set_option maxRecDepth 100000 in
theorem zw_LAW_375 (hM : zs_M p c code 7 s m meth #[Value.ref b] "ThriftyStoresLaw" ret g) (hl0 : l.stackTraces = false) (hZ : zx_K A s) (hN : zl_N s) {L : Nat} {xs : Nat → Int32} (hX : va_X b L xs s s.heap) (hbl : b < s.heap.size) (hbA : ¬ A b) (hend : zs_End p l e s m b below meth c A) {cb sb : Nat} (hcb : cb + 1 ≤ 601024) (hsb : sb + 6 ≤ 7293034) {B23 : Int32 → zs_T → Prop} (hB23 : ∀ (l4 : Int32) (st : zs_T), B23 l4 st → zs_GoL p l e s m b below meth c g A 7 23 [(0, .ref b), (1, .ref (g.2.1 0)), (2, .ref (g.2.1 635)), (3, .ref (g.2.1 658)), (4, .int l4)] [] st (cb + 1) (sb + 6)) (l4 : Int32) (st : zs_T) (h : zf_LAW_375 L xs B23 l4 st) : zs_GoL p l e s m b below meth c g A 7 375 [(0, .ref b), (1, .ref (g.2.1 0)), (2, .ref (g.2.1 635)), (3, .ref (g.2.1 658)), (4, .int l4)] [] st (cb + 1) (sb + 6) := by
  obtain ⟨hx, hb, hml, hr, hlk, hts, hown, hK⟩ := id hM
  intro ls H locs hl hP hS
  unfold zf_LAW_375 at h
  refine lv_goto (tgt := 1061) hx hb dLAW_375 rfl ?_
  exact zw_LAW_1061 hM hl0 hZ hN hX hbl hbA hend hcb hsb hB23 l4 st h ls H locs (lv_sub hl [0, 1, 2, 3, 4] rfl) hP hS
set_option maxHeartbeats 8000000 in
set_option maxRecDepth 100000 in
theorem zw_LAW_342 (hM : zs_M p c code 7 s m meth #[Value.ref b] "ThriftyStoresLaw" ret g) (hl0 : l.stackTraces = false) (hZ : zx_K A s) (hN : zl_N s) {L : Nat} {xs : Nat → Int32} (hX : va_X b L xs s s.heap) (hbl : b < s.heap.size) (hbA : ¬ A b) (hend : zs_End p l e s m b below meth c A) {cb sb : Nat} (hcb : cb + 1 ≤ 601024) (hsb : sb + 6 ≤ 7293034) {B23 : Int32 → zs_T → Prop} (hB23 : ∀ (l4 : Int32) (st : zs_T), B23 l4 st → zs_GoL p l e s m b below meth c g A 7 23 [(0, .ref b), (1, .ref (g.2.1 0)), (2, .ref (g.2.1 635)), (3, .ref (g.2.1 658)), (4, .int l4)] [] st (cb + 1) (sb + 6)) (l4 : Int32) (l5 : Int32) (s0 : Int32) (s1 : Int32) (s2 : Int32) (st : zs_T) (h : zf_LAW_342 L xs B23 l4 l5 s0 s1 s2 st) : zs_GoL p l e s m b below meth c g A 7 342 [(0, .ref b), (1, .ref (g.2.1 0)), (2, .ref (g.2.1 635)), (3, .ref (g.2.1 658)), (4, .int l4), (5, .int l5)] [.int s0, .int s1, .int s2, .ref (g.2.1 635)] st (cb + 1) (sb + 6) := by
  obtain ⟨hx, hb, hml, hr, hlk, hts, hown, hK⟩ := id hM
  intro ls H locs hl hP hS
  unfold zf_LAW_342 at h
  refine zr_calli (va_runV (As := [.int s2, .int s1, .int s0]) (rest := []) ⟨hx, hb, hml, hown, hts⟩ (zc_MO_instruction l g A  h) (cwV 3 hts (zs_gV zq_945 zq_946 zq_947 zq_8 zq_948) rfl rfl rfl ⟨rfl, by decide, by decide, by decide +kernel⟩ ⟨Nat.le_of_ble_eq_true rfl, Nat.le_of_ble_eq_true rfl⟩) (zs_preV zs_nwk hK hP zl_635.1 zl_635.2 rfl) rfl rfl hl.1 rfl (lv_room (Nat.le_of_ble_eq_true rfl)) dLAW_342 ⟨by show _ ≤ 601024; omega, by show _ ≤ 7293034; omega⟩) hS (fun r19002 u19001 H locs h hP hS => ?_)
  refine lv_istore hx hb dLAW_345 hl (by decide) rfl (fun ls hl => ?_)
  have hl : lv_has ls 7 [(6, .int r19002), (0, .ref b), (1, .ref (g.2.1 0)), (2, .ref (g.2.1 635)), (3, .ref (g.2.1 658)), (4, .int l4), (5, .int l5)] := hl
  refine lv_aload_n hx hb dLAW_347 rfl (lv_at hl 3 rfl) ?_
  refine zr_calli (va_runV (As := []) (rest := []) ⟨hx, hb, hml, hown, hts⟩ (zc_MO_thrown l g A  h) (cwV 0 hts (zs_gV zq_827 zq_828 zq_829 zq_8 zq_830) rfl rfl rfl ⟨rfl, by decide, by decide, by decide +kernel⟩ ⟨Nat.le_of_ble_eq_true rfl, Nat.le_of_ble_eq_true rfl⟩) (zs_preV zs_nwk hK hP zl_635.1 zl_635.2 rfl) rfl rfl hl.1 rfl (lv_room (Nat.le_of_ble_eq_true rfl)) dLAW_348 ⟨by show _ ≤ 601024; omega, by show _ ≤ 7293034; omega⟩) hS (fun r19004 u19003 H locs h hP hS => ?_)
  refine lv_iload hx hb dLAW_351 (lv_at hl 6 rfl) ?_
  refine lv_icmp_eq (tgt := 358) hx hb dLAW_353 rfl (fun hc => ?_) (fun hc => ?_)
  · have h := h.1 hc
    clear hc
    refine lv_iload hx hb dLAW_358 (lv_at hl 6 rfl) ?_
    refine lv_if_ne (tgt := 375) hx hb dLAW_360 rfl (fun hc => ?_) (fun hc => ?_)
    · have h := h.1 hc
      clear hc
      exact zw_LAW_375 hM hl0 hZ hN hX hbl hbA hend hcb hsb hB23 l4 u19003 h ls H locs (lv_sub hl [1, 2, 3, 4, 5] rfl) hP hS
    · have h := h.2 hc
      clear hc
      refine lv_aload_n hx hb dLAW_363 rfl (lv_at hl 4 rfl) ?_
      refine lv_iconst (v := 0) hx hb dLAW_364 (by decide) ?_
      obtain ⟨hi19005, h⟩ := h
      refine zr_lald hx hb hK.1 hP zl_658.1 zl_658.2 hi19005 dLAW_365 ?_
      refine lv_iload hx hb dLAW_366 (lv_at hl 0 rfl) ?_
      refine lv_i2l hx hb dLAW_368 rfl ?_
      refine W.lcmp hx hb dLAW_369 ?_
      refine lv_if_eq (tgt := 375) hx hb dLAW_370 rfl (fun hc => ?_) (fun hc => ?_)
      · have h := h.1 hc
        clear hc
        exact zw_LAW_375 hM hl0 hZ hN hX hbl hbA hend hcb hsb hB23 l4 u19003 h ls H locs (lv_sub hl [1, 2, 3, 4, 5] rfl) hP hS
      · have h := h.2 hc
        clear hc
        refine lv_iconst (v := 0) hx hb dLAW_373 (by decide) ?_
        exact h.elim
  · have h := h.2 hc
    clear hc
    refine lv_iconst (v := 0) hx hb dLAW_356 (by decide) ?_
    exact h.elim
set_option maxHeartbeats 8000000 in
set_option maxRecDepth 100000 in
theorem zw_LAW_309 (hM : zs_M p c code 7 s m meth #[Value.ref b] "ThriftyStoresLaw" ret g) (hl0 : l.stackTraces = false) (hZ : zx_K A s) (hN : zl_N s) {L : Nat} {xs : Nat → Int32} (hX : va_X b L xs s s.heap) (hbl : b < s.heap.size) (hbA : ¬ A b) (hend : zs_End p l e s m b below meth c A) {cb sb : Nat} (hcb : cb + 1 ≤ 601024) (hsb : sb + 6 ≤ 7293034) {B23 : Int32 → zs_T → Prop} (hB23 : ∀ (l4 : Int32) (st : zs_T), B23 l4 st → zs_GoL p l e s m b below meth c g A 7 23 [(0, .ref b), (1, .ref (g.2.1 0)), (2, .ref (g.2.1 635)), (3, .ref (g.2.1 658)), (4, .int l4)] [] st (cb + 1) (sb + 6)) (l4 : Int32) (s0 : Int32) (s1 : Int32) (s2 : Int32) (st : zs_T) (h : zf_LAW_309 L xs B23 l4 s0 s1 s2 st) : zs_GoL p l e s m b below meth c g A 7 309 [(0, .ref b), (1, .ref (g.2.1 0)), (2, .ref (g.2.1 635)), (3, .ref (g.2.1 658)), (4, .int l4)] [.int s0, .int s1, .int s2, .ref (g.2.1 0)] st cb sb := by
  obtain ⟨hx, hb, hml, hr, hlk, hts, hown, hK⟩ := id hM
  intro ls H locs hl hP hS
  unfold zf_LAW_309 at h
  refine lv_aload_n hx hb dLAW_309 rfl (lv_at hl 3 rfl) ?_
  refine zl_calls (n := 5) (As := [.ref (g.2.1 0), .int s2, .int s1, .int s0, .ref (g.2.1 658)]) (rest := []) ⟨hx, hb, hml, hown, hts⟩ (zc_LA_instruction l hl0 g A h) rfl rfl ⟨Nat.le_of_ble_eq_true rfl, Nat.le_of_ble_eq_true rfl⟩ zq_537 zq_0 zq_535 zq_536 ⟨by decide, by decide, by decide +kernel⟩ rfl hK hZ hN hP hS hl.1 rfl (Nat.le_of_ble_eq_true rfl) dLAW_310 ⟨hcb, hsb⟩ (fun r5001 u5002 H locs h hP hS => ?_)
  refine lv_istore hx hb dLAW_313 hl (by decide) rfl (fun ls hl => ?_)
  have hl : lv_has ls 7 [(5, .int r5001), (0, .ref b), (1, .ref (g.2.1 0)), (2, .ref (g.2.1 635)), (3, .ref (g.2.1 658)), (4, .int l4)] := hl
  refine lv_aload_n hx hb dLAW_315 rfl (lv_at hl 3 rfl) ?_
  refine lv_aload_n hx hb dLAW_316 rfl (lv_at hl 1 rfl) ?_
  refine lv_iload hx hb dLAW_317 (lv_at hl 5 rfl) ?_
  refine lv_iconst (v := 1) hx hb dLAW_319 (by decide) ?_
  refine lv_iadd hx hb dLAW_320 ?_
  obtain ⟨hi5003, h⟩ := h
  refine va_sld hx hb hX hbl hbA hS hi5003 dLAW_321 ?_
  refine lv_aload_n hx hb dLAW_322 rfl (lv_at hl 1 rfl) ?_
  refine lv_iload hx hb dLAW_323 (lv_at hl 5 rfl) ?_
  refine lv_iconst (v := 2) hx hb dLAW_325 (by decide) ?_
  refine lv_iadd hx hb dLAW_326 ?_
  obtain ⟨hi5004, h⟩ := h
  refine va_sld hx hb hX hbl hbA hS hi5004 dLAW_327 ?_
  refine lv_aload_n hx hb dLAW_328 rfl (lv_at hl 1 rfl) ?_
  refine lv_iload hx hb dLAW_329 (lv_at hl 5 rfl) ?_
  refine lv_iconst (v := 3) hx hb dLAW_331 (by decide) ?_
  refine lv_iadd hx hb dLAW_332 ?_
  obtain ⟨hi5005, h⟩ := h
  refine va_sld hx hb hX hbl hbA hS hi5005 dLAW_333 ?_
  refine lv_if_eq (tgt := 341) hx hb dLAW_334 rfl (fun hc => ?_) (fun hc => ?_)
  · have h := h.1 hc
    clear hc
    refine lv_iconst (v := 0) hx hb dLAW_341 (by decide) ?_
    exact zw_LAW_342 hM hl0 hZ hN hX hbl hbA hend hcb hsb hB23 l4 r5001 0 (xs (l4 + 2).toNatClampNeg) (xs (l4 + 1).toNatClampNeg) u5002 h ls H locs (lv_sub hl [1, 2, 3, 4, 5, 0] rfl) hP hS
  · have h := h.2 hc
    clear hc
    refine lv_iconst (v := 1) hx hb dLAW_337 (by decide) ?_
    refine lv_goto (tgt := 342) hx hb dLAW_338 rfl ?_
    exact zw_LAW_342 hM hl0 hZ hN hX hbl hbA hend hcb hsb hB23 l4 r5001 1 (xs (l4 + 2).toNatClampNeg) (xs (l4 + 1).toNatClampNeg) u5002 h ls H locs (lv_sub hl [1, 2, 3, 4, 5, 0] rfl) hP hS
set_option maxHeartbeats 8000000 in
set_option maxRecDepth 100000 in
theorem zw_LAW_431 (hM : zs_M p c code 7 s m meth #[Value.ref b] "ThriftyStoresLaw" ret g) (hl0 : l.stackTraces = false) (hZ : zx_K A s) (hN : zl_N s) {L : Nat} {xs : Nat → Int32} (hX : va_X b L xs s s.heap) (hbl : b < s.heap.size) (hbA : ¬ A b) (hend : zs_End p l e s m b below meth c A) {cb sb : Nat} (hcb : cb + 1 ≤ 601024) (hsb : sb + 6 ≤ 7293034) {B23 : Int32 → zs_T → Prop} (hB23 : ∀ (l4 : Int32) (st : zs_T), B23 l4 st → zs_GoL p l e s m b below meth c g A 7 23 [(0, .ref b), (1, .ref (g.2.1 0)), (2, .ref (g.2.1 635)), (3, .ref (g.2.1 658)), (4, .int l4)] [] st (cb + 1) (sb + 6)) (l4 : Int32) (st : zs_T) (h : zf_LAW_431 L xs B23 l4 st) : zs_GoL p l e s m b below meth c g A 7 431 [(0, .ref b), (1, .ref (g.2.1 0)), (2, .ref (g.2.1 635)), (3, .ref (g.2.1 658)), (4, .int l4)] [] st (cb + 1) (sb + 6) := by
  obtain ⟨hx, hb, hml, hr, hlk, hts, hown, hK⟩ := id hM
  intro ls H locs hl hP hS
  unfold zf_LAW_431 at h
  refine lv_goto (tgt := 1061) hx hb dLAW_431 rfl ?_
  exact zw_LAW_1061 hM hl0 hZ hN hX hbl hbA hend hcb hsb hB23 l4 st h ls H locs (lv_sub hl [0, 1, 2, 3, 4] rfl) hP hS
set_option maxHeartbeats 8000000 in
set_option maxRecDepth 100000 in
theorem zw_LAW_475 (hM : zs_M p c code 7 s m meth #[Value.ref b] "ThriftyStoresLaw" ret g) (hl0 : l.stackTraces = false) (hZ : zx_K A s) (hN : zl_N s) {L : Nat} {xs : Nat → Int32} (hX : va_X b L xs s s.heap) (hbl : b < s.heap.size) (hbA : ¬ A b) (hend : zs_End p l e s m b below meth c A) {cb sb : Nat} (hcb : cb + 1 ≤ 601024) (hsb : sb + 6 ≤ 7293034) {B23 : Int32 → zs_T → Prop} (hB23 : ∀ (l4 : Int32) (st : zs_T), B23 l4 st → zs_GoL p l e s m b below meth c g A 7 23 [(0, .ref b), (1, .ref (g.2.1 0)), (2, .ref (g.2.1 635)), (3, .ref (g.2.1 658)), (4, .int l4)] [] st (cb + 1) (sb + 6)) (l4 : Int32) (st : zs_T) (h : zf_LAW_475 L xs B23 l4 st) : zs_GoL p l e s m b below meth c g A 7 475 [(0, .ref b), (1, .ref (g.2.1 0)), (2, .ref (g.2.1 635)), (3, .ref (g.2.1 658)), (4, .int l4)] [] st (cb + 1) (sb + 6) := by
  obtain ⟨hx, hb, hml, hr, hlk, hts, hown, hK⟩ := id hM
  intro ls H locs hl hP hS
  unfold zf_LAW_475 at h
  refine lv_goto (tgt := 1061) hx hb dLAW_475 rfl ?_
  exact zw_LAW_1061 hM hl0 hZ hN hX hbl hbA hend hcb hsb hB23 l4 st h ls H locs (lv_sub hl [0, 1, 2, 3, 4] rfl) hP hS
set_option maxHeartbeats 8000000 in
set_option maxRecDepth 100000 in
theorem zw_LAW_550 (hM : zs_M p c code 7 s m meth #[Value.ref b] "ThriftyStoresLaw" ret g) (hl0 : l.stackTraces = false) (hZ : zx_K A s) (hN : zl_N s) {L : Nat} {xs : Nat → Int32} (hX : va_X b L xs s s.heap) (hbl : b < s.heap.size) (hbA : ¬ A b) (hend : zs_End p l e s m b below meth c A) {cb sb : Nat} (hcb : cb + 1 ≤ 601024) (hsb : sb + 6 ≤ 7293034) {B23 : Int32 → zs_T → Prop} (hB23 : ∀ (l4 : Int32) (st : zs_T), B23 l4 st → zs_GoL p l e s m b below meth c g A 7 23 [(0, .ref b), (1, .ref (g.2.1 0)), (2, .ref (g.2.1 635)), (3, .ref (g.2.1 658)), (4, .int l4)] [] st (cb + 1) (sb + 6)) (l4 : Int32) (st : zs_T) (h : zf_LAW_550 L xs B23 l4 st) : zs_GoL p l e s m b below meth c g A 7 550 [(0, .ref b), (1, .ref (g.2.1 0)), (2, .ref (g.2.1 635)), (3, .ref (g.2.1 658)), (4, .int l4)] [] st (cb + 1) (sb + 6) := by
  obtain ⟨hx, hb, hml, hr, hlk, hts, hown, hK⟩ := id hM
  intro ls H locs hl hP hS
  unfold zf_LAW_550 at h
  refine lv_goto (tgt := 1061) hx hb dLAW_550 rfl ?_
  exact zw_LAW_1061 hM hl0 hZ hN hX hbl hbA hend hcb hsb hB23 l4 st h ls H locs (lv_sub hl [0, 1, 2, 3, 4] rfl) hP hS
set_option maxHeartbeats 8000000 in
set_option maxRecDepth 100000 in
theorem zw_LAW_544 (hM : zs_M p c code 7 s m meth #[Value.ref b] "ThriftyStoresLaw" ret g) (hl0 : l.stackTraces = false) (hZ : zx_K A s) (hN : zl_N s) {L : Nat} {xs : Nat → Int32} (hX : va_X b L xs s s.heap) (hbl : b < s.heap.size) (hbA : ¬ A b) (hend : zs_End p l e s m b below meth c A) {cb sb : Nat} (hcb : cb + 1 ≤ 601024) (hsb : sb + 6 ≤ 7293034) {B23 : Int32 → zs_T → Prop} (hB23 : ∀ (l4 : Int32) (st : zs_T), B23 l4 st → zs_GoL p l e s m b below meth c g A 7 23 [(0, .ref b), (1, .ref (g.2.1 0)), (2, .ref (g.2.1 635)), (3, .ref (g.2.1 658)), (4, .int l4)] [] st (cb + 1) (sb + 6)) (l4 : Int32) (s0 : Int64) (s1 : Int64) (st : zs_T) (h : zf_LAW_544 L xs B23 l4 s0 s1 st) : zs_GoL p l e s m b below meth c g A 7 544 [(0, .ref b), (1, .ref (g.2.1 0)), (2, .ref (g.2.1 635)), (3, .ref (g.2.1 658)), (4, .int l4)] [.long s0, .long s1] st (cb + 1) (sb + 6) := by
  obtain ⟨hx, hb, hml, hr, hlk, hts, hown, hK⟩ := id hM
  intro ls H locs hl hP hS
  unfold zf_LAW_544 at h
  refine W.lcmp hx hb dLAW_544 ?_
  refine lv_if_eq (tgt := 550) hx hb dLAW_545 rfl (fun hc => ?_) (fun hc => ?_)
  · have h := h.1 hc
    clear hc
    exact zw_LAW_550 hM hl0 hZ hN hX hbl hbA hend hcb hsb hB23 l4 st h ls H locs (lv_sub hl [0, 1, 2, 3, 4] rfl) hP hS
  · have h := h.2 hc
    clear hc
    refine lv_iconst (v := 0) hx hb dLAW_548 (by decide) ?_
    exact h.elim
set_option maxHeartbeats 8000000 in
set_option maxRecDepth 100000 in
theorem zw_LAW_625 (hM : zs_M p c code 7 s m meth #[Value.ref b] "ThriftyStoresLaw" ret g) (hl0 : l.stackTraces = false) (hZ : zx_K A s) (hN : zl_N s) {L : Nat} {xs : Nat → Int32} (hX : va_X b L xs s s.heap) (hbl : b < s.heap.size) (hbA : ¬ A b) (hend : zs_End p l e s m b below meth c A) {cb sb : Nat} (hcb : cb + 1 ≤ 601024) (hsb : sb + 6 ≤ 7293034) {B23 : Int32 → zs_T → Prop} (hB23 : ∀ (l4 : Int32) (st : zs_T), B23 l4 st → zs_GoL p l e s m b below meth c g A 7 23 [(0, .ref b), (1, .ref (g.2.1 0)), (2, .ref (g.2.1 635)), (3, .ref (g.2.1 658)), (4, .int l4)] [] st (cb + 1) (sb + 6)) (l4 : Int32) (st : zs_T) (h : zf_LAW_625 L xs B23 l4 st) : zs_GoL p l e s m b below meth c g A 7 625 [(0, .ref b), (1, .ref (g.2.1 0)), (2, .ref (g.2.1 635)), (3, .ref (g.2.1 658)), (4, .int l4)] [] st (cb + 1) (sb + 6) := by
  obtain ⟨hx, hb, hml, hr, hlk, hts, hown, hK⟩ := id hM
  intro ls H locs hl hP hS
  unfold zf_LAW_625 at h
  refine lv_goto (tgt := 1061) hx hb dLAW_625 rfl ?_
  exact zw_LAW_1061 hM hl0 hZ hN hX hbl hbA hend hcb hsb hB23 l4 st h ls H locs (lv_sub hl [0, 1, 2, 3, 4] rfl) hP hS
set_option maxHeartbeats 8000000 in
set_option maxRecDepth 100000 in
theorem zw_LAW_619 (hM : zs_M p c code 7 s m meth #[Value.ref b] "ThriftyStoresLaw" ret g) (hl0 : l.stackTraces = false) (hZ : zx_K A s) (hN : zl_N s) {L : Nat} {xs : Nat → Int32} (hX : va_X b L xs s s.heap) (hbl : b < s.heap.size) (hbA : ¬ A b) (hend : zs_End p l e s m b below meth c A) {cb sb : Nat} (hcb : cb + 1 ≤ 601024) (hsb : sb + 6 ≤ 7293034) {B23 : Int32 → zs_T → Prop} (hB23 : ∀ (l4 : Int32) (st : zs_T), B23 l4 st → zs_GoL p l e s m b below meth c g A 7 23 [(0, .ref b), (1, .ref (g.2.1 0)), (2, .ref (g.2.1 635)), (3, .ref (g.2.1 658)), (4, .int l4)] [] st (cb + 1) (sb + 6)) (l4 : Int32) (s0 : Int64) (s1 : Int64) (st : zs_T) (h : zf_LAW_619 L xs B23 l4 s0 s1 st) : zs_GoL p l e s m b below meth c g A 7 619 [(0, .ref b), (1, .ref (g.2.1 0)), (2, .ref (g.2.1 635)), (3, .ref (g.2.1 658)), (4, .int l4)] [.long s0, .long s1] st (cb + 1) (sb + 6) := by
  obtain ⟨hx, hb, hml, hr, hlk, hts, hown, hK⟩ := id hM
  intro ls H locs hl hP hS
  unfold zf_LAW_619 at h
  refine W.lcmp hx hb dLAW_619 ?_
  refine lv_if_eq (tgt := 625) hx hb dLAW_620 rfl (fun hc => ?_) (fun hc => ?_)
  · have h := h.1 hc
    clear hc
    exact zw_LAW_625 hM hl0 hZ hN hX hbl hbA hend hcb hsb hB23 l4 st h ls H locs (lv_sub hl [0, 1, 2, 3, 4] rfl) hP hS
  · have h := h.2 hc
    clear hc
    refine lv_iconst (v := 0) hx hb dLAW_623 (by decide) ?_
    exact h.elim
set_option maxHeartbeats 8000000 in
set_option maxRecDepth 100000 in
theorem zw_LAW_724 (hM : zs_M p c code 7 s m meth #[Value.ref b] "ThriftyStoresLaw" ret g) (hl0 : l.stackTraces = false) (hZ : zx_K A s) (hN : zl_N s) {L : Nat} {xs : Nat → Int32} (hX : va_X b L xs s s.heap) (hbl : b < s.heap.size) (hbA : ¬ A b) (hend : zs_End p l e s m b below meth c A) {cb sb : Nat} (hcb : cb + 1 ≤ 601024) (hsb : sb + 6 ≤ 7293034) {B23 : Int32 → zs_T → Prop} (hB23 : ∀ (l4 : Int32) (st : zs_T), B23 l4 st → zs_GoL p l e s m b below meth c g A 7 23 [(0, .ref b), (1, .ref (g.2.1 0)), (2, .ref (g.2.1 635)), (3, .ref (g.2.1 658)), (4, .int l4)] [] st (cb + 1) (sb + 6)) (l4 : Int32) (st : zs_T) (h : zf_LAW_724 L xs B23 l4 st) : zs_GoL p l e s m b below meth c g A 7 724 [(0, .ref b), (1, .ref (g.2.1 0)), (2, .ref (g.2.1 635)), (3, .ref (g.2.1 658)), (4, .int l4)] [] st (cb + 1) (sb + 6) := by
  obtain ⟨hx, hb, hml, hr, hlk, hts, hown, hK⟩ := id hM
  intro ls H locs hl hP hS
  unfold zf_LAW_724 at h
  refine lv_goto (tgt := 1061) hx hb dLAW_724 rfl ?_
  exact zw_LAW_1061 hM hl0 hZ hN hX hbl hbA hend hcb hsb hB23 l4 st h ls H locs (lv_sub hl [0, 1, 2, 3, 4] rfl) hP hS
set_option maxHeartbeats 8000000 in
set_option maxRecDepth 100000 in
theorem zw_LAW_718 (hM : zs_M p c code 7 s m meth #[Value.ref b] "ThriftyStoresLaw" ret g) (hl0 : l.stackTraces = false) (hZ : zx_K A s) (hN : zl_N s) {L : Nat} {xs : Nat → Int32} (hX : va_X b L xs s s.heap) (hbl : b < s.heap.size) (hbA : ¬ A b) (hend : zs_End p l e s m b below meth c A) {cb sb : Nat} (hcb : cb + 1 ≤ 601024) (hsb : sb + 6 ≤ 7293034) {B23 : Int32 → zs_T → Prop} (hB23 : ∀ (l4 : Int32) (st : zs_T), B23 l4 st → zs_GoL p l e s m b below meth c g A 7 23 [(0, .ref b), (1, .ref (g.2.1 0)), (2, .ref (g.2.1 635)), (3, .ref (g.2.1 658)), (4, .int l4)] [] st (cb + 1) (sb + 6)) (l4 : Int32) (s0 : Int64) (s1 : Int64) (st : zs_T) (h : zf_LAW_718 L xs B23 l4 s0 s1 st) : zs_GoL p l e s m b below meth c g A 7 718 [(0, .ref b), (1, .ref (g.2.1 0)), (2, .ref (g.2.1 635)), (3, .ref (g.2.1 658)), (4, .int l4)] [.long s0, .long s1] st (cb + 1) (sb + 6) := by
  obtain ⟨hx, hb, hml, hr, hlk, hts, hown, hK⟩ := id hM
  intro ls H locs hl hP hS
  unfold zf_LAW_718 at h
  refine W.lcmp hx hb dLAW_718 ?_
  refine lv_if_eq (tgt := 724) hx hb dLAW_719 rfl (fun hc => ?_) (fun hc => ?_)
  · have h := h.1 hc
    clear hc
    exact zw_LAW_724 hM hl0 hZ hN hX hbl hbA hend hcb hsb hB23 l4 st h ls H locs (lv_sub hl [0, 1, 2, 3, 4] rfl) hP hS
  · have h := h.2 hc
    clear hc
    refine lv_iconst (v := 0) hx hb dLAW_722 (by decide) ?_
    exact h.elim
set_option maxHeartbeats 8000000 in
set_option maxRecDepth 100000 in
theorem zw_LAW_799 (hM : zs_M p c code 7 s m meth #[Value.ref b] "ThriftyStoresLaw" ret g) (hl0 : l.stackTraces = false) (hZ : zx_K A s) (hN : zl_N s) {L : Nat} {xs : Nat → Int32} (hX : va_X b L xs s s.heap) (hbl : b < s.heap.size) (hbA : ¬ A b) (hend : zs_End p l e s m b below meth c A) {cb sb : Nat} (hcb : cb + 1 ≤ 601024) (hsb : sb + 6 ≤ 7293034) {B23 : Int32 → zs_T → Prop} (hB23 : ∀ (l4 : Int32) (st : zs_T), B23 l4 st → zs_GoL p l e s m b below meth c g A 7 23 [(0, .ref b), (1, .ref (g.2.1 0)), (2, .ref (g.2.1 635)), (3, .ref (g.2.1 658)), (4, .int l4)] [] st (cb + 1) (sb + 6)) (l4 : Int32) (st : zs_T) (h : zf_LAW_799 L xs B23 l4 st) : zs_GoL p l e s m b below meth c g A 7 799 [(0, .ref b), (1, .ref (g.2.1 0)), (2, .ref (g.2.1 635)), (3, .ref (g.2.1 658)), (4, .int l4)] [] st (cb + 1) (sb + 6) := by
  obtain ⟨hx, hb, hml, hr, hlk, hts, hown, hK⟩ := id hM
  intro ls H locs hl hP hS
  unfold zf_LAW_799 at h
  refine lv_goto (tgt := 1061) hx hb dLAW_799 rfl ?_
  exact zw_LAW_1061 hM hl0 hZ hN hX hbl hbA hend hcb hsb hB23 l4 st h ls H locs (lv_sub hl [0, 1, 2, 3, 4] rfl) hP hS
set_option maxHeartbeats 8000000 in
set_option maxRecDepth 100000 in
theorem zw_LAW_793 (hM : zs_M p c code 7 s m meth #[Value.ref b] "ThriftyStoresLaw" ret g) (hl0 : l.stackTraces = false) (hZ : zx_K A s) (hN : zl_N s) {L : Nat} {xs : Nat → Int32} (hX : va_X b L xs s s.heap) (hbl : b < s.heap.size) (hbA : ¬ A b) (hend : zs_End p l e s m b below meth c A) {cb sb : Nat} (hcb : cb + 1 ≤ 601024) (hsb : sb + 6 ≤ 7293034) {B23 : Int32 → zs_T → Prop} (hB23 : ∀ (l4 : Int32) (st : zs_T), B23 l4 st → zs_GoL p l e s m b below meth c g A 7 23 [(0, .ref b), (1, .ref (g.2.1 0)), (2, .ref (g.2.1 635)), (3, .ref (g.2.1 658)), (4, .int l4)] [] st (cb + 1) (sb + 6)) (l4 : Int32) (s0 : Int64) (s1 : Int64) (st : zs_T) (h : zf_LAW_793 L xs B23 l4 s0 s1 st) : zs_GoL p l e s m b below meth c g A 7 793 [(0, .ref b), (1, .ref (g.2.1 0)), (2, .ref (g.2.1 635)), (3, .ref (g.2.1 658)), (4, .int l4)] [.long s0, .long s1] st (cb + 1) (sb + 6) := by
  obtain ⟨hx, hb, hml, hr, hlk, hts, hown, hK⟩ := id hM
  intro ls H locs hl hP hS
  unfold zf_LAW_793 at h
  refine W.lcmp hx hb dLAW_793 ?_
  refine lv_if_eq (tgt := 799) hx hb dLAW_794 rfl (fun hc => ?_) (fun hc => ?_)
  · have h := h.1 hc
    clear hc
    exact zw_LAW_799 hM hl0 hZ hN hX hbl hbA hend hcb hsb hB23 l4 st h ls H locs (lv_sub hl [0, 1, 2, 3, 4] rfl) hP hS
  · have h := h.2 hc
    clear hc
    refine lv_iconst (v := 0) hx hb dLAW_797 (by decide) ?_
    exact h.elim
set_option maxHeartbeats 8000000 in
set_option maxRecDepth 100000 in
theorem zw_LAW_883 (hM : zs_M p c code 7 s m meth #[Value.ref b] "ThriftyStoresLaw" ret g) (hl0 : l.stackTraces = false) (hZ : zx_K A s) (hN : zl_N s) {L : Nat} {xs : Nat → Int32} (hX : va_X b L xs s s.heap) (hbl : b < s.heap.size) (hbA : ¬ A b) (hend : zs_End p l e s m b below meth c A) {cb sb : Nat} (hcb : cb + 1 ≤ 601024) (hsb : sb + 6 ≤ 7293034) {B23 : Int32 → zs_T → Prop} (hB23 : ∀ (l4 : Int32) (st : zs_T), B23 l4 st → zs_GoL p l e s m b below meth c g A 7 23 [(0, .ref b), (1, .ref (g.2.1 0)), (2, .ref (g.2.1 635)), (3, .ref (g.2.1 658)), (4, .int l4)] [] st (cb + 1) (sb + 6)) (l4 : Int32) (st : zs_T) (h : zf_LAW_883 L xs B23 l4 st) : zs_GoL p l e s m b below meth c g A 7 883 [(0, .ref b), (1, .ref (g.2.1 0)), (2, .ref (g.2.1 635)), (3, .ref (g.2.1 658)), (4, .int l4)] [] st (cb + 1) (sb + 6) := by
  obtain ⟨hx, hb, hml, hr, hlk, hts, hown, hK⟩ := id hM
  intro ls H locs hl hP hS
  unfold zf_LAW_883 at h
  refine lv_goto (tgt := 1061) hx hb dLAW_883 rfl ?_
  exact zw_LAW_1061 hM hl0 hZ hN hX hbl hbA hend hcb hsb hB23 l4 st h ls H locs (lv_sub hl [0, 1, 2, 3, 4] rfl) hP hS
set_option maxHeartbeats 8000000 in
set_option maxRecDepth 100000 in
theorem zw_LAW_844 (hM : zs_M p c code 7 s m meth #[Value.ref b] "ThriftyStoresLaw" ret g) (hl0 : l.stackTraces = false) (hZ : zx_K A s) (hN : zl_N s) {L : Nat} {xs : Nat → Int32} (hX : va_X b L xs s s.heap) (hbl : b < s.heap.size) (hbA : ¬ A b) (hend : zs_End p l e s m b below meth c A) {cb sb : Nat} (hcb : cb + 1 ≤ 601024) (hsb : sb + 6 ≤ 7293034) {B23 : Int32 → zs_T → Prop} (hB23 : ∀ (l4 : Int32) (st : zs_T), B23 l4 st → zs_GoL p l e s m b below meth c g A 7 23 [(0, .ref b), (1, .ref (g.2.1 0)), (2, .ref (g.2.1 635)), (3, .ref (g.2.1 658)), (4, .int l4)] [] st (cb + 1) (sb + 6)) (l4 : Int32) (l5 : Int32) (s0 : Int32) (st : zs_T) (h : zf_LAW_844 L xs B23 l4 l5 s0 st) : zs_GoL p l e s m b below meth c g A 7 844 [(0, .ref b), (1, .ref (g.2.1 0)), (2, .ref (g.2.1 635)), (3, .ref (g.2.1 658)), (4, .int l4), (5, .int l5)] [.int s0, .ref (g.2.1 635)] st (cb + 1) (sb + 6) := by
  obtain ⟨hx, hb, hml, hr, hlk, hts, hown, hK⟩ := id hM
  intro ls H locs hl hP hS
  unfold zf_LAW_844 at h
  refine lv_aload_n hx hb dLAW_844 rfl (lv_at hl 0 rfl) ?_
  refine lv_iload hx hb dLAW_845 (lv_at hl 4 rfl) ?_
  refine lv_iconst (v := 2) hx hb dLAW_847 (by decide) ?_
  refine lv_iadd hx hb dLAW_848 ?_
  obtain ⟨hi20001, h⟩ := h
  refine va_sld hx hb hX hbl hbA hS hi20001 dLAW_849 ?_
  refine zr_calli (va_runV (As := [.int s0, .int (xs (l4 + 2).toNatClampNeg)]) (rest := []) ⟨hx, hb, hml, hown, hts⟩ (zc_MO_run l g A  h) (cwV 2 hts (zs_gV zq_977 zq_978 zq_979 zq_8 zq_980) rfl rfl rfl ⟨rfl, by decide, by decide, by decide +kernel⟩ ⟨Nat.le_of_ble_eq_true rfl, Nat.le_of_ble_eq_true rfl⟩) (zs_preV zs_nwk hK hP zl_635.1 zl_635.2 rfl) rfl rfl hl.1 rfl (lv_room (Nat.le_of_ble_eq_true rfl)) dLAW_850 ⟨by show _ ≤ 601024; omega, by show _ ≤ 7293034; omega⟩) hS (fun r20003 u20002 H locs h hP hS => ?_)
  refine lv_istore hx hb dLAW_853 hl (by decide) rfl (fun ls hl => ?_)
  have hl : lv_has ls 7 [(6, .int r20003), (0, .ref b), (1, .ref (g.2.1 0)), (2, .ref (g.2.1 635)), (3, .ref (g.2.1 658)), (4, .int l4), (5, .int l5)] := hl
  refine lv_aload_n hx hb dLAW_855 rfl (lv_at hl 3 rfl) ?_
  refine zr_calli (va_runV (As := []) (rest := []) ⟨hx, hb, hml, hown, hts⟩ (zc_MO_thrown l g A  h) (cwV 0 hts (zs_gV zq_827 zq_828 zq_829 zq_8 zq_830) rfl rfl rfl ⟨rfl, by decide, by decide, by decide +kernel⟩ ⟨Nat.le_of_ble_eq_true rfl, Nat.le_of_ble_eq_true rfl⟩) (zs_preV zs_nwk hK hP zl_635.1 zl_635.2 rfl) rfl rfl hl.1 rfl (lv_room (Nat.le_of_ble_eq_true rfl)) dLAW_856 ⟨by show _ ≤ 601024; omega, by show _ ≤ 7293034; omega⟩) hS (fun r20005 u20004 H locs h hP hS => ?_)
  refine lv_iload hx hb dLAW_859 (lv_at hl 6 rfl) ?_
  refine lv_icmp_eq (tgt := 866) hx hb dLAW_861 rfl (fun hc => ?_) (fun hc => ?_)
  · have h := h.1 hc
    clear hc
    refine lv_iload hx hb dLAW_866 (lv_at hl 6 rfl) ?_
    refine lv_if_ne (tgt := 883) hx hb dLAW_868 rfl (fun hc => ?_) (fun hc => ?_)
    · have h := h.1 hc
      clear hc
      exact zw_LAW_883 hM hl0 hZ hN hX hbl hbA hend hcb hsb hB23 l4 u20004 h ls H locs (lv_sub hl [1, 2, 3, 4, 5] rfl) hP hS
    · have h := h.2 hc
      clear hc
      refine lv_aload_n hx hb dLAW_871 rfl (lv_at hl 4 rfl) ?_
      refine lv_iconst (v := 0) hx hb dLAW_872 (by decide) ?_
      obtain ⟨hi20006, h⟩ := h
      refine zr_lald hx hb hK.1 hP zl_658.1 zl_658.2 hi20006 dLAW_873 ?_
      refine lv_iload hx hb dLAW_874 (lv_at hl 0 rfl) ?_
      refine lv_i2l hx hb dLAW_876 rfl ?_
      refine W.lcmp hx hb dLAW_877 ?_
      refine lv_if_eq (tgt := 883) hx hb dLAW_878 rfl (fun hc => ?_) (fun hc => ?_)
      · have h := h.1 hc
        clear hc
        exact zw_LAW_883 hM hl0 hZ hN hX hbl hbA hend hcb hsb hB23 l4 u20004 h ls H locs (lv_sub hl [1, 2, 3, 4, 5] rfl) hP hS
      · have h := h.2 hc
        clear hc
        refine lv_iconst (v := 0) hx hb dLAW_881 (by decide) ?_
        exact h.elim
  · have h := h.2 hc
    clear hc
    refine lv_iconst (v := 0) hx hb dLAW_864 (by decide) ?_
    exact h.elim
set_option maxHeartbeats 8000000 in
set_option maxRecDepth 100000 in
theorem zw_LAW_817 (hM : zs_M p c code 7 s m meth #[Value.ref b] "ThriftyStoresLaw" ret g) (hl0 : l.stackTraces = false) (hZ : zx_K A s) (hN : zl_N s) {L : Nat} {xs : Nat → Int32} (hX : va_X b L xs s s.heap) (hbl : b < s.heap.size) (hbA : ¬ A b) (hend : zs_End p l e s m b below meth c A) {cb sb : Nat} (hcb : cb + 1 ≤ 601024) (hsb : sb + 6 ≤ 7293034) {B23 : Int32 → zs_T → Prop} (hB23 : ∀ (l4 : Int32) (st : zs_T), B23 l4 st → zs_GoL p l e s m b below meth c g A 7 23 [(0, .ref b), (1, .ref (g.2.1 0)), (2, .ref (g.2.1 635)), (3, .ref (g.2.1 658)), (4, .int l4)] [] st (cb + 1) (sb + 6)) (l4 : Int32) (s0 : Int32) (st : zs_T) (h : zf_LAW_817 L xs B23 l4 s0 st) : zs_GoL p l e s m b below meth c g A 7 817 [(0, .ref b), (1, .ref (g.2.1 0)), (2, .ref (g.2.1 635)), (3, .ref (g.2.1 658)), (4, .int l4)] [.int s0, .ref (g.2.1 0)] st cb sb := by
  obtain ⟨hx, hb, hml, hr, hlk, hts, hown, hK⟩ := id hM
  intro ls H locs hl hP hS
  unfold zf_LAW_817 at h
  refine lv_aload_n hx hb dLAW_817 rfl (lv_at hl 0 rfl) ?_
  refine lv_iload hx hb dLAW_818 (lv_at hl 4 rfl) ?_
  refine lv_iconst (v := 2) hx hb dLAW_820 (by decide) ?_
  refine lv_iadd hx hb dLAW_821 ?_
  obtain ⟨hi16001, h⟩ := h
  refine va_sld hx hb hX hbl hbA hS hi16001 dLAW_822 ?_
  refine lv_aload_n hx hb dLAW_823 rfl (lv_at hl 3 rfl) ?_
  refine zl_calls (n := 4) (As := [.ref (g.2.1 0), .int s0, .int (xs (l4 + 2).toNatClampNeg), .ref (g.2.1 658)]) (rest := []) ⟨hx, hb, hml, hown, hts⟩ (zc_LA_run l hl0 g A h) rfl rfl ⟨Nat.le_of_ble_eq_true rfl, Nat.le_of_ble_eq_true rfl⟩ zq_640 zq_0 zq_638 zq_639 ⟨by decide, by decide, by decide +kernel⟩ rfl hK hZ hN hP hS hl.1 rfl (Nat.le_of_ble_eq_true rfl) dLAW_824 ⟨hcb, hsb⟩ (fun r16002 u16003 H locs h hP hS => ?_)
  refine lv_istore hx hb dLAW_827 hl (by decide) rfl (fun ls hl => ?_)
  have hl : lv_has ls 7 [(5, .int r16002), (0, .ref b), (1, .ref (g.2.1 0)), (2, .ref (g.2.1 635)), (3, .ref (g.2.1 658)), (4, .int l4)] := hl
  refine lv_aload_n hx hb dLAW_829 rfl (lv_at hl 3 rfl) ?_
  refine lv_aload_n hx hb dLAW_830 rfl (lv_at hl 1 rfl) ?_
  refine lv_iload hx hb dLAW_831 (lv_at hl 5 rfl) ?_
  refine lv_iconst (v := 1) hx hb dLAW_833 (by decide) ?_
  refine lv_iadd hx hb dLAW_834 ?_
  obtain ⟨hi16004, h⟩ := h
  refine va_sld hx hb hX hbl hbA hS hi16004 dLAW_835 ?_
  refine lv_if_eq (tgt := 843) hx hb dLAW_836 rfl (fun hc => ?_) (fun hc => ?_)
  · have h := h.1 hc
    clear hc
    refine lv_iconst (v := 0) hx hb dLAW_843 (by decide) ?_
    exact zw_LAW_844 hM hl0 hZ hN hX hbl hbA hend hcb hsb hB23 l4 r16002 0 u16003 h ls H locs (lv_sub hl [1, 2, 3, 4, 5, 0] rfl) hP hS
  · have h := h.2 hc
    clear hc
    refine lv_iconst (v := 1) hx hb dLAW_839 (by decide) ?_
    refine lv_goto (tgt := 844) hx hb dLAW_840 rfl ?_
    exact zw_LAW_844 hM hl0 hZ hN hX hbl hbA hend hcb hsb hB23 l4 r16002 1 u16003 h ls H locs (lv_sub hl [1, 2, 3, 4, 5, 0] rfl) hP hS
set_option maxHeartbeats 8000000 in
set_option maxRecDepth 100000 in
theorem zw_LAW_965 (hM : zs_M p c code 7 s m meth #[Value.ref b] "ThriftyStoresLaw" ret g) (hl0 : l.stackTraces = false) (hZ : zx_K A s) (hN : zl_N s) {L : Nat} {xs : Nat → Int32} (hX : va_X b L xs s s.heap) (hbl : b < s.heap.size) (hbA : ¬ A b) (hend : zs_End p l e s m b below meth c A) {cb sb : Nat} (hcb : cb + 1 ≤ 601024) (hsb : sb + 6 ≤ 7293034) {B23 : Int32 → zs_T → Prop} (hB23 : ∀ (l4 : Int32) (st : zs_T), B23 l4 st → zs_GoL p l e s m b below meth c g A 7 23 [(0, .ref b), (1, .ref (g.2.1 0)), (2, .ref (g.2.1 635)), (3, .ref (g.2.1 658)), (4, .int l4)] [] st (cb + 1) (sb + 6)) (l4 : Int32) (st : zs_T) (h : zf_LAW_965 L xs B23 l4 st) : zs_GoL p l e s m b below meth c g A 7 965 [(0, .ref b), (1, .ref (g.2.1 0)), (2, .ref (g.2.1 635)), (3, .ref (g.2.1 658)), (4, .int l4)] [] st (cb + 1) (sb + 6) := by
  obtain ⟨hx, hb, hml, hr, hlk, hts, hown, hK⟩ := id hM
  intro ls H locs hl hP hS
  unfold zf_LAW_965 at h
  refine lv_goto (tgt := 1061) hx hb dLAW_965 rfl ?_
  exact zw_LAW_1061 hM hl0 hZ hN hX hbl hbA hend hcb hsb hB23 l4 st h ls H locs (lv_sub hl [0, 1, 2, 3, 4] rfl) hP hS
set_option maxHeartbeats 8000000 in
set_option maxRecDepth 100000 in
theorem zw_LAW_1058 (hM : zs_M p c code 7 s m meth #[Value.ref b] "ThriftyStoresLaw" ret g) (hl0 : l.stackTraces = false) (hZ : zx_K A s) (hN : zl_N s) {L : Nat} {xs : Nat → Int32} (hX : va_X b L xs s s.heap) (hbl : b < s.heap.size) (hbA : ¬ A b) (hend : zs_End p l e s m b below meth c A) {cb sb : Nat} (hcb : cb + 1 ≤ 601024) (hsb : sb + 6 ≤ 7293034) {B23 : Int32 → zs_T → Prop} (hB23 : ∀ (l4 : Int32) (st : zs_T), B23 l4 st → zs_GoL p l e s m b below meth c g A 7 23 [(0, .ref b), (1, .ref (g.2.1 0)), (2, .ref (g.2.1 635)), (3, .ref (g.2.1 658)), (4, .int l4)] [] st (cb + 1) (sb + 6)) (l4 : Int32) (st : zs_T) (h : zf_LAW_1058 L xs B23 l4 st) : zs_GoL p l e s m b below meth c g A 7 1058 [(0, .ref b), (1, .ref (g.2.1 0)), (2, .ref (g.2.1 635)), (3, .ref (g.2.1 658)), (4, .int l4)] [] st (cb + 1) (sb + 6) := by
  obtain ⟨hx, hb, hml, hr, hlk, hts, hown, hK⟩ := id hM
  intro ls H locs hl hP hS
  unfold zf_LAW_1058 at h
  refine lv_goto (tgt := 1061) hx hb dLAW_1058 rfl ?_
  exact zw_LAW_1061 hM hl0 hZ hN hX hbl hbA hend hcb hsb hB23 l4 st h ls H locs (lv_sub hl [0, 1, 2, 3, 4] rfl) hP hS
set_option maxHeartbeats 8000000 in
set_option maxRecDepth 100000 in
theorem zw_LAW_23_s (hM : zs_M p c code 7 s m meth #[Value.ref b] "ThriftyStoresLaw" ret g) (hl0 : l.stackTraces = false) (hZ : zx_K A s) (hN : zl_N s) {L : Nat} {xs : Nat → Int32} (hX : va_X b L xs s s.heap) (hbl : b < s.heap.size) (hbA : ¬ A b) (hend : zs_End p l e s m b below meth c A) {cb sb : Nat} (hcb : cb + 1 ≤ 601024) (hsb : sb + 6 ≤ 7293034) {B23 : Int32 → zs_T → Prop} (hB23 : ∀ (l4 : Int32) (st : zs_T), B23 l4 st → zs_GoL p l e s m b below meth c g A 7 23 [(0, .ref b), (1, .ref (g.2.1 0)), (2, .ref (g.2.1 635)), (3, .ref (g.2.1 658)), (4, .int l4)] [] st (cb + 1) (sb + 6)) (l4 : Int32) (st : zs_T) (h : zf_LAW_23_s L xs B23 l4 st) : zs_GoL p l e s m b below meth c g A 7 23 [(0, .ref b), (1, .ref (g.2.1 0)), (2, .ref (g.2.1 635)), (3, .ref (g.2.1 658)), (4, .int l4)] [] st cb sb := by
  obtain ⟨hx, hb, hml, hr, hlk, hts, hown, hK⟩ := id hM
  intro ls H locs hl hP hS
  unfold zf_LAW_23_s at h
  refine lv_iload hx hb dLAW_23 (lv_at hl 4 rfl) ?_
  refine lv_aload_n hx hb dLAW_25 rfl (lv_at hl 0 rfl) ?_
  refine va_slen hx hb hX hbl hbA hS dLAW_26 ?_
  refine lv_iconst (v := 5) hx hb dLAW_27 (by decide) ?_
  refine lv_isub hx hb dLAW_28 ?_
  refine lv_icmp_gt (tgt := 1067) hx hb dLAW_29 rfl (fun hc => ?_) (fun hc => ?_)
  · have h := h.1 hc
    clear hc
    refine lv_iconst (v := 1) hx hb dLAW_1067 (by decide) ?_
    exact hend ls H locs _ _ (by omega) (by omega) hS dLAW_1068
  · have h := h.2 hc
    clear hc
    refine lv_aload_n hx hb dLAW_32 rfl (lv_at hl 0 rfl) ?_
    refine lv_iload hx hb dLAW_33 (lv_at hl 4 rfl) ?_
    obtain ⟨hi1001, h⟩ := h
    refine va_sld hx hb hX hbl hbA hS hi1001 dLAW_35 ?_
    refine lv_bipush (v := 31) hx hb dLAW_36 (by decide) ?_
    refine lv_iand hx hb dLAW_38 ?_
    by_cases hc : ((xs l4.toNatClampNeg) &&& 31) = 0
    · refine lv_tableIn (tgt := 120) (off := 81) hx hb dLAW_39 (by rw [hc]; decide) (by rw [hc]; decide) (by rw [hc]; decide) rfl ?_
      have h := h.1 hc
      clear hc
      refine lv_aload_n hx hb dLAW_120 rfl (lv_at hl 1 rfl) ?_
      refine lv_aload_n hx hb dLAW_121 rfl (lv_at hl 0 rfl) ?_
      refine lv_iload hx hb dLAW_122 (lv_at hl 4 rfl) ?_
      refine lv_iconst (v := 1) hx hb dLAW_124 (by decide) ?_
      refine lv_iadd hx hb dLAW_125 ?_
      obtain ⟨hi1002, h⟩ := h
      refine va_sld hx hb hX hbl hbA hS hi1002 dLAW_126 ?_
      refine lv_aload_n hx hb dLAW_127 rfl (lv_at hl 0 rfl) ?_
      refine lv_iload hx hb dLAW_128 (lv_at hl 4 rfl) ?_
      refine lv_iconst (v := 2) hx hb dLAW_130 (by decide) ?_
      refine lv_iadd hx hb dLAW_131 ?_
      obtain ⟨hi1003, h⟩ := h
      refine va_sld hx hb hX hbl hbA hS hi1003 dLAW_132 ?_
      refine lv_aload_n hx hb dLAW_133 rfl (lv_at hl 0 rfl) ?_
      refine lv_iload hx hb dLAW_134 (lv_at hl 4 rfl) ?_
      refine lv_iconst (v := 3) hx hb dLAW_136 (by decide) ?_
      refine lv_iadd hx hb dLAW_137 ?_
      obtain ⟨hi1004, h⟩ := h
      refine va_sld hx hb hX hbl hbA hS hi1004 dLAW_138 ?_
      refine lv_aload_n hx hb dLAW_139 rfl (lv_at hl 0 rfl) ?_
      refine lv_iload hx hb dLAW_140 (lv_at hl 4 rfl) ?_
      refine lv_iconst (v := 4) hx hb dLAW_142 (by decide) ?_
      refine lv_iadd hx hb dLAW_143 ?_
      obtain ⟨hi1005, h⟩ := h
      refine va_sld hx hb hX hbl hbA hS hi1005 dLAW_144 ?_
      refine lv_aload_n hx hb dLAW_145 rfl (lv_at hl 3 rfl) ?_
      refine zl_calls (n := 6) (As := [.ref (g.2.1 0), .int (xs (l4 + 1).toNatClampNeg), .int (xs (l4 + 2).toNatClampNeg), .int (xs (l4 + 3).toNatClampNeg), .int (xs (l4 + 4).toNatClampNeg), .ref (g.2.1 658)]) (rest := []) ⟨hx, hb, hml, hown, hts⟩ (zc_LA_add l hl0 g A h) rfl rfl ⟨Nat.le_of_ble_eq_true rfl, Nat.le_of_ble_eq_true rfl⟩ zq_255 zq_0 zq_253 zq_254 ⟨by decide, by decide, by decide +kernel⟩ rfl hK hZ hN hP hS hl.1 rfl (Nat.le_of_ble_eq_true rfl) dLAW_146 ⟨hcb, hsb⟩ (fun r1006 u1007 H locs h hP hS => ?_)
      refine lv_istore hx hb dLAW_149 hl (by decide) rfl (fun ls hl => ?_)
      have hl : lv_has ls 7 [(5, .int r1006), (0, .ref b), (1, .ref (g.2.1 0)), (2, .ref (g.2.1 635)), (3, .ref (g.2.1 658)), (4, .int l4)] := hl
      refine lv_aload_n hx hb dLAW_151 rfl (lv_at hl 3 rfl) ?_
      refine lv_aload_n hx hb dLAW_152 rfl (lv_at hl 1 rfl) ?_
      refine lv_iload hx hb dLAW_153 (lv_at hl 5 rfl) ?_
      refine lv_iconst (v := 1) hx hb dLAW_155 (by decide) ?_
      refine lv_iadd hx hb dLAW_156 ?_
      obtain ⟨hi1008, h⟩ := h
      refine va_sld hx hb hX hbl hbA hS hi1008 dLAW_157 ?_
      refine lv_aload_n hx hb dLAW_158 rfl (lv_at hl 1 rfl) ?_
      refine lv_iload hx hb dLAW_159 (lv_at hl 5 rfl) ?_
      refine lv_iconst (v := 2) hx hb dLAW_161 (by decide) ?_
      refine lv_iadd hx hb dLAW_162 ?_
      obtain ⟨hi1009, h⟩ := h
      refine va_sld hx hb hX hbl hbA hS hi1009 dLAW_163 ?_
      refine lv_aload_n hx hb dLAW_164 rfl (lv_at hl 1 rfl) ?_
      refine lv_iload hx hb dLAW_165 (lv_at hl 5 rfl) ?_
      refine lv_iconst (v := 3) hx hb dLAW_167 (by decide) ?_
      refine lv_iadd hx hb dLAW_168 ?_
      obtain ⟨hi1010, h⟩ := h
      refine va_sld hx hb hX hbl hbA hS hi1010 dLAW_169 ?_
      refine lv_aload_n hx hb dLAW_170 rfl (lv_at hl 1 rfl) ?_
      refine lv_iload hx hb dLAW_171 (lv_at hl 5 rfl) ?_
      refine lv_iconst (v := 4) hx hb dLAW_173 (by decide) ?_
      refine lv_iadd hx hb dLAW_174 ?_
      obtain ⟨hi1011, h⟩ := h
      refine va_sld hx hb hX hbl hbA hS hi1011 dLAW_175 ?_
      refine zr_calli (va_runV (As := [.int (xs (l4 + 1).toNatClampNeg), .int (xs (l4 + 2).toNatClampNeg), .int (xs (l4 + 3).toNatClampNeg), .int (xs (l4 + 4).toNatClampNeg)]) (rest := []) ⟨hx, hb, hml, hown, hts⟩ (zc_MO_add l g A  h) (cwV 4 hts (zs_gV zq_831 zq_832 zq_833 zq_8 zq_834) rfl rfl rfl ⟨rfl, by decide, by decide, by decide +kernel⟩ ⟨Nat.le_of_ble_eq_true rfl, Nat.le_of_ble_eq_true rfl⟩) (zs_preV zs_nwk hK hP zl_635.1 zl_635.2 rfl) rfl rfl hl.1 rfl (lv_room (Nat.le_of_ble_eq_true rfl)) dLAW_176 ⟨by show _ ≤ 601024; omega, by show _ ≤ 7293034; omega⟩) hS (fun r1013 u1012 H locs h hP hS => ?_)
      refine lv_istore hx hb dLAW_179 hl (by decide) rfl (fun ls hl => ?_)
      have hl : lv_has ls 7 [(6, .int r1013), (5, .int r1006), (0, .ref b), (1, .ref (g.2.1 0)), (2, .ref (g.2.1 635)), (3, .ref (g.2.1 658)), (4, .int l4)] := hl
      refine lv_aload_n hx hb dLAW_181 rfl (lv_at hl 4 rfl) ?_
      refine zr_calli (va_runV (As := []) (rest := []) ⟨hx, hb, hml, hown, hts⟩ (zc_MO_thrown l g A  h) (cwV 0 hts (zs_gV zq_827 zq_828 zq_829 zq_8 zq_830) rfl rfl rfl ⟨rfl, by decide, by decide, by decide +kernel⟩ ⟨Nat.le_of_ble_eq_true rfl, Nat.le_of_ble_eq_true rfl⟩) (zs_preV zs_nwk hK hP zl_635.1 zl_635.2 rfl) rfl rfl hl.1 rfl (lv_room (Nat.le_of_ble_eq_true rfl)) dLAW_182 ⟨by show _ ≤ 601024; omega, by show _ ≤ 7293034; omega⟩) hS (fun r1015 u1014 H locs h hP hS => ?_)
      refine lv_iload hx hb dLAW_185 (lv_at hl 1 rfl) ?_
      refine lv_icmp_eq (tgt := 192) hx hb dLAW_187 rfl (fun hc => ?_) (fun hc => ?_)
      · have h := h.1 hc
        clear hc
        refine lv_iload hx hb dLAW_192 (lv_at hl 1 rfl) ?_
        refine lv_if_ne (tgt := 209) hx hb dLAW_194 rfl (fun hc => ?_) (fun hc => ?_)
        · have h := h.1 hc
          clear hc
          exact zw_LAW_209 hM hl0 hZ hN hX hbl hbA hend hcb hsb hB23 l4 u1014 h ls H locs (lv_sub hl [2, 3, 4, 5, 6] rfl) hP hS
        · have h := h.2 hc
          clear hc
          refine lv_aload_n hx hb dLAW_197 rfl (lv_at hl 5 rfl) ?_
          refine lv_iconst (v := 0) hx hb dLAW_198 (by decide) ?_
          obtain ⟨hi1016, h⟩ := h
          refine zr_lald hx hb hK.1 hP zl_658.1 zl_658.2 hi1016 dLAW_199 ?_
          refine lv_iload hx hb dLAW_200 (lv_at hl 0 rfl) ?_
          refine lv_i2l hx hb dLAW_202 rfl ?_
          refine W.lcmp hx hb dLAW_203 ?_
          refine lv_if_eq (tgt := 209) hx hb dLAW_204 rfl (fun hc => ?_) (fun hc => ?_)
          · have h := h.1 hc
            clear hc
            exact zw_LAW_209 hM hl0 hZ hN hX hbl hbA hend hcb hsb hB23 l4 u1014 h ls H locs (lv_sub hl [2, 3, 4, 5, 6] rfl) hP hS
          · have h := h.2 hc
            clear hc
            refine lv_iconst (v := 0) hx hb dLAW_207 (by decide) ?_
            exact h.elim
      · have h := h.2 hc
        clear hc
        refine lv_iconst (v := 0) hx hb dLAW_190 (by decide) ?_
        exact h.elim
    · have h := h.2 hc
      have hn0 := hc
      clear hc
      by_cases hc : ((xs l4.toNatClampNeg) &&& 31) = 1
      · refine lv_tableIn (tgt := 212) (off := 173) hx hb dLAW_39 (by rw [hc]; decide) (by rw [hc]; decide) (by rw [hc]; decide) rfl ?_
        have h := h.1 hc
        clear hc
        refine lv_aload_n hx hb dLAW_212 rfl (lv_at hl 1 rfl) ?_
        refine zr_calli (va_runV (As := []) (rest := []) ⟨hx, hb, hml, hown, hts⟩ (zc_TS_clear l g A  h) (cwV 0 hts (zs_gV zq_229 zq_230 zq_231 zq_1 zq_232) rfl rfl rfl ⟨rfl, by decide, by decide, by decide +kernel⟩ ⟨Nat.le_of_ble_eq_true rfl, Nat.le_of_ble_eq_true rfl⟩) (zs_preV zs_nwk hK hP zl_0.1 zl_0.2 rfl) rfl rfl hl.1 rfl (lv_room (Nat.le_of_ble_eq_true rfl)) dLAW_213 ⟨by show _ ≤ 601024; omega, by show _ ≤ 7293034; omega⟩) hS (fun r1018 u1017 H locs h hP hS => ?_)
        refine lv_aload_n hx hb dLAW_216 rfl (lv_at hl 2 rfl) ?_
        refine zr_calli (va_runV (As := []) (rest := [.int r1018]) ⟨hx, hb, hml, hown, hts⟩ (zc_MO_clear l g A  h) (cwV 0 hts (zs_gV zq_841 zq_842 zq_843 zq_8 zq_844) rfl rfl rfl ⟨rfl, by decide, by decide, by decide +kernel⟩ ⟨Nat.le_of_ble_eq_true rfl, Nat.le_of_ble_eq_true rfl⟩) (zs_preV zs_nwk hK hP zl_635.1 zl_635.2 rfl) rfl rfl hl.1 rfl (lv_room (Nat.le_of_ble_eq_true rfl)) dLAW_217 ⟨by show _ ≤ 601024; omega, by show _ ≤ 7293034; omega⟩) hS (fun r1020 u1019 H locs h hP hS => ?_)
        refine lv_icmp_eq (tgt := 1061) hx hb dLAW_220 rfl (fun hc => ?_) (fun hc => ?_)
        · have h := h.1 hc
          clear hc
          refine W.widen (k := cb + 1) (n := sb + 6) (Nat.le_add_right _ _) (Nat.le_add_right _ _) ?_
          exact zw_LAW_1061 hM hl0 hZ hN hX hbl hbA hend hcb hsb hB23 l4 u1019 h ls H locs (lv_sub hl [0, 1, 2, 3, 4] rfl) hP hS
        · have h := h.2 hc
          clear hc
          refine lv_iconst (v := 0) hx hb dLAW_223 (by decide) ?_
          exact h.elim
      · have h := h.2 hc
        have hn1 := hc
        clear hc
        by_cases hc : ((xs l4.toNatClampNeg) &&& 31) = 2
        · refine lv_tableIn (tgt := 225) (off := 186) hx hb dLAW_39 (by rw [hc]; decide) (by rw [hc]; decide) (by rw [hc]; decide) rfl ?_
          have h := h.1 hc
          clear hc
          refine lv_aload_n hx hb dLAW_225 rfl (lv_at hl 1 rfl) ?_
          refine lv_aload_n hx hb dLAW_226 rfl (lv_at hl 3 rfl) ?_
          refine zl_calls (n := 2) (As := [.ref (g.2.1 0), .ref (g.2.1 658)]) (rest := []) ⟨hx, hb, hml, hown, hts⟩ (zc_LA_thrift l hl0 g A h) rfl rfl ⟨Nat.le_of_ble_eq_true rfl, Nat.le_of_ble_eq_true rfl⟩ zq_361 zq_0 zq_359 zq_360 ⟨by decide, by decide, by decide +kernel⟩ rfl hK hZ hN hP hS hl.1 rfl (Nat.le_of_ble_eq_true rfl) dLAW_227 ⟨hcb, hsb⟩ (fun r1021 u1022 H locs h hP hS => ?_)
          refine lv_istore hx hb dLAW_230 hl (by decide) rfl (fun ls hl => ?_)
          have hl : lv_has ls 7 [(5, .int r1021), (0, .ref b), (1, .ref (g.2.1 0)), (2, .ref (g.2.1 635)), (3, .ref (g.2.1 658)), (4, .int l4)] := hl
          refine lv_aload_n hx hb dLAW_232 rfl (lv_at hl 3 rfl) ?_
          refine zr_calli (va_runV (As := []) (rest := []) ⟨hx, hb, hml, hown, hts⟩ (zc_MO_thrift l g A  h) (cwV 0 hts (zs_gV zq_845 zq_846 zq_847 zq_8 zq_848) rfl rfl rfl ⟨rfl, by decide, by decide, by decide +kernel⟩ ⟨Nat.le_of_ble_eq_true rfl, Nat.le_of_ble_eq_true rfl⟩) (zs_preV zs_nwk hK hP zl_635.1 zl_635.2 rfl) rfl rfl hl.1 rfl (lv_room (Nat.le_of_ble_eq_true rfl)) dLAW_233 ⟨by show _ ≤ 601024; omega, by show _ ≤ 7293034; omega⟩) hS (fun r1024 u1023 H locs h hP hS => ?_)
          refine lv_istore hx hb dLAW_236 hl (by decide) rfl (fun ls hl => ?_)
          have hl : lv_has ls 7 [(6, .int r1024), (5, .int r1021), (0, .ref b), (1, .ref (g.2.1 0)), (2, .ref (g.2.1 635)), (3, .ref (g.2.1 658)), (4, .int l4)] := hl
          refine lv_aload_n hx hb dLAW_238 rfl (lv_at hl 4 rfl) ?_
          refine zr_calli (va_runV (As := []) (rest := []) ⟨hx, hb, hml, hown, hts⟩ (zc_MO_thrown l g A  h) (cwV 0 hts (zs_gV zq_827 zq_828 zq_829 zq_8 zq_830) rfl rfl rfl ⟨rfl, by decide, by decide, by decide +kernel⟩ ⟨Nat.le_of_ble_eq_true rfl, Nat.le_of_ble_eq_true rfl⟩) (zs_preV zs_nwk hK hP zl_635.1 zl_635.2 rfl) rfl rfl hl.1 rfl (lv_room (Nat.le_of_ble_eq_true rfl)) dLAW_239 ⟨by show _ ≤ 601024; omega, by show _ ≤ 7293034; omega⟩) hS (fun r1026 u1025 H locs h hP hS => ?_)
          refine lv_iload hx hb dLAW_242 (lv_at hl 1 rfl) ?_
          refine lv_icmp_eq (tgt := 249) hx hb dLAW_244 rfl (fun hc => ?_) (fun hc => ?_)
          · have h := h.1 hc
            clear hc
            refine lv_iload hx hb dLAW_249 (lv_at hl 1 rfl) ?_
            refine lv_if_ne (tgt := 266) hx hb dLAW_251 rfl (fun hc => ?_) (fun hc => ?_)
            · have h := h.1 hc
              clear hc
              exact zw_LAW_266 hM hl0 hZ hN hX hbl hbA hend hcb hsb hB23 l4 u1025 h ls H locs (lv_sub hl [2, 3, 4, 5, 6] rfl) hP hS
            · have h := h.2 hc
              clear hc
              refine lv_aload_n hx hb dLAW_254 rfl (lv_at hl 5 rfl) ?_
              refine lv_iconst (v := 0) hx hb dLAW_255 (by decide) ?_
              obtain ⟨hi1027, h⟩ := h
              refine zr_lald hx hb hK.1 hP zl_658.1 zl_658.2 hi1027 dLAW_256 ?_
              refine lv_iload hx hb dLAW_257 (lv_at hl 0 rfl) ?_
              refine lv_i2l hx hb dLAW_259 rfl ?_
              refine W.lcmp hx hb dLAW_260 ?_
              refine lv_if_eq (tgt := 266) hx hb dLAW_261 rfl (fun hc => ?_) (fun hc => ?_)
              · have h := h.1 hc
                clear hc
                exact zw_LAW_266 hM hl0 hZ hN hX hbl hbA hend hcb hsb hB23 l4 u1025 h ls H locs (lv_sub hl [2, 3, 4, 5, 6] rfl) hP hS
              · have h := h.2 hc
                clear hc
                refine lv_iconst (v := 0) hx hb dLAW_264 (by decide) ?_
                exact h.elim
          · have h := h.2 hc
            clear hc
            refine lv_iconst (v := 0) hx hb dLAW_247 (by decide) ?_
            exact h.elim
        · have h := h.2 hc
          have hn2 := hc
          clear hc
          by_cases hc : ((xs l4.toNatClampNeg) &&& 31) = 3
          · refine lv_tableIn (tgt := 269) (off := 230) hx hb dLAW_39 (by rw [hc]; decide) (by rw [hc]; decide) (by rw [hc]; decide) rfl ?_
            have h := h.1 hc
            clear hc
            refine lv_aload_n hx hb dLAW_269 rfl (lv_at hl 1 rfl) ?_
            refine zr_calli (va_runV (As := []) (rest := []) ⟨hx, hb, hml, hown, hts⟩ (zc_TS_size l g A  h) (cwV 0 hts (zs_gV zq_233 zq_234 zq_235 zq_1 zq_236) rfl rfl rfl ⟨rfl, by decide, by decide, by decide +kernel⟩ ⟨Nat.le_of_ble_eq_true rfl, Nat.le_of_ble_eq_true rfl⟩) (zs_preV zs_nwk hK hP zl_0.1 zl_0.2 rfl) rfl rfl hl.1 rfl (lv_room (Nat.le_of_ble_eq_true rfl)) dLAW_270 ⟨by show _ ≤ 601024; omega, by show _ ≤ 7293034; omega⟩) hS (fun r1029 u1028 H locs h hP hS => ?_)
            refine lv_aload_n hx hb dLAW_273 rfl (lv_at hl 2 rfl) ?_
            refine zr_calli (va_runV (As := []) (rest := [.int r1029]) ⟨hx, hb, hml, hown, hts⟩ (zc_MO_size l g A  h) (cwV 0 hts (zs_gV zq_941 zq_942 zq_943 zq_8 zq_944) rfl rfl rfl ⟨rfl, by decide, by decide, by decide +kernel⟩ ⟨Nat.le_of_ble_eq_true rfl, Nat.le_of_ble_eq_true rfl⟩) (zs_preV zs_nwk hK hP zl_635.1 zl_635.2 rfl) rfl rfl hl.1 rfl (lv_room (Nat.le_of_ble_eq_true rfl)) dLAW_274 ⟨by show _ ≤ 601024; omega, by show _ ≤ 7293034; omega⟩) hS (fun r1031 u1030 H locs h hP hS => ?_)
            refine lv_icmp_eq (tgt := 1061) hx hb dLAW_277 rfl (fun hc => ?_) (fun hc => ?_)
            · have h := h.1 hc
              clear hc
              refine W.widen (k := cb + 1) (n := sb + 6) (Nat.le_add_right _ _) (Nat.le_add_right _ _) ?_
              exact zw_LAW_1061 hM hl0 hZ hN hX hbl hbA hend hcb hsb hB23 l4 u1030 h ls H locs (lv_sub hl [0, 1, 2, 3, 4] rfl) hP hS
            · have h := h.2 hc
              clear hc
              refine lv_iconst (v := 0) hx hb dLAW_280 (by decide) ?_
              exact h.elim
          · have h := h.2 hc
            have hn3 := hc
            clear hc
            by_cases hc : ((xs l4.toNatClampNeg) &&& 31) = 4
            · refine lv_tableIn (tgt := 282) (off := 243) hx hb dLAW_39 (by rw [hc]; decide) (by rw [hc]; decide) (by rw [hc]; decide) rfl ?_
              have h := h.1 hc
              clear hc
              refine lv_aload_n hx hb dLAW_282 rfl (lv_at hl 1 rfl) ?_
              refine lv_aload_n hx hb dLAW_283 rfl (lv_at hl 0 rfl) ?_
              refine lv_iload hx hb dLAW_284 (lv_at hl 4 rfl) ?_
              refine lv_iconst (v := 1) hx hb dLAW_286 (by decide) ?_
              refine lv_iadd hx hb dLAW_287 ?_
              obtain ⟨hi1032, h⟩ := h
              refine va_sld hx hb hX hbl hbA hS hi1032 dLAW_288 ?_
              refine lv_aload_n hx hb dLAW_289 rfl (lv_at hl 0 rfl) ?_
              refine lv_iload hx hb dLAW_290 (lv_at hl 4 rfl) ?_
              refine lv_iconst (v := 2) hx hb dLAW_292 (by decide) ?_
              refine lv_iadd hx hb dLAW_293 ?_
              obtain ⟨hi1033, h⟩ := h
              refine va_sld hx hb hX hbl hbA hS hi1033 dLAW_294 ?_
              refine lv_aload_n hx hb dLAW_295 rfl (lv_at hl 0 rfl) ?_
              refine lv_iload hx hb dLAW_296 (lv_at hl 4 rfl) ?_
              refine lv_iconst (v := 3) hx hb dLAW_298 (by decide) ?_
              refine lv_iadd hx hb dLAW_299 ?_
              obtain ⟨hi1034, h⟩ := h
              refine va_sld hx hb hX hbl hbA hS hi1034 dLAW_300 ?_
              refine lv_if_eq (tgt := 308) hx hb dLAW_301 rfl (fun hc => ?_) (fun hc => ?_)
              · have h := h.1 hc
                clear hc
                refine lv_iconst (v := 0) hx hb dLAW_308 (by decide) ?_
                exact zw_LAW_309 hM hl0 hZ hN hX hbl hbA hend hcb hsb hB23 l4 0 (xs (l4 + 2).toNatClampNeg) (xs (l4 + 1).toNatClampNeg) st h ls H locs (lv_sub hl [0, 1, 2, 3, 4] rfl) hP hS
              · have h := h.2 hc
                clear hc
                refine lv_iconst (v := 1) hx hb dLAW_304 (by decide) ?_
                refine lv_goto (tgt := 309) hx hb dLAW_305 rfl ?_
                exact zw_LAW_309 hM hl0 hZ hN hX hbl hbA hend hcb hsb hB23 l4 1 (xs (l4 + 2).toNatClampNeg) (xs (l4 + 1).toNatClampNeg) st h ls H locs (lv_sub hl [0, 1, 2, 3, 4] rfl) hP hS
            · have h := h.2 hc
              have hn4 := hc
              clear hc
              by_cases hc : ((xs l4.toNatClampNeg) &&& 31) = 5
              · refine lv_tableIn (tgt := 378) (off := 339) hx hb dLAW_39 (by rw [hc]; decide) (by rw [hc]; decide) (by rw [hc]; decide) rfl ?_
                have h := h.1 hc
                clear hc
                refine lv_aload_n hx hb dLAW_378 rfl (lv_at hl 1 rfl) ?_
                refine lv_aload_n hx hb dLAW_379 rfl (lv_at hl 0 rfl) ?_
                refine lv_iload hx hb dLAW_380 (lv_at hl 4 rfl) ?_
                refine lv_iconst (v := 1) hx hb dLAW_382 (by decide) ?_
                refine lv_iadd hx hb dLAW_383 ?_
                obtain ⟨hi1035, h⟩ := h
                refine va_sld hx hb hX hbl hbA hS hi1035 dLAW_384 ?_
                refine lv_aload_n hx hb dLAW_385 rfl (lv_at hl 3 rfl) ?_
                refine zl_calls (n := 3) (As := [.ref (g.2.1 0), .int (xs (l4 + 1).toNatClampNeg), .ref (g.2.1 658)]) (rest := []) ⟨hx, hb, hml, hown, hts⟩ (zc_LA_fate l hl0 g A h) rfl rfl ⟨Nat.le_of_ble_eq_true rfl, Nat.le_of_ble_eq_true rfl⟩ zq_581 zq_0 zq_579 zq_580 ⟨by decide, by decide, by decide +kernel⟩ rfl hK hZ hN hP hS hl.1 rfl (Nat.le_of_ble_eq_true rfl) dLAW_386 ⟨hcb, hsb⟩ (fun r1036 u1037 H locs h hP hS => ?_)
                refine lv_istore hx hb dLAW_389 hl (by decide) rfl (fun ls hl => ?_)
                have hl : lv_has ls 7 [(5, .int r1036), (0, .ref b), (1, .ref (g.2.1 0)), (2, .ref (g.2.1 635)), (3, .ref (g.2.1 658)), (4, .int l4)] := hl
                refine lv_aload_n hx hb dLAW_391 rfl (lv_at hl 3 rfl) ?_
                refine lv_aload_n hx hb dLAW_392 rfl (lv_at hl 1 rfl) ?_
                refine lv_iload hx hb dLAW_393 (lv_at hl 5 rfl) ?_
                refine lv_iconst (v := 1) hx hb dLAW_395 (by decide) ?_
                refine lv_iadd hx hb dLAW_396 ?_
                obtain ⟨hi1038, h⟩ := h
                refine va_sld hx hb hX hbl hbA hS hi1038 dLAW_397 ?_
                refine zr_calli (va_runV (As := [.int (xs (l4 + 1).toNatClampNeg)]) (rest := []) ⟨hx, hb, hml, hown, hts⟩ (zc_MO_fate l g A  h) (cwV 1 hts (zs_gV zq_953 zq_954 zq_955 zq_8 zq_956) rfl rfl rfl ⟨rfl, by decide, by decide, by decide +kernel⟩ ⟨Nat.le_of_ble_eq_true rfl, Nat.le_of_ble_eq_true rfl⟩) (zs_preV zs_nwk hK hP zl_635.1 zl_635.2 rfl) rfl rfl hl.1 rfl (lv_room (Nat.le_of_ble_eq_true rfl)) dLAW_398 ⟨by show _ ≤ 601024; omega, by show _ ≤ 7293034; omega⟩) hS (fun r1040 u1039 H locs h hP hS => ?_)
                refine lv_istore hx hb dLAW_401 hl (by decide) rfl (fun ls hl => ?_)
                have hl : lv_has ls 7 [(6, .int r1040), (5, .int r1036), (0, .ref b), (1, .ref (g.2.1 0)), (2, .ref (g.2.1 635)), (3, .ref (g.2.1 658)), (4, .int l4)] := hl
                refine lv_aload_n hx hb dLAW_403 rfl (lv_at hl 4 rfl) ?_
                refine zr_calli (va_runV (As := []) (rest := []) ⟨hx, hb, hml, hown, hts⟩ (zc_MO_thrown l g A  h) (cwV 0 hts (zs_gV zq_827 zq_828 zq_829 zq_8 zq_830) rfl rfl rfl ⟨rfl, by decide, by decide, by decide +kernel⟩ ⟨Nat.le_of_ble_eq_true rfl, Nat.le_of_ble_eq_true rfl⟩) (zs_preV zs_nwk hK hP zl_635.1 zl_635.2 rfl) rfl rfl hl.1 rfl (lv_room (Nat.le_of_ble_eq_true rfl)) dLAW_404 ⟨by show _ ≤ 601024; omega, by show _ ≤ 7293034; omega⟩) hS (fun r1042 u1041 H locs h hP hS => ?_)
                refine lv_iload hx hb dLAW_407 (lv_at hl 1 rfl) ?_
                refine lv_icmp_eq (tgt := 414) hx hb dLAW_409 rfl (fun hc => ?_) (fun hc => ?_)
                · have h := h.1 hc
                  clear hc
                  refine lv_iload hx hb dLAW_414 (lv_at hl 1 rfl) ?_
                  refine lv_if_ne (tgt := 431) hx hb dLAW_416 rfl (fun hc => ?_) (fun hc => ?_)
                  · have h := h.1 hc
                    clear hc
                    exact zw_LAW_431 hM hl0 hZ hN hX hbl hbA hend hcb hsb hB23 l4 u1041 h ls H locs (lv_sub hl [2, 3, 4, 5, 6] rfl) hP hS
                  · have h := h.2 hc
                    clear hc
                    refine lv_aload_n hx hb dLAW_419 rfl (lv_at hl 5 rfl) ?_
                    refine lv_iconst (v := 0) hx hb dLAW_420 (by decide) ?_
                    obtain ⟨hi1043, h⟩ := h
                    refine zr_lald hx hb hK.1 hP zl_658.1 zl_658.2 hi1043 dLAW_421 ?_
                    refine lv_iload hx hb dLAW_422 (lv_at hl 0 rfl) ?_
                    refine lv_i2l hx hb dLAW_424 rfl ?_
                    refine W.lcmp hx hb dLAW_425 ?_
                    refine lv_if_eq (tgt := 431) hx hb dLAW_426 rfl (fun hc => ?_) (fun hc => ?_)
                    · have h := h.1 hc
                      clear hc
                      exact zw_LAW_431 hM hl0 hZ hN hX hbl hbA hend hcb hsb hB23 l4 u1041 h ls H locs (lv_sub hl [2, 3, 4, 5, 6] rfl) hP hS
                    · have h := h.2 hc
                      clear hc
                      refine lv_iconst (v := 0) hx hb dLAW_429 (by decide) ?_
                      exact h.elim
                · have h := h.2 hc
                  clear hc
                  refine lv_iconst (v := 0) hx hb dLAW_412 (by decide) ?_
                  exact h.elim
              · have h := h.2 hc
                have hn5 := hc
                clear hc
                by_cases hc : ((xs l4.toNatClampNeg) &&& 31) = 6
                · refine lv_tableIn (tgt := 434) (off := 395) hx hb dLAW_39 (by rw [hc]; decide) (by rw [hc]; decide) (by rw [hc]; decide) rfl ?_
                  have h := h.1 hc
                  clear hc
                  refine lv_aload_n hx hb dLAW_434 rfl (lv_at hl 1 rfl) ?_
                  refine lv_aload_n hx hb dLAW_435 rfl (lv_at hl 3 rfl) ?_
                  refine zl_calls (n := 2) (As := [.ref (g.2.1 0), .ref (g.2.1 658)]) (rest := []) ⟨hx, hb, hml, hown, hts⟩ (zc_LA_rounds l hl0 g A h) rfl rfl ⟨Nat.le_of_ble_eq_true rfl, Nat.le_of_ble_eq_true rfl⟩ zq_588 zq_0 zq_586 zq_587 ⟨by decide, by decide, by decide +kernel⟩ rfl hK hZ hN hP hS hl.1 rfl (Nat.le_of_ble_eq_true rfl) dLAW_436 ⟨hcb, hsb⟩ (fun r1044 u1045 H locs h hP hS => ?_)
                  refine lv_istore hx hb dLAW_439 hl (by decide) rfl (fun ls hl => ?_)
                  have hl : lv_has ls 7 [(5, .int r1044), (0, .ref b), (1, .ref (g.2.1 0)), (2, .ref (g.2.1 635)), (3, .ref (g.2.1 658)), (4, .int l4)] := hl
                  refine lv_aload_n hx hb dLAW_441 rfl (lv_at hl 3 rfl) ?_
                  refine zr_calli (va_runV (As := []) (rest := []) ⟨hx, hb, hml, hown, hts⟩ (zc_MO_rounds l g A  h) (cwV 0 hts (zs_gV zq_957 zq_958 zq_959 zq_8 zq_960) rfl rfl rfl ⟨rfl, by decide, by decide, by decide +kernel⟩ ⟨Nat.le_of_ble_eq_true rfl, Nat.le_of_ble_eq_true rfl⟩) (zs_preV zs_nwk hK hP zl_635.1 zl_635.2 rfl) rfl rfl hl.1 rfl (lv_room (Nat.le_of_ble_eq_true rfl)) dLAW_442 ⟨by show _ ≤ 601024; omega, by show _ ≤ 7293034; omega⟩) hS (fun r1047 u1046 H locs h hP hS => ?_)
                  refine lv_istore hx hb dLAW_445 hl (by decide) rfl (fun ls hl => ?_)
                  have hl : lv_has ls 7 [(6, .int r1047), (5, .int r1044), (0, .ref b), (1, .ref (g.2.1 0)), (2, .ref (g.2.1 635)), (3, .ref (g.2.1 658)), (4, .int l4)] := hl
                  refine lv_aload_n hx hb dLAW_447 rfl (lv_at hl 4 rfl) ?_
                  refine zr_calli (va_runV (As := []) (rest := []) ⟨hx, hb, hml, hown, hts⟩ (zc_MO_thrown l g A  h) (cwV 0 hts (zs_gV zq_827 zq_828 zq_829 zq_8 zq_830) rfl rfl rfl ⟨rfl, by decide, by decide, by decide +kernel⟩ ⟨Nat.le_of_ble_eq_true rfl, Nat.le_of_ble_eq_true rfl⟩) (zs_preV zs_nwk hK hP zl_635.1 zl_635.2 rfl) rfl rfl hl.1 rfl (lv_room (Nat.le_of_ble_eq_true rfl)) dLAW_448 ⟨by show _ ≤ 601024; omega, by show _ ≤ 7293034; omega⟩) hS (fun r1049 u1048 H locs h hP hS => ?_)
                  refine lv_iload hx hb dLAW_451 (lv_at hl 1 rfl) ?_
                  refine lv_icmp_eq (tgt := 458) hx hb dLAW_453 rfl (fun hc => ?_) (fun hc => ?_)
                  · have h := h.1 hc
                    clear hc
                    refine lv_iload hx hb dLAW_458 (lv_at hl 1 rfl) ?_
                    refine lv_if_ne (tgt := 475) hx hb dLAW_460 rfl (fun hc => ?_) (fun hc => ?_)
                    · have h := h.1 hc
                      clear hc
                      exact zw_LAW_475 hM hl0 hZ hN hX hbl hbA hend hcb hsb hB23 l4 u1048 h ls H locs (lv_sub hl [2, 3, 4, 5, 6] rfl) hP hS
                    · have h := h.2 hc
                      clear hc
                      refine lv_aload_n hx hb dLAW_463 rfl (lv_at hl 5 rfl) ?_
                      refine lv_iconst (v := 0) hx hb dLAW_464 (by decide) ?_
                      obtain ⟨hi1050, h⟩ := h
                      refine zr_lald hx hb hK.1 hP zl_658.1 zl_658.2 hi1050 dLAW_465 ?_
                      refine lv_iload hx hb dLAW_466 (lv_at hl 0 rfl) ?_
                      refine lv_i2l hx hb dLAW_468 rfl ?_
                      refine W.lcmp hx hb dLAW_469 ?_
                      refine lv_if_eq (tgt := 475) hx hb dLAW_470 rfl (fun hc => ?_) (fun hc => ?_)
                      · have h := h.1 hc
                        clear hc
                        exact zw_LAW_475 hM hl0 hZ hN hX hbl hbA hend hcb hsb hB23 l4 u1048 h ls H locs (lv_sub hl [2, 3, 4, 5, 6] rfl) hP hS
                      · have h := h.2 hc
                        clear hc
                        refine lv_iconst (v := 0) hx hb dLAW_473 (by decide) ?_
                        exact h.elim
                  · have h := h.2 hc
                    clear hc
                    refine lv_iconst (v := 0) hx hb dLAW_456 (by decide) ?_
                    exact h.elim
                · have h := h.2 hc
                  have hn6 := hc
                  clear hc
                  by_cases hc : ((xs l4.toNatClampNeg) &&& 31) = 7
                  · refine lv_tableIn (tgt := 478) (off := 439) hx hb dLAW_39 (by rw [hc]; decide) (by rw [hc]; decide) (by rw [hc]; decide) rfl ?_
                    have h := h.1 hc
                    clear hc
                    refine lv_aload_n hx hb dLAW_478 rfl (lv_at hl 1 rfl) ?_
                    refine lv_aload_n hx hb dLAW_479 rfl (lv_at hl 0 rfl) ?_
                    refine lv_iload hx hb dLAW_480 (lv_at hl 4 rfl) ?_
                    refine lv_iconst (v := 1) hx hb dLAW_482 (by decide) ?_
                    refine lv_iadd hx hb dLAW_483 ?_
                    obtain ⟨hi1051, h⟩ := h
                    refine va_sld hx hb hX hbl hbA hS hi1051 dLAW_484 ?_
                    refine lv_aload_n hx hb dLAW_485 rfl (lv_at hl 0 rfl) ?_
                    refine lv_iload hx hb dLAW_486 (lv_at hl 4 rfl) ?_
                    refine lv_iconst (v := 2) hx hb dLAW_488 (by decide) ?_
                    refine lv_iadd hx hb dLAW_489 ?_
                    obtain ⟨hi1052, h⟩ := h
                    refine va_sld hx hb hX hbl hbA hS hi1052 dLAW_490 ?_
                    refine lv_aload_n hx hb dLAW_491 rfl (lv_at hl 3 rfl) ?_
                    refine zl_calls (n := 4) (As := [.ref (g.2.1 0), .int (xs (l4 + 1).toNatClampNeg), .int (xs (l4 + 2).toNatClampNeg), .ref (g.2.1 658)]) (rest := []) ⟨hx, hb, hml, hown, hts⟩ (zc_LA_may l hl0 g A h) rfl rfl ⟨Nat.le_of_ble_eq_true rfl, Nat.le_of_ble_eq_true rfl⟩ zq_595 zq_0 zq_593 zq_594 ⟨by decide, by decide, by decide +kernel⟩ rfl hK hZ hN hP hS hl.1 rfl (Nat.le_of_ble_eq_true rfl) dLAW_492 ⟨hcb, hsb⟩ (fun r1053 u1054 H locs h hP hS => ?_)
                    refine lv_istore hx hb dLAW_495 hl (by decide) rfl (fun ls hl => ?_)
                    have hl : lv_has ls 7 [(5, .int r1053), (0, .ref b), (1, .ref (g.2.1 0)), (2, .ref (g.2.1 635)), (3, .ref (g.2.1 658)), (4, .int l4)] := hl
                    refine lv_aload_n hx hb dLAW_497 rfl (lv_at hl 3 rfl) ?_
                    refine lv_aload_n hx hb dLAW_498 rfl (lv_at hl 1 rfl) ?_
                    refine lv_iload hx hb dLAW_499 (lv_at hl 5 rfl) ?_
                    refine lv_iconst (v := 1) hx hb dLAW_501 (by decide) ?_
                    refine lv_iadd hx hb dLAW_502 ?_
                    obtain ⟨hi1055, h⟩ := h
                    refine va_sld hx hb hX hbl hbA hS hi1055 dLAW_503 ?_
                    refine lv_aload_n hx hb dLAW_504 rfl (lv_at hl 1 rfl) ?_
                    refine lv_iload hx hb dLAW_505 (lv_at hl 5 rfl) ?_
                    refine lv_iconst (v := 2) hx hb dLAW_507 (by decide) ?_
                    refine lv_iadd hx hb dLAW_508 ?_
                    obtain ⟨hi1056, h⟩ := h
                    refine va_sld hx hb hX hbl hbA hS hi1056 dLAW_509 ?_
                    refine zr_calli (va_runV (As := [.int (xs (l4 + 1).toNatClampNeg), .int (xs (l4 + 2).toNatClampNeg)]) (rest := []) ⟨hx, hb, hml, hown, hts⟩ (zc_MO_may l g A  h) (cwV 2 hts (zs_gV zq_961 zq_962 zq_963 zq_8 zq_964) rfl rfl rfl ⟨rfl, by decide, by decide, by decide +kernel⟩ ⟨Nat.le_of_ble_eq_true rfl, Nat.le_of_ble_eq_true rfl⟩) (zs_preV zs_nwk hK hP zl_635.1 zl_635.2 rfl) rfl rfl hl.1 rfl (lv_room (Nat.le_of_ble_eq_true rfl)) dLAW_510 ⟨by show _ ≤ 601024; omega, by show _ ≤ 7293034; omega⟩) hS (fun r1058 u1057 H locs h hP hS => ?_)
                    refine lv_istore hx hb dLAW_513 hl (by decide) rfl (fun ls hl => ?_)
                    have hl : lv_has ls 7 [(6, .int r1058), (5, .int r1053), (0, .ref b), (1, .ref (g.2.1 0)), (2, .ref (g.2.1 635)), (3, .ref (g.2.1 658)), (4, .int l4)] := hl
                    refine lv_aload_n hx hb dLAW_515 rfl (lv_at hl 4 rfl) ?_
                    refine zr_calli (va_runV (As := []) (rest := []) ⟨hx, hb, hml, hown, hts⟩ (zc_MO_thrown l g A  h) (cwV 0 hts (zs_gV zq_827 zq_828 zq_829 zq_8 zq_830) rfl rfl rfl ⟨rfl, by decide, by decide, by decide +kernel⟩ ⟨Nat.le_of_ble_eq_true rfl, Nat.le_of_ble_eq_true rfl⟩) (zs_preV zs_nwk hK hP zl_635.1 zl_635.2 rfl) rfl rfl hl.1 rfl (lv_room (Nat.le_of_ble_eq_true rfl)) dLAW_516 ⟨by show _ ≤ 601024; omega, by show _ ≤ 7293034; omega⟩) hS (fun r1060 u1059 H locs h hP hS => ?_)
                    refine lv_iload hx hb dLAW_519 (lv_at hl 1 rfl) ?_
                    refine lv_icmp_eq (tgt := 526) hx hb dLAW_521 rfl (fun hc => ?_) (fun hc => ?_)
                    · have h := h.1 hc
                      clear hc
                      refine lv_iload hx hb dLAW_526 (lv_at hl 1 rfl) ?_
                      refine lv_if_ne (tgt := 550) hx hb dLAW_528 rfl (fun hc => ?_) (fun hc => ?_)
                      · have h := h.1 hc
                        clear hc
                        exact zw_LAW_550 hM hl0 hZ hN hX hbl hbA hend hcb hsb hB23 l4 u1059 h ls H locs (lv_sub hl [2, 3, 4, 5, 6] rfl) hP hS
                      · have h := h.2 hc
                        clear hc
                        refine lv_aload_n hx hb dLAW_531 rfl (lv_at hl 5 rfl) ?_
                        refine lv_iconst (v := 0) hx hb dLAW_532 (by decide) ?_
                        obtain ⟨hi1061, h⟩ := h
                        refine zr_lald hx hb hK.1 hP zl_658.1 zl_658.2 hi1061 dLAW_533 ?_
                        refine lv_iload hx hb dLAW_534 (lv_at hl 0 rfl) ?_
                        refine lv_if_eq (tgt := 543) hx hb dLAW_536 rfl (fun hc => ?_) (fun hc => ?_)
                        · have h := h.1 hc
                          clear hc
                          refine lv_lconst (v := 0) hx hb dLAW_543 (by decide) ?_
                          exact zw_LAW_544 hM hl0 hZ hN hX hbl hbA hend hcb hsb hB23 l4 0 (u1059.2 658 (0 : Int32).toNatClampNeg) u1059 h ls H locs (lv_sub hl [2, 3, 4, 5, 6] rfl) hP hS
                        · have h := h.2 hc
                          clear hc
                          refine lv_lconst (v := 1) hx hb dLAW_539 (by decide) ?_
                          refine lv_goto (tgt := 544) hx hb dLAW_540 rfl ?_
                          exact zw_LAW_544 hM hl0 hZ hN hX hbl hbA hend hcb hsb hB23 l4 1 (u1059.2 658 (0 : Int32).toNatClampNeg) u1059 h ls H locs (lv_sub hl [2, 3, 4, 5, 6] rfl) hP hS
                    · have h := h.2 hc
                      clear hc
                      refine lv_iconst (v := 0) hx hb dLAW_524 (by decide) ?_
                      exact h.elim
                  · have h := h.2 hc
                    have hn7 := hc
                    clear hc
                    by_cases hc : ((xs l4.toNatClampNeg) &&& 31) = 8
                    · refine lv_tableIn (tgt := 553) (off := 514) hx hb dLAW_39 (by rw [hc]; decide) (by rw [hc]; decide) (by rw [hc]; decide) rfl ?_
                      have h := h.1 hc
                      clear hc
                      refine lv_aload_n hx hb dLAW_553 rfl (lv_at hl 1 rfl) ?_
                      refine lv_aload_n hx hb dLAW_554 rfl (lv_at hl 0 rfl) ?_
                      refine lv_iload hx hb dLAW_555 (lv_at hl 4 rfl) ?_
                      refine lv_iconst (v := 1) hx hb dLAW_557 (by decide) ?_
                      refine lv_iadd hx hb dLAW_558 ?_
                      obtain ⟨hi1062, h⟩ := h
                      refine va_sld hx hb hX hbl hbA hS hi1062 dLAW_559 ?_
                      refine lv_aload_n hx hb dLAW_560 rfl (lv_at hl 0 rfl) ?_
                      refine lv_iload hx hb dLAW_561 (lv_at hl 4 rfl) ?_
                      refine lv_iconst (v := 2) hx hb dLAW_563 (by decide) ?_
                      refine lv_iadd hx hb dLAW_564 ?_
                      obtain ⟨hi1063, h⟩ := h
                      refine va_sld hx hb hX hbl hbA hS hi1063 dLAW_565 ?_
                      refine lv_aload_n hx hb dLAW_566 rfl (lv_at hl 3 rfl) ?_
                      refine zl_calls (n := 4) (As := [.ref (g.2.1 0), .int (xs (l4 + 1).toNatClampNeg), .int (xs (l4 + 2).toNatClampNeg), .ref (g.2.1 658)]) (rest := []) ⟨hx, hb, hml, hown, hts⟩ (zc_LA_inside l hl0 g A h) rfl rfl ⟨Nat.le_of_ble_eq_true rfl, Nat.le_of_ble_eq_true rfl⟩ zq_607 zq_0 zq_605 zq_606 ⟨by decide, by decide, by decide +kernel⟩ rfl hK hZ hN hP hS hl.1 rfl (Nat.le_of_ble_eq_true rfl) dLAW_567 ⟨hcb, hsb⟩ (fun r1064 u1065 H locs h hP hS => ?_)
                      refine lv_istore hx hb dLAW_570 hl (by decide) rfl (fun ls hl => ?_)
                      have hl : lv_has ls 7 [(5, .int r1064), (0, .ref b), (1, .ref (g.2.1 0)), (2, .ref (g.2.1 635)), (3, .ref (g.2.1 658)), (4, .int l4)] := hl
                      refine lv_aload_n hx hb dLAW_572 rfl (lv_at hl 3 rfl) ?_
                      refine lv_aload_n hx hb dLAW_573 rfl (lv_at hl 1 rfl) ?_
                      refine lv_iload hx hb dLAW_574 (lv_at hl 5 rfl) ?_
                      refine lv_iconst (v := 1) hx hb dLAW_576 (by decide) ?_
                      refine lv_iadd hx hb dLAW_577 ?_
                      obtain ⟨hi1066, h⟩ := h
                      refine va_sld hx hb hX hbl hbA hS hi1066 dLAW_578 ?_
                      refine lv_aload_n hx hb dLAW_579 rfl (lv_at hl 1 rfl) ?_
                      refine lv_iload hx hb dLAW_580 (lv_at hl 5 rfl) ?_
                      refine lv_iconst (v := 2) hx hb dLAW_582 (by decide) ?_
                      refine lv_iadd hx hb dLAW_583 ?_
                      obtain ⟨hi1067, h⟩ := h
                      refine va_sld hx hb hX hbl hbA hS hi1067 dLAW_584 ?_
                      refine zr_calli (va_runV (As := [.int (xs (l4 + 1).toNatClampNeg), .int (xs (l4 + 2).toNatClampNeg)]) (rest := []) ⟨hx, hb, hml, hown, hts⟩ (zc_MO_inside l g A  h) (cwV 2 hts (zs_gV zq_965 zq_966 zq_967 zq_8 zq_968) rfl rfl rfl ⟨rfl, by decide, by decide, by decide +kernel⟩ ⟨Nat.le_of_ble_eq_true rfl, Nat.le_of_ble_eq_true rfl⟩) (zs_preV zs_nwk hK hP zl_635.1 zl_635.2 rfl) rfl rfl hl.1 rfl (lv_room (Nat.le_of_ble_eq_true rfl)) dLAW_585 ⟨by show _ ≤ 601024; omega, by show _ ≤ 7293034; omega⟩) hS (fun r1069 u1068 H locs h hP hS => ?_)
                      refine lv_istore hx hb dLAW_588 hl (by decide) rfl (fun ls hl => ?_)
                      have hl : lv_has ls 7 [(6, .int r1069), (5, .int r1064), (0, .ref b), (1, .ref (g.2.1 0)), (2, .ref (g.2.1 635)), (3, .ref (g.2.1 658)), (4, .int l4)] := hl
                      refine lv_aload_n hx hb dLAW_590 rfl (lv_at hl 4 rfl) ?_
                      refine zr_calli (va_runV (As := []) (rest := []) ⟨hx, hb, hml, hown, hts⟩ (zc_MO_thrown l g A  h) (cwV 0 hts (zs_gV zq_827 zq_828 zq_829 zq_8 zq_830) rfl rfl rfl ⟨rfl, by decide, by decide, by decide +kernel⟩ ⟨Nat.le_of_ble_eq_true rfl, Nat.le_of_ble_eq_true rfl⟩) (zs_preV zs_nwk hK hP zl_635.1 zl_635.2 rfl) rfl rfl hl.1 rfl (lv_room (Nat.le_of_ble_eq_true rfl)) dLAW_591 ⟨by show _ ≤ 601024; omega, by show _ ≤ 7293034; omega⟩) hS (fun r1071 u1070 H locs h hP hS => ?_)
                      refine lv_iload hx hb dLAW_594 (lv_at hl 1 rfl) ?_
                      refine lv_icmp_eq (tgt := 601) hx hb dLAW_596 rfl (fun hc => ?_) (fun hc => ?_)
                      · have h := h.1 hc
                        clear hc
                        refine lv_iload hx hb dLAW_601 (lv_at hl 1 rfl) ?_
                        refine lv_if_ne (tgt := 625) hx hb dLAW_603 rfl (fun hc => ?_) (fun hc => ?_)
                        · have h := h.1 hc
                          clear hc
                          exact zw_LAW_625 hM hl0 hZ hN hX hbl hbA hend hcb hsb hB23 l4 u1070 h ls H locs (lv_sub hl [2, 3, 4, 5, 6] rfl) hP hS
                        · have h := h.2 hc
                          clear hc
                          refine lv_aload_n hx hb dLAW_606 rfl (lv_at hl 5 rfl) ?_
                          refine lv_iconst (v := 0) hx hb dLAW_607 (by decide) ?_
                          obtain ⟨hi1072, h⟩ := h
                          refine zr_lald hx hb hK.1 hP zl_658.1 zl_658.2 hi1072 dLAW_608 ?_
                          refine lv_iload hx hb dLAW_609 (lv_at hl 0 rfl) ?_
                          refine lv_if_eq (tgt := 618) hx hb dLAW_611 rfl (fun hc => ?_) (fun hc => ?_)
                          · have h := h.1 hc
                            clear hc
                            refine lv_lconst (v := 0) hx hb dLAW_618 (by decide) ?_
                            exact zw_LAW_619 hM hl0 hZ hN hX hbl hbA hend hcb hsb hB23 l4 0 (u1070.2 658 (0 : Int32).toNatClampNeg) u1070 h ls H locs (lv_sub hl [2, 3, 4, 5, 6] rfl) hP hS
                          · have h := h.2 hc
                            clear hc
                            refine lv_lconst (v := 1) hx hb dLAW_614 (by decide) ?_
                            refine lv_goto (tgt := 619) hx hb dLAW_615 rfl ?_
                            exact zw_LAW_619 hM hl0 hZ hN hX hbl hbA hend hcb hsb hB23 l4 1 (u1070.2 658 (0 : Int32).toNatClampNeg) u1070 h ls H locs (lv_sub hl [2, 3, 4, 5, 6] rfl) hP hS
                      · have h := h.2 hc
                        clear hc
                        refine lv_iconst (v := 0) hx hb dLAW_599 (by decide) ?_
                        exact h.elim
                    · have h := h.2 hc
                      have hn8 := hc
                      clear hc
                      by_cases hc : ((xs l4.toNatClampNeg) &&& 31) = 9
                      · refine lv_tableIn (tgt := 628) (off := 589) hx hb dLAW_39 (by rw [hc]; decide) (by rw [hc]; decide) (by rw [hc]; decide) rfl ?_
                        have h := h.1 hc
                        clear hc
                        refine lv_aload_n hx hb dLAW_628 rfl (lv_at hl 1 rfl) ?_
                        refine lv_aload_n hx hb dLAW_629 rfl (lv_at hl 0 rfl) ?_
                        refine lv_iload hx hb dLAW_630 (lv_at hl 4 rfl) ?_
                        refine lv_iconst (v := 1) hx hb dLAW_632 (by decide) ?_
                        refine lv_iadd hx hb dLAW_633 ?_
                        obtain ⟨hi1073, h⟩ := h
                        refine va_sld hx hb hX hbl hbA hS hi1073 dLAW_634 ?_
                        refine lv_aload_n hx hb dLAW_635 rfl (lv_at hl 0 rfl) ?_
                        refine lv_iload hx hb dLAW_636 (lv_at hl 4 rfl) ?_
                        refine lv_iconst (v := 2) hx hb dLAW_638 (by decide) ?_
                        refine lv_iadd hx hb dLAW_639 ?_
                        obtain ⟨hi1074, h⟩ := h
                        refine va_sld hx hb hX hbl hbA hS hi1074 dLAW_640 ?_
                        refine lv_aload_n hx hb dLAW_641 rfl (lv_at hl 0 rfl) ?_
                        refine lv_iload hx hb dLAW_642 (lv_at hl 4 rfl) ?_
                        refine lv_iconst (v := 3) hx hb dLAW_644 (by decide) ?_
                        refine lv_iadd hx hb dLAW_645 ?_
                        obtain ⟨hi1075, h⟩ := h
                        refine va_sld hx hb hX hbl hbA hS hi1075 dLAW_646 ?_
                        refine lv_aload_n hx hb dLAW_647 rfl (lv_at hl 0 rfl) ?_
                        refine lv_iload hx hb dLAW_648 (lv_at hl 4 rfl) ?_
                        refine lv_iconst (v := 4) hx hb dLAW_650 (by decide) ?_
                        refine lv_iadd hx hb dLAW_651 ?_
                        obtain ⟨hi1076, h⟩ := h
                        refine va_sld hx hb hX hbl hbA hS hi1076 dLAW_652 ?_
                        refine lv_aload_n hx hb dLAW_653 rfl (lv_at hl 3 rfl) ?_
                        refine zl_calls (n := 6) (As := [.ref (g.2.1 0), .int (xs (l4 + 1).toNatClampNeg), .int (xs (l4 + 2).toNatClampNeg), .int (xs (l4 + 3).toNatClampNeg), .int (xs (l4 + 4).toNatClampNeg), .ref (g.2.1 658)]) (rest := []) ⟨hx, hb, hml, hown, hts⟩ (zc_LA_fact l hl0 g A h) rfl rfl ⟨Nat.le_of_ble_eq_true rfl, Nat.le_of_ble_eq_true rfl⟩ zq_618 zq_0 zq_616 zq_617 ⟨by decide, by decide, by decide +kernel⟩ rfl hK hZ hN hP hS hl.1 rfl (Nat.le_of_ble_eq_true rfl) dLAW_654 ⟨hcb, hsb⟩ (fun r1077 u1078 H locs h hP hS => ?_)
                        refine lv_istore hx hb dLAW_657 hl (by decide) rfl (fun ls hl => ?_)
                        have hl : lv_has ls 7 [(5, .int r1077), (0, .ref b), (1, .ref (g.2.1 0)), (2, .ref (g.2.1 635)), (3, .ref (g.2.1 658)), (4, .int l4)] := hl
                        refine lv_aload_n hx hb dLAW_659 rfl (lv_at hl 3 rfl) ?_
                        refine lv_aload_n hx hb dLAW_660 rfl (lv_at hl 1 rfl) ?_
                        refine lv_iload hx hb dLAW_661 (lv_at hl 5 rfl) ?_
                        refine lv_iconst (v := 1) hx hb dLAW_663 (by decide) ?_
                        refine lv_iadd hx hb dLAW_664 ?_
                        obtain ⟨hi1079, h⟩ := h
                        refine va_sld hx hb hX hbl hbA hS hi1079 dLAW_665 ?_
                        refine lv_aload_n hx hb dLAW_666 rfl (lv_at hl 1 rfl) ?_
                        refine lv_iload hx hb dLAW_667 (lv_at hl 5 rfl) ?_
                        refine lv_iconst (v := 2) hx hb dLAW_669 (by decide) ?_
                        refine lv_iadd hx hb dLAW_670 ?_
                        obtain ⟨hi1080, h⟩ := h
                        refine va_sld hx hb hX hbl hbA hS hi1080 dLAW_671 ?_
                        refine lv_aload_n hx hb dLAW_672 rfl (lv_at hl 1 rfl) ?_
                        refine lv_iload hx hb dLAW_673 (lv_at hl 5 rfl) ?_
                        refine lv_iconst (v := 3) hx hb dLAW_675 (by decide) ?_
                        refine lv_iadd hx hb dLAW_676 ?_
                        obtain ⟨hi1081, h⟩ := h
                        refine va_sld hx hb hX hbl hbA hS hi1081 dLAW_677 ?_
                        refine lv_aload_n hx hb dLAW_678 rfl (lv_at hl 1 rfl) ?_
                        refine lv_iload hx hb dLAW_679 (lv_at hl 5 rfl) ?_
                        refine lv_iconst (v := 4) hx hb dLAW_681 (by decide) ?_
                        refine lv_iadd hx hb dLAW_682 ?_
                        obtain ⟨hi1082, h⟩ := h
                        refine va_sld hx hb hX hbl hbA hS hi1082 dLAW_683 ?_
                        refine zr_calli (va_runV (As := [.int (xs (l4 + 1).toNatClampNeg), .int (xs (l4 + 2).toNatClampNeg), .int (xs (l4 + 3).toNatClampNeg), .int (xs (l4 + 4).toNatClampNeg)]) (rest := []) ⟨hx, hb, hml, hown, hts⟩ (zc_MO_fact l g A  h) (cwV 4 hts (zs_gV zq_969 zq_970 zq_971 zq_8 zq_972) rfl rfl rfl ⟨rfl, by decide, by decide, by decide +kernel⟩ ⟨Nat.le_of_ble_eq_true rfl, Nat.le_of_ble_eq_true rfl⟩) (zs_preV zs_nwk hK hP zl_635.1 zl_635.2 rfl) rfl rfl hl.1 rfl (lv_room (Nat.le_of_ble_eq_true rfl)) dLAW_684 ⟨by show _ ≤ 601024; omega, by show _ ≤ 7293034; omega⟩) hS (fun r1084 u1083 H locs h hP hS => ?_)
                        refine lv_istore hx hb dLAW_687 hl (by decide) rfl (fun ls hl => ?_)
                        have hl : lv_has ls 7 [(6, .int r1084), (5, .int r1077), (0, .ref b), (1, .ref (g.2.1 0)), (2, .ref (g.2.1 635)), (3, .ref (g.2.1 658)), (4, .int l4)] := hl
                        refine lv_aload_n hx hb dLAW_689 rfl (lv_at hl 4 rfl) ?_
                        refine zr_calli (va_runV (As := []) (rest := []) ⟨hx, hb, hml, hown, hts⟩ (zc_MO_thrown l g A  h) (cwV 0 hts (zs_gV zq_827 zq_828 zq_829 zq_8 zq_830) rfl rfl rfl ⟨rfl, by decide, by decide, by decide +kernel⟩ ⟨Nat.le_of_ble_eq_true rfl, Nat.le_of_ble_eq_true rfl⟩) (zs_preV zs_nwk hK hP zl_635.1 zl_635.2 rfl) rfl rfl hl.1 rfl (lv_room (Nat.le_of_ble_eq_true rfl)) dLAW_690 ⟨by show _ ≤ 601024; omega, by show _ ≤ 7293034; omega⟩) hS (fun r1086 u1085 H locs h hP hS => ?_)
                        refine lv_iload hx hb dLAW_693 (lv_at hl 1 rfl) ?_
                        refine lv_icmp_eq (tgt := 700) hx hb dLAW_695 rfl (fun hc => ?_) (fun hc => ?_)
                        · have h := h.1 hc
                          clear hc
                          refine lv_iload hx hb dLAW_700 (lv_at hl 1 rfl) ?_
                          refine lv_if_ne (tgt := 724) hx hb dLAW_702 rfl (fun hc => ?_) (fun hc => ?_)
                          · have h := h.1 hc
                            clear hc
                            exact zw_LAW_724 hM hl0 hZ hN hX hbl hbA hend hcb hsb hB23 l4 u1085 h ls H locs (lv_sub hl [2, 3, 4, 5, 6] rfl) hP hS
                          · have h := h.2 hc
                            clear hc
                            refine lv_aload_n hx hb dLAW_705 rfl (lv_at hl 5 rfl) ?_
                            refine lv_iconst (v := 0) hx hb dLAW_706 (by decide) ?_
                            obtain ⟨hi1087, h⟩ := h
                            refine zr_lald hx hb hK.1 hP zl_658.1 zl_658.2 hi1087 dLAW_707 ?_
                            refine lv_iload hx hb dLAW_708 (lv_at hl 0 rfl) ?_
                            refine lv_if_eq (tgt := 717) hx hb dLAW_710 rfl (fun hc => ?_) (fun hc => ?_)
                            · have h := h.1 hc
                              clear hc
                              refine lv_lconst (v := 0) hx hb dLAW_717 (by decide) ?_
                              exact zw_LAW_718 hM hl0 hZ hN hX hbl hbA hend hcb hsb hB23 l4 0 (u1085.2 658 (0 : Int32).toNatClampNeg) u1085 h ls H locs (lv_sub hl [2, 3, 4, 5, 6] rfl) hP hS
                            · have h := h.2 hc
                              clear hc
                              refine lv_lconst (v := 1) hx hb dLAW_713 (by decide) ?_
                              refine lv_goto (tgt := 718) hx hb dLAW_714 rfl ?_
                              exact zw_LAW_718 hM hl0 hZ hN hX hbl hbA hend hcb hsb hB23 l4 1 (u1085.2 658 (0 : Int32).toNatClampNeg) u1085 h ls H locs (lv_sub hl [2, 3, 4, 5, 6] rfl) hP hS
                        · have h := h.2 hc
                          clear hc
                          refine lv_iconst (v := 0) hx hb dLAW_698 (by decide) ?_
                          exact h.elim
                      · have h := h.2 hc
                        have hn9 := hc
                        clear hc
                        by_cases hc : ((xs l4.toNatClampNeg) &&& 31) = 10
                        · refine lv_tableIn (tgt := 727) (off := 688) hx hb dLAW_39 (by rw [hc]; decide) (by rw [hc]; decide) (by rw [hc]; decide) rfl ?_
                          have h := h.1 hc
                          clear hc
                          refine lv_aload_n hx hb dLAW_727 rfl (lv_at hl 1 rfl) ?_
                          refine lv_aload_n hx hb dLAW_728 rfl (lv_at hl 0 rfl) ?_
                          refine lv_iload hx hb dLAW_729 (lv_at hl 4 rfl) ?_
                          refine lv_iconst (v := 1) hx hb dLAW_731 (by decide) ?_
                          refine lv_iadd hx hb dLAW_732 ?_
                          obtain ⟨hi1088, h⟩ := h
                          refine va_sld hx hb hX hbl hbA hS hi1088 dLAW_733 ?_
                          refine lv_aload_n hx hb dLAW_734 rfl (lv_at hl 0 rfl) ?_
                          refine lv_iload hx hb dLAW_735 (lv_at hl 4 rfl) ?_
                          refine lv_iconst (v := 2) hx hb dLAW_737 (by decide) ?_
                          refine lv_iadd hx hb dLAW_738 ?_
                          obtain ⟨hi1089, h⟩ := h
                          refine va_sld hx hb hX hbl hbA hS hi1089 dLAW_739 ?_
                          refine lv_aload_n hx hb dLAW_740 rfl (lv_at hl 3 rfl) ?_
                          refine zl_calls (n := 4) (As := [.ref (g.2.1 0), .int (xs (l4 + 1).toNatClampNeg), .int (xs (l4 + 2).toNatClampNeg), .ref (g.2.1 658)]) (rest := []) ⟨hx, hb, hml, hown, hts⟩ (zc_LA_free l hl0 g A h) rfl rfl ⟨Nat.le_of_ble_eq_true rfl, Nat.le_of_ble_eq_true rfl⟩ zq_633 zq_0 zq_631 zq_632 ⟨by decide, by decide, by decide +kernel⟩ rfl hK hZ hN hP hS hl.1 rfl (Nat.le_of_ble_eq_true rfl) dLAW_741 ⟨hcb, hsb⟩ (fun r1090 u1091 H locs h hP hS => ?_)
                          refine lv_istore hx hb dLAW_744 hl (by decide) rfl (fun ls hl => ?_)
                          have hl : lv_has ls 7 [(5, .int r1090), (0, .ref b), (1, .ref (g.2.1 0)), (2, .ref (g.2.1 635)), (3, .ref (g.2.1 658)), (4, .int l4)] := hl
                          refine lv_aload_n hx hb dLAW_746 rfl (lv_at hl 3 rfl) ?_
                          refine lv_aload_n hx hb dLAW_747 rfl (lv_at hl 1 rfl) ?_
                          refine lv_iload hx hb dLAW_748 (lv_at hl 5 rfl) ?_
                          refine lv_iconst (v := 1) hx hb dLAW_750 (by decide) ?_
                          refine lv_iadd hx hb dLAW_751 ?_
                          obtain ⟨hi1092, h⟩ := h
                          refine va_sld hx hb hX hbl hbA hS hi1092 dLAW_752 ?_
                          refine lv_aload_n hx hb dLAW_753 rfl (lv_at hl 1 rfl) ?_
                          refine lv_iload hx hb dLAW_754 (lv_at hl 5 rfl) ?_
                          refine lv_iconst (v := 2) hx hb dLAW_756 (by decide) ?_
                          refine lv_iadd hx hb dLAW_757 ?_
                          obtain ⟨hi1093, h⟩ := h
                          refine va_sld hx hb hX hbl hbA hS hi1093 dLAW_758 ?_
                          refine zr_calli (va_runV (As := [.int (xs (l4 + 1).toNatClampNeg), .int (xs (l4 + 2).toNatClampNeg)]) (rest := []) ⟨hx, hb, hml, hown, hts⟩ (zc_MO_free l g A  h) (cwV 2 hts (zs_gV zq_973 zq_974 zq_975 zq_8 zq_976) rfl rfl rfl ⟨rfl, by decide, by decide, by decide +kernel⟩ ⟨Nat.le_of_ble_eq_true rfl, Nat.le_of_ble_eq_true rfl⟩) (zs_preV zs_nwk hK hP zl_635.1 zl_635.2 rfl) rfl rfl hl.1 rfl (lv_room (Nat.le_of_ble_eq_true rfl)) dLAW_759 ⟨by show _ ≤ 601024; omega, by show _ ≤ 7293034; omega⟩) hS (fun r1095 u1094 H locs h hP hS => ?_)
                          refine lv_istore hx hb dLAW_762 hl (by decide) rfl (fun ls hl => ?_)
                          have hl : lv_has ls 7 [(6, .int r1095), (5, .int r1090), (0, .ref b), (1, .ref (g.2.1 0)), (2, .ref (g.2.1 635)), (3, .ref (g.2.1 658)), (4, .int l4)] := hl
                          refine lv_aload_n hx hb dLAW_764 rfl (lv_at hl 4 rfl) ?_
                          refine zr_calli (va_runV (As := []) (rest := []) ⟨hx, hb, hml, hown, hts⟩ (zc_MO_thrown l g A  h) (cwV 0 hts (zs_gV zq_827 zq_828 zq_829 zq_8 zq_830) rfl rfl rfl ⟨rfl, by decide, by decide, by decide +kernel⟩ ⟨Nat.le_of_ble_eq_true rfl, Nat.le_of_ble_eq_true rfl⟩) (zs_preV zs_nwk hK hP zl_635.1 zl_635.2 rfl) rfl rfl hl.1 rfl (lv_room (Nat.le_of_ble_eq_true rfl)) dLAW_765 ⟨by show _ ≤ 601024; omega, by show _ ≤ 7293034; omega⟩) hS (fun r1097 u1096 H locs h hP hS => ?_)
                          refine lv_iload hx hb dLAW_768 (lv_at hl 1 rfl) ?_
                          refine lv_icmp_eq (tgt := 775) hx hb dLAW_770 rfl (fun hc => ?_) (fun hc => ?_)
                          · have h := h.1 hc
                            clear hc
                            refine lv_iload hx hb dLAW_775 (lv_at hl 1 rfl) ?_
                            refine lv_if_ne (tgt := 799) hx hb dLAW_777 rfl (fun hc => ?_) (fun hc => ?_)
                            · have h := h.1 hc
                              clear hc
                              exact zw_LAW_799 hM hl0 hZ hN hX hbl hbA hend hcb hsb hB23 l4 u1096 h ls H locs (lv_sub hl [2, 3, 4, 5, 6] rfl) hP hS
                            · have h := h.2 hc
                              clear hc
                              refine lv_aload_n hx hb dLAW_780 rfl (lv_at hl 5 rfl) ?_
                              refine lv_iconst (v := 0) hx hb dLAW_781 (by decide) ?_
                              obtain ⟨hi1098, h⟩ := h
                              refine zr_lald hx hb hK.1 hP zl_658.1 zl_658.2 hi1098 dLAW_782 ?_
                              refine lv_iload hx hb dLAW_783 (lv_at hl 0 rfl) ?_
                              refine lv_if_eq (tgt := 792) hx hb dLAW_785 rfl (fun hc => ?_) (fun hc => ?_)
                              · have h := h.1 hc
                                clear hc
                                refine lv_lconst (v := 0) hx hb dLAW_792 (by decide) ?_
                                exact zw_LAW_793 hM hl0 hZ hN hX hbl hbA hend hcb hsb hB23 l4 0 (u1096.2 658 (0 : Int32).toNatClampNeg) u1096 h ls H locs (lv_sub hl [2, 3, 4, 5, 6] rfl) hP hS
                              · have h := h.2 hc
                                clear hc
                                refine lv_lconst (v := 1) hx hb dLAW_788 (by decide) ?_
                                refine lv_goto (tgt := 793) hx hb dLAW_789 rfl ?_
                                exact zw_LAW_793 hM hl0 hZ hN hX hbl hbA hend hcb hsb hB23 l4 1 (u1096.2 658 (0 : Int32).toNatClampNeg) u1096 h ls H locs (lv_sub hl [2, 3, 4, 5, 6] rfl) hP hS
                          · have h := h.2 hc
                            clear hc
                            refine lv_iconst (v := 0) hx hb dLAW_773 (by decide) ?_
                            exact h.elim
                        · have h := h.2 hc
                          have hn10 := hc
                          clear hc
                          by_cases hc : ((xs l4.toNatClampNeg) &&& 31) = 11
                          · refine lv_tableIn (tgt := 802) (off := 763) hx hb dLAW_39 (by rw [hc]; decide) (by rw [hc]; decide) (by rw [hc]; decide) rfl ?_
                            have h := h.1 hc
                            clear hc
                            refine lv_aload_n hx hb dLAW_802 rfl (lv_at hl 1 rfl) ?_
                            refine lv_aload_n hx hb dLAW_803 rfl (lv_at hl 0 rfl) ?_
                            refine lv_iload hx hb dLAW_804 (lv_at hl 4 rfl) ?_
                            refine lv_iconst (v := 1) hx hb dLAW_806 (by decide) ?_
                            refine lv_iadd hx hb dLAW_807 ?_
                            obtain ⟨hi1099, h⟩ := h
                            refine va_sld hx hb hX hbl hbA hS hi1099 dLAW_808 ?_
                            refine lv_if_eq (tgt := 816) hx hb dLAW_809 rfl (fun hc => ?_) (fun hc => ?_)
                            · have h := h.1 hc
                              clear hc
                              refine lv_iconst (v := 0) hx hb dLAW_816 (by decide) ?_
                              exact zw_LAW_817 hM hl0 hZ hN hX hbl hbA hend hcb hsb hB23 l4 0 st h ls H locs (lv_sub hl [0, 1, 2, 3, 4] rfl) hP hS
                            · have h := h.2 hc
                              clear hc
                              refine lv_iconst (v := 1) hx hb dLAW_812 (by decide) ?_
                              refine lv_goto (tgt := 817) hx hb dLAW_813 rfl ?_
                              exact zw_LAW_817 hM hl0 hZ hN hX hbl hbA hend hcb hsb hB23 l4 1 st h ls H locs (lv_sub hl [0, 1, 2, 3, 4] rfl) hP hS
                          · have h := h.2 hc
                            have hn11 := hc
                            clear hc
                            by_cases hc : ((xs l4.toNatClampNeg) &&& 31) = 12
                            · refine lv_tableIn (tgt := 886) (off := 847) hx hb dLAW_39 (by rw [hc]; decide) (by rw [hc]; decide) (by rw [hc]; decide) rfl ?_
                              have h := h.1 hc
                              clear hc
                              refine lv_aload_n hx hb dLAW_886 rfl (lv_at hl 1 rfl) ?_
                              refine zr_calli (va_runV (As := []) (rest := []) ⟨hx, hb, hml, hown, hts⟩ (zc_TS_steps l g A  h) (cwV 0 hts (zs_gV zq_237 zq_238 zq_239 zq_1 zq_240) rfl rfl rfl ⟨rfl, by decide, by decide, by decide +kernel⟩ ⟨Nat.le_of_ble_eq_true rfl, Nat.le_of_ble_eq_true rfl⟩) (zs_preV zs_nwk hK hP zl_0.1 zl_0.2 rfl) rfl rfl hl.1 rfl (lv_room (Nat.le_of_ble_eq_true rfl)) dLAW_887 ⟨by show _ ≤ 601024; omega, by show _ ≤ 7293034; omega⟩) hS (fun r1101 u1100 H locs h hP hS => ?_)
                              refine lv_aload_n hx hb dLAW_890 rfl (lv_at hl 2 rfl) ?_
                              refine zr_calli (va_runV (As := []) (rest := [.int r1101]) ⟨hx, hb, hml, hown, hts⟩ (zc_MO_steps l g A  h) (cwV 0 hts (zs_gV zq_997 zq_998 zq_999 zq_8 zq_1000) rfl rfl rfl ⟨rfl, by decide, by decide, by decide +kernel⟩ ⟨Nat.le_of_ble_eq_true rfl, Nat.le_of_ble_eq_true rfl⟩) (zs_preV zs_nwk hK hP zl_635.1 zl_635.2 rfl) rfl rfl hl.1 rfl (lv_room (Nat.le_of_ble_eq_true rfl)) dLAW_891 ⟨by show _ ≤ 601024; omega, by show _ ≤ 7293034; omega⟩) hS (fun r1103 u1102 H locs h hP hS => ?_)
                              refine lv_icmp_eq (tgt := 1061) hx hb dLAW_894 rfl (fun hc => ?_) (fun hc => ?_)
                              · have h := h.1 hc
                                clear hc
                                refine W.widen (k := cb + 1) (n := sb + 6) (Nat.le_add_right _ _) (Nat.le_add_right _ _) ?_
                                exact zw_LAW_1061 hM hl0 hZ hN hX hbl hbA hend hcb hsb hB23 l4 u1102 h ls H locs (lv_sub hl [0, 1, 2, 3, 4] rfl) hP hS
                              · have h := h.2 hc
                                clear hc
                                refine lv_iconst (v := 0) hx hb dLAW_897 (by decide) ?_
                                exact h.elim
                            · have h := h.2 hc
                              have hn12 := hc
                              clear hc
                              by_cases hc : ((xs l4.toNatClampNeg) &&& 31) = 13
                              · refine lv_tableIn (tgt := 899) (off := 860) hx hb dLAW_39 (by rw [hc]; decide) (by rw [hc]; decide) (by rw [hc]; decide) rfl ?_
                                have h := h.1 hc
                                clear hc
                                refine lv_aload_n hx hb dLAW_899 rfl (lv_at hl 1 rfl) ?_
                                refine zr_calli (va_runV (As := []) (rest := []) ⟨hx, hb, hml, hown, hts⟩ (zc_TS_printed l g A  h) (cwV 0 hts (zs_gV zq_241 zq_242 zq_243 zq_1 zq_244) rfl rfl rfl ⟨rfl, by decide, by decide, by decide +kernel⟩ ⟨Nat.le_of_ble_eq_true rfl, Nat.le_of_ble_eq_true rfl⟩) (zs_preV zs_nwk hK hP zl_0.1 zl_0.2 rfl) rfl rfl hl.1 rfl (lv_room (Nat.le_of_ble_eq_true rfl)) dLAW_900 ⟨by show _ ≤ 601024; omega, by show _ ≤ 7293034; omega⟩) hS (fun r1105 u1104 H locs h hP hS => ?_)
                                refine lv_aload_n hx hb dLAW_903 rfl (lv_at hl 2 rfl) ?_
                                refine zr_calli (va_runV (As := []) (rest := [.int r1105]) ⟨hx, hb, hml, hown, hts⟩ (zc_MO_printed l g A  h) (cwV 0 hts (zs_gV zq_1001 zq_1002 zq_1003 zq_8 zq_1004) rfl rfl rfl ⟨rfl, by decide, by decide, by decide +kernel⟩ ⟨Nat.le_of_ble_eq_true rfl, Nat.le_of_ble_eq_true rfl⟩) (zs_preV zs_nwk hK hP zl_635.1 zl_635.2 rfl) rfl rfl hl.1 rfl (lv_room (Nat.le_of_ble_eq_true rfl)) dLAW_904 ⟨by show _ ≤ 601024; omega, by show _ ≤ 7293034; omega⟩) hS (fun r1107 u1106 H locs h hP hS => ?_)
                                refine lv_icmp_eq (tgt := 1061) hx hb dLAW_907 rfl (fun hc => ?_) (fun hc => ?_)
                                · have h := h.1 hc
                                  clear hc
                                  refine W.widen (k := cb + 1) (n := sb + 6) (Nat.le_add_right _ _) (Nat.le_add_right _ _) ?_
                                  exact zw_LAW_1061 hM hl0 hZ hN hX hbl hbA hend hcb hsb hB23 l4 u1106 h ls H locs (lv_sub hl [0, 1, 2, 3, 4] rfl) hP hS
                                · have h := h.2 hc
                                  clear hc
                                  refine lv_iconst (v := 0) hx hb dLAW_910 (by decide) ?_
                                  exact h.elim
                              · have h := h.2 hc
                                have hn13 := hc
                                clear hc
                                by_cases hc : ((xs l4.toNatClampNeg) &&& 31) = 14
                                · refine lv_tableIn (tgt := 912) (off := 873) hx hb dLAW_39 (by rw [hc]; decide) (by rw [hc]; decide) (by rw [hc]; decide) rfl ?_
                                  have h := h.1 hc
                                  clear hc
                                  refine lv_aload_n hx hb dLAW_912 rfl (lv_at hl 1 rfl) ?_
                                  refine lv_aload_n hx hb dLAW_913 rfl (lv_at hl 0 rfl) ?_
                                  refine lv_iload hx hb dLAW_914 (lv_at hl 4 rfl) ?_
                                  refine lv_iconst (v := 1) hx hb dLAW_916 (by decide) ?_
                                  refine lv_iadd hx hb dLAW_917 ?_
                                  obtain ⟨hi1108, h⟩ := h
                                  refine va_sld hx hb hX hbl hbA hS hi1108 dLAW_918 ?_
                                  refine lv_aload_n hx hb dLAW_919 rfl (lv_at hl 3 rfl) ?_
                                  refine zl_calls (n := 3) (As := [.ref (g.2.1 0), .int (xs (l4 + 1).toNatClampNeg), .ref (g.2.1 658)]) (rest := []) ⟨hx, hb, hml, hown, hts⟩ (zc_LA_print l hl0 g A h) rfl rfl ⟨Nat.le_of_ble_eq_true rfl, Nat.le_of_ble_eq_true rfl⟩ zq_704 zq_0 zq_702 zq_703 ⟨by decide, by decide, by decide +kernel⟩ rfl hK hZ hN hP hS hl.1 rfl (Nat.le_of_ble_eq_true rfl) dLAW_920 ⟨hcb, hsb⟩ (fun r1109 u1110 H locs h hP hS => ?_)
                                  refine lv_istore hx hb dLAW_923 hl (by decide) rfl (fun ls hl => ?_)
                                  have hl : lv_has ls 7 [(5, .int r1109), (0, .ref b), (1, .ref (g.2.1 0)), (2, .ref (g.2.1 635)), (3, .ref (g.2.1 658)), (4, .int l4)] := hl
                                  refine lv_aload_n hx hb dLAW_925 rfl (lv_at hl 3 rfl) ?_
                                  refine lv_aload_n hx hb dLAW_926 rfl (lv_at hl 1 rfl) ?_
                                  refine lv_iload hx hb dLAW_927 (lv_at hl 5 rfl) ?_
                                  refine lv_iconst (v := 1) hx hb dLAW_929 (by decide) ?_
                                  refine lv_iadd hx hb dLAW_930 ?_
                                  obtain ⟨hi1111, h⟩ := h
                                  refine va_sld hx hb hX hbl hbA hS hi1111 dLAW_931 ?_
                                  refine zr_calli (va_runV (As := [.int (xs (l4 + 1).toNatClampNeg)]) (rest := []) ⟨hx, hb, hml, hown, hts⟩ (zc_MO_print l g A  h) (cwV 1 hts (zs_gV zq_1005 zq_1006 zq_1007 zq_8 zq_1008) rfl rfl rfl ⟨rfl, by decide, by decide, by decide +kernel⟩ ⟨Nat.le_of_ble_eq_true rfl, Nat.le_of_ble_eq_true rfl⟩) (zs_preV zs_nwk hK hP zl_635.1 zl_635.2 rfl) rfl rfl hl.1 rfl (lv_room (Nat.le_of_ble_eq_true rfl)) dLAW_932 ⟨by show _ ≤ 601024; omega, by show _ ≤ 7293034; omega⟩) hS (fun r1113 u1112 H locs h hP hS => ?_)
                                  refine lv_istore hx hb dLAW_935 hl (by decide) rfl (fun ls hl => ?_)
                                  have hl : lv_has ls 7 [(6, .int r1113), (5, .int r1109), (0, .ref b), (1, .ref (g.2.1 0)), (2, .ref (g.2.1 635)), (3, .ref (g.2.1 658)), (4, .int l4)] := hl
                                  refine lv_aload_n hx hb dLAW_937 rfl (lv_at hl 4 rfl) ?_
                                  refine zr_calli (va_runV (As := []) (rest := []) ⟨hx, hb, hml, hown, hts⟩ (zc_MO_thrown l g A  h) (cwV 0 hts (zs_gV zq_827 zq_828 zq_829 zq_8 zq_830) rfl rfl rfl ⟨rfl, by decide, by decide, by decide +kernel⟩ ⟨Nat.le_of_ble_eq_true rfl, Nat.le_of_ble_eq_true rfl⟩) (zs_preV zs_nwk hK hP zl_635.1 zl_635.2 rfl) rfl rfl hl.1 rfl (lv_room (Nat.le_of_ble_eq_true rfl)) dLAW_938 ⟨by show _ ≤ 601024; omega, by show _ ≤ 7293034; omega⟩) hS (fun r1115 u1114 H locs h hP hS => ?_)
                                  refine lv_iload hx hb dLAW_941 (lv_at hl 1 rfl) ?_
                                  refine lv_icmp_eq (tgt := 948) hx hb dLAW_943 rfl (fun hc => ?_) (fun hc => ?_)
                                  · have h := h.1 hc
                                    clear hc
                                    refine lv_iload hx hb dLAW_948 (lv_at hl 1 rfl) ?_
                                    refine lv_if_ne (tgt := 965) hx hb dLAW_950 rfl (fun hc => ?_) (fun hc => ?_)
                                    · have h := h.1 hc
                                      clear hc
                                      exact zw_LAW_965 hM hl0 hZ hN hX hbl hbA hend hcb hsb hB23 l4 u1114 h ls H locs (lv_sub hl [2, 3, 4, 5, 6] rfl) hP hS
                                    · have h := h.2 hc
                                      clear hc
                                      refine lv_aload_n hx hb dLAW_953 rfl (lv_at hl 5 rfl) ?_
                                      refine lv_iconst (v := 0) hx hb dLAW_954 (by decide) ?_
                                      obtain ⟨hi1116, h⟩ := h
                                      refine zr_lald hx hb hK.1 hP zl_658.1 zl_658.2 hi1116 dLAW_955 ?_
                                      refine lv_iload hx hb dLAW_956 (lv_at hl 0 rfl) ?_
                                      refine lv_i2l hx hb dLAW_958 rfl ?_
                                      refine W.lcmp hx hb dLAW_959 ?_
                                      refine lv_if_eq (tgt := 965) hx hb dLAW_960 rfl (fun hc => ?_) (fun hc => ?_)
                                      · have h := h.1 hc
                                        clear hc
                                        exact zw_LAW_965 hM hl0 hZ hN hX hbl hbA hend hcb hsb hB23 l4 u1114 h ls H locs (lv_sub hl [2, 3, 4, 5, 6] rfl) hP hS
                                      · have h := h.2 hc
                                        clear hc
                                        refine lv_iconst (v := 0) hx hb dLAW_963 (by decide) ?_
                                        exact h.elim
                                  · have h := h.2 hc
                                    clear hc
                                    refine lv_iconst (v := 0) hx hb dLAW_946 (by decide) ?_
                                    exact h.elim
                                · have h := h.2 hc
                                  have hn14 := hc
                                  clear hc
                                  by_cases hc : ((xs l4.toNatClampNeg) &&& 31) = 15
                                  · refine lv_tableIn (tgt := 968) (off := 929) hx hb dLAW_39 (by rw [hc]; decide) (by rw [hc]; decide) (by rw [hc]; decide) rfl ?_
                                    have h := h.1 hc
                                    clear hc
                                    refine lv_aload_n hx hb dLAW_968 rfl (lv_at hl 1 rfl) ?_
                                    refine zr_calli (va_runV (As := []) (rest := []) ⟨hx, hb, hml, hown, hts⟩ (zc_TS_kept l g A  h) (cwV 0 hts (zs_gV zq_245 zq_246 zq_247 zq_1 zq_248) rfl rfl rfl ⟨rfl, by decide, by decide, by decide +kernel⟩ ⟨Nat.le_of_ble_eq_true rfl, Nat.le_of_ble_eq_true rfl⟩) (zs_preV zs_nwk hK hP zl_0.1 zl_0.2 rfl) rfl rfl hl.1 rfl (lv_room (Nat.le_of_ble_eq_true rfl)) dLAW_969 ⟨by show _ ≤ 601024; omega, by show _ ≤ 7293034; omega⟩) hS (fun r1118 u1117 H locs h hP hS => ?_)
                                    refine lv_aload_n hx hb dLAW_972 rfl (lv_at hl 2 rfl) ?_
                                    refine zr_calli (va_runV (As := []) (rest := [.int r1118]) ⟨hx, hb, hml, hown, hts⟩ (zc_MO_kept l g A  h) (cwV 0 hts (zs_gV zq_1009 zq_1010 zq_1011 zq_8 zq_1012) rfl rfl rfl ⟨rfl, by decide, by decide, by decide +kernel⟩ ⟨Nat.le_of_ble_eq_true rfl, Nat.le_of_ble_eq_true rfl⟩) (zs_preV zs_nwk hK hP zl_635.1 zl_635.2 rfl) rfl rfl hl.1 rfl (lv_room (Nat.le_of_ble_eq_true rfl)) dLAW_973 ⟨by show _ ≤ 601024; omega, by show _ ≤ 7293034; omega⟩) hS (fun r1120 u1119 H locs h hP hS => ?_)
                                    refine lv_icmp_eq (tgt := 1061) hx hb dLAW_976 rfl (fun hc => ?_) (fun hc => ?_)
                                    · have h := h.1 hc
                                      clear hc
                                      refine W.widen (k := cb + 1) (n := sb + 6) (Nat.le_add_right _ _) (Nat.le_add_right _ _) ?_
                                      exact zw_LAW_1061 hM hl0 hZ hN hX hbl hbA hend hcb hsb hB23 l4 u1119 h ls H locs (lv_sub hl [0, 1, 2, 3, 4] rfl) hP hS
                                    · have h := h.2 hc
                                      clear hc
                                      refine lv_iconst (v := 0) hx hb dLAW_979 (by decide) ?_
                                      exact h.elim
                                  · have h := h.2 hc
                                    have hn15 := hc
                                    clear hc
                                    by_cases hc : ((xs l4.toNatClampNeg) &&& 31) = 16
                                    · refine lv_tableIn (tgt := 981) (off := 942) hx hb dLAW_39 (by rw [hc]; decide) (by rw [hc]; decide) (by rw [hc]; decide) rfl ?_
                                      have h := h.1 hc
                                      clear hc
                                      refine lv_aload_n hx hb dLAW_981 rfl (lv_at hl 1 rfl) ?_
                                      refine lv_aload_n hx hb dLAW_982 rfl (lv_at hl 0 rfl) ?_
                                      refine lv_iload hx hb dLAW_983 (lv_at hl 4 rfl) ?_
                                      refine lv_iconst (v := 1) hx hb dLAW_985 (by decide) ?_
                                      refine lv_iadd hx hb dLAW_986 ?_
                                      obtain ⟨hi1121, h⟩ := h
                                      refine va_sld hx hb hX hbl hbA hS hi1121 dLAW_987 ?_
                                      refine lv_aload_n hx hb dLAW_988 rfl (lv_at hl 0 rfl) ?_
                                      refine lv_iload hx hb dLAW_989 (lv_at hl 4 rfl) ?_
                                      refine lv_iconst (v := 2) hx hb dLAW_991 (by decide) ?_
                                      refine lv_iadd hx hb dLAW_992 ?_
                                      obtain ⟨hi1122, h⟩ := h
                                      refine va_sld hx hb hX hbl hbA hS hi1122 dLAW_993 ?_
                                      refine lv_aload_n hx hb dLAW_994 rfl (lv_at hl 0 rfl) ?_
                                      refine lv_iload hx hb dLAW_995 (lv_at hl 4 rfl) ?_
                                      refine lv_iconst (v := 3) hx hb dLAW_997 (by decide) ?_
                                      refine lv_iadd hx hb dLAW_998 ?_
                                      obtain ⟨hi1123, h⟩ := h
                                      refine va_sld hx hb hX hbl hbA hS hi1123 dLAW_999 ?_
                                      refine lv_aload_n hx hb dLAW_1000 rfl (lv_at hl 3 rfl) ?_
                                      refine zl_calls (n := 5) (As := [.ref (g.2.1 0), .int (xs (l4 + 1).toNatClampNeg), .int (xs (l4 + 2).toNatClampNeg), .int (xs (l4 + 3).toNatClampNeg), .ref (g.2.1 658)]) (rest := []) ⟨hx, hb, hml, hown, hts⟩ (zc_LA_cell l hl0 g A h) rfl rfl ⟨Nat.le_of_ble_eq_true rfl, Nat.le_of_ble_eq_true rfl⟩ zq_711 zq_0 zq_709 zq_710 ⟨by decide, by decide, by decide +kernel⟩ rfl hK hZ hN hP hS hl.1 rfl (Nat.le_of_ble_eq_true rfl) dLAW_1001 ⟨hcb, hsb⟩ (fun r1124 u1125 H locs h hP hS => ?_)
                                      refine lv_istore hx hb dLAW_1004 hl (by decide) rfl (fun ls hl => ?_)
                                      have hl : lv_has ls 7 [(5, .int r1124), (0, .ref b), (1, .ref (g.2.1 0)), (2, .ref (g.2.1 635)), (3, .ref (g.2.1 658)), (4, .int l4)] := hl
                                      refine lv_aload_n hx hb dLAW_1006 rfl (lv_at hl 3 rfl) ?_
                                      refine lv_aload_n hx hb dLAW_1007 rfl (lv_at hl 1 rfl) ?_
                                      refine lv_iload hx hb dLAW_1008 (lv_at hl 5 rfl) ?_
                                      refine lv_iconst (v := 1) hx hb dLAW_1010 (by decide) ?_
                                      refine lv_iadd hx hb dLAW_1011 ?_
                                      obtain ⟨hi1126, h⟩ := h
                                      refine va_sld hx hb hX hbl hbA hS hi1126 dLAW_1012 ?_
                                      refine lv_aload_n hx hb dLAW_1013 rfl (lv_at hl 1 rfl) ?_
                                      refine lv_iload hx hb dLAW_1014 (lv_at hl 5 rfl) ?_
                                      refine lv_iconst (v := 2) hx hb dLAW_1016 (by decide) ?_
                                      refine lv_iadd hx hb dLAW_1017 ?_
                                      obtain ⟨hi1127, h⟩ := h
                                      refine va_sld hx hb hX hbl hbA hS hi1127 dLAW_1018 ?_
                                      refine lv_aload_n hx hb dLAW_1019 rfl (lv_at hl 1 rfl) ?_
                                      refine lv_iload hx hb dLAW_1020 (lv_at hl 5 rfl) ?_
                                      refine lv_iconst (v := 3) hx hb dLAW_1022 (by decide) ?_
                                      refine lv_iadd hx hb dLAW_1023 ?_
                                      obtain ⟨hi1128, h⟩ := h
                                      refine va_sld hx hb hX hbl hbA hS hi1128 dLAW_1024 ?_
                                      refine zr_calli (va_runV (As := [.int (xs (l4 + 1).toNatClampNeg), .int (xs (l4 + 2).toNatClampNeg), .int (xs (l4 + 3).toNatClampNeg)]) (rest := []) ⟨hx, hb, hml, hown, hts⟩ (zc_MO_cell l g A  h) (cwV 3 hts (zs_gV zq_1013 zq_1014 zq_1015 zq_8 zq_1016) rfl rfl rfl ⟨rfl, by decide, by decide, by decide +kernel⟩ ⟨Nat.le_of_ble_eq_true rfl, Nat.le_of_ble_eq_true rfl⟩) (zs_preV zs_nwk hK hP zl_635.1 zl_635.2 rfl) rfl rfl hl.1 rfl (lv_room (Nat.le_of_ble_eq_true rfl)) dLAW_1025 ⟨by show _ ≤ 601024; omega, by show _ ≤ 7293034; omega⟩) hS (fun r1130 u1129 H locs h hP hS => ?_)
                                      refine lv_istore hx hb dLAW_1028 hl (by decide) rfl (fun ls hl => ?_)
                                      have hl : lv_has ls 7 [(6, .int r1130), (5, .int r1124), (0, .ref b), (1, .ref (g.2.1 0)), (2, .ref (g.2.1 635)), (3, .ref (g.2.1 658)), (4, .int l4)] := hl
                                      refine lv_aload_n hx hb dLAW_1030 rfl (lv_at hl 4 rfl) ?_
                                      refine zr_calli (va_runV (As := []) (rest := []) ⟨hx, hb, hml, hown, hts⟩ (zc_MO_thrown l g A  h) (cwV 0 hts (zs_gV zq_827 zq_828 zq_829 zq_8 zq_830) rfl rfl rfl ⟨rfl, by decide, by decide, by decide +kernel⟩ ⟨Nat.le_of_ble_eq_true rfl, Nat.le_of_ble_eq_true rfl⟩) (zs_preV zs_nwk hK hP zl_635.1 zl_635.2 rfl) rfl rfl hl.1 rfl (lv_room (Nat.le_of_ble_eq_true rfl)) dLAW_1031 ⟨by show _ ≤ 601024; omega, by show _ ≤ 7293034; omega⟩) hS (fun r1132 u1131 H locs h hP hS => ?_)
                                      refine lv_iload hx hb dLAW_1034 (lv_at hl 1 rfl) ?_
                                      refine lv_icmp_eq (tgt := 1041) hx hb dLAW_1036 rfl (fun hc => ?_) (fun hc => ?_)
                                      · have h := h.1 hc
                                        clear hc
                                        refine lv_iload hx hb dLAW_1041 (lv_at hl 1 rfl) ?_
                                        refine lv_if_ne (tgt := 1058) hx hb dLAW_1043 rfl (fun hc => ?_) (fun hc => ?_)
                                        · have h := h.1 hc
                                          clear hc
                                          exact zw_LAW_1058 hM hl0 hZ hN hX hbl hbA hend hcb hsb hB23 l4 u1131 h ls H locs (lv_sub hl [2, 3, 4, 5, 6] rfl) hP hS
                                        · have h := h.2 hc
                                          clear hc
                                          refine lv_aload_n hx hb dLAW_1046 rfl (lv_at hl 5 rfl) ?_
                                          refine lv_iconst (v := 0) hx hb dLAW_1047 (by decide) ?_
                                          obtain ⟨hi1133, h⟩ := h
                                          refine zr_lald hx hb hK.1 hP zl_658.1 zl_658.2 hi1133 dLAW_1048 ?_
                                          refine lv_iload hx hb dLAW_1049 (lv_at hl 0 rfl) ?_
                                          refine lv_i2l hx hb dLAW_1051 rfl ?_
                                          refine W.lcmp hx hb dLAW_1052 ?_
                                          refine lv_if_eq (tgt := 1058) hx hb dLAW_1053 rfl (fun hc => ?_) (fun hc => ?_)
                                          · have h := h.1 hc
                                            clear hc
                                            exact zw_LAW_1058 hM hl0 hZ hN hX hbl hbA hend hcb hsb hB23 l4 u1131 h ls H locs (lv_sub hl [2, 3, 4, 5, 6] rfl) hP hS
                                          · have h := h.2 hc
                                            clear hc
                                            refine lv_iconst (v := 0) hx hb dLAW_1056 (by decide) ?_
                                            exact h.elim
                                      · have h := h.2 hc
                                        clear hc
                                        refine lv_iconst (v := 0) hx hb dLAW_1039 (by decide) ?_
                                        exact h.elim
                                    · have h := h.2 hc
                                      have hn16 := hc
                                      clear hc
                                      refine lv_tableOut (tgt := 1061) hx hb dLAW_39 (by have q0 := lv_neT hn0 (a := 0) (by decide); have q1 := lv_neT hn1 (a := 1) (by decide); have q2 := lv_neT hn2 (a := 2) (by decide); have q3 := lv_neT hn3 (a := 3) (by decide); have q4 := lv_neT hn4 (a := 4) (by decide); have q5 := lv_neT hn5 (a := 5) (by decide); have q6 := lv_neT hn6 (a := 6) (by decide); have q7 := lv_neT hn7 (a := 7) (by decide); have q8 := lv_neT hn8 (a := 8) (by decide); have q9 := lv_neT hn9 (a := 9) (by decide); have q10 := lv_neT hn10 (a := 10) (by decide); have q11 := lv_neT hn11 (a := 11) (by decide); have q12 := lv_neT hn12 (a := 12) (by decide); have q13 := lv_neT hn13 (a := 13) (by decide); have q14 := lv_neT hn14 (a := 14) (by decide); have q15 := lv_neT hn15 (a := 15) (by decide); have q16 := lv_neT hn16 (a := 16) (by decide); omega) rfl ?_
                                      refine W.widen (k := cb + 1) (n := sb + 6) (Nat.le_add_right _ _) (Nat.le_add_right _ _) ?_
                                      exact zw_LAW_1061 hM hl0 hZ hN hX hbl hbA hend hcb hsb hB23 l4 st h ls H locs (lv_sub hl [0, 1, 2, 3, 4] rfl) hP hS
end ZWL
