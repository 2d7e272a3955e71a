/-! the class's machine: one step -/
def ys_kc (kp : Nat → Bool) : Nat → Nat
  | 0 => 0
  | i + 1 => ys_kc kp i + (if kp i = true then 1 else 0)
theorem ys_kc_le (kp : Nat → Bool) (i : Nat) : ys_kc kp i ≤ i := by
  induction i with
  | zero => exact Nat.le_refl 0
  | succ i ih => unfold ys_kc; split <;> omega
theorem ys_kc_mono {kp : Nat → Bool} {i j : Nat} (h : i ≤ j) : ys_kc kp i ≤ ys_kc kp j := by
  induction j with
  | zero => rw [show i = 0 by omega]; exact Nat.le_refl _
  | succ j ih =>
    by_cases c : i = j + 1
    · rw [c]; exact Nat.le_refl _
    · have h1 := ih (by omega)
      show ys_kc kp i ≤ ys_kc kp j + (if kp j = true then 1 else 0)
      omega
theorem ys_kc_lt {kp : Nat → Bool} {i j : Nat} (h : i < j) (hk : kp i = true) : ys_kc kp i < ys_kc kp j := by
  have h1 := ys_kc_mono (kp := kp) (i := i + 1) (j := j) (by omega)
  have h2 : ys_kc kp (i + 1) = ys_kc kp i + (if kp i = true then 1 else 0) := rfl
  rw [if_pos hk] at h2
  omega
theorem ys_kc_u {kp : Nat → Bool} {n i : Nat} {v : Bool} (h : i ≤ n) : ys_kc (ys_u kp n v) i = ys_kc kp i := by
  induction i with
  | zero => rfl
  | succ i ih =>
    show ys_kc (ys_u kp n v) i + (if ys_u kp n v i = true then 1 else 0) = ys_kc kp i + (if kp i = true then 1 else 0)
    rw [ih (by omega), ys_u_n _ _ (by omega)]
/-- what stays of a run, in the class -/
def ys_Q (m : ys_M) (t : zs_T) : Prop := (∀ o k, o < ysn m → k < ysz m o → yv (t.2 631 (16 * o + k)) (ysc m (16 * o + k))) ∧ (∀ o, o < ysn m → t.1 632 o = nI (ysz m o)) ∧ (∀ o, o < ysn m → ysk m o = true → t.1 633 (ys_kc (ysk m) o) = nI o) ∧ t.1 629 4 = nI (ysn m) ∧ t.1 629 5 = nI (ys_kc (ysk m) (ysn m)) ∧ (∀ i, i < ysq m → t.1 634 i = ysp m i) ∧ t.1 629 9 = nI (ysq m)
def ys_C (m : ys_M) (t : zs_T) : Prop := (∀ r, r < 16 → yv (t.2 630 r) (ysr m r)) ∧ t.1 629 7 = nI (ysa m) ∧ ys_Q m t
def ys_fr (a t : zs_T) : Prop := zs_ag 629 634 a t ∧ t.1 629 10 = a.1 629 10
section YS
variable {m : ys_M} {st : zs_T}
theorem ys_C.x (h : ys_C m st) (e : Int32) : ys_C (ys_x m e) (zs_i st 629 7 (nI (ysa m + 1))) := by
  obtain ⟨h1, h2, h3, h4, h5, h6, h7, h8, h9⟩ := h
  refine ⟨h1, yi_s _ _ _ _, h3, fun o ho => ?_, fun o ho hk => ?_, ?_, ?_, fun i hi => ?_, ?_⟩
  · rw [yi_r _ _ _ _ (by omega)]; exact h4 o ho
  · rw [yi_r _ _ _ _ (by omega)]; exact h5 o ho hk
  · rw [yi_n _ _ _ (by omega)]; exact h6
  · rw [yi_n _ _ _ (by omega)]; exact h7
  · rw [yi_r _ _ _ _ (by omega)]; exact h8 i hi
  · rw [yi_n _ _ _ (by omega)]; exact h9
theorem ys_C.w {e : Int32} (h : ys_C (ys_x m e) st) {a : Nat} {w : Int64} {v : ys_v} (hv : yv w v) : ys_C (ys_w m a v) (zs_l st 630 a w) := by
  obtain ⟨h1, h2, h3, h4⟩ := h
  refine ⟨fun r hr => ?_, h2, fun o k ho hk => ?_, h4⟩
  · show yv ((zs_l st 630 a w).2 630 r) (ys_u (ysr m) a v r)
    rw [yl_m]
    by_cases c : r = a
    · rw [if_pos ⟨rfl, c⟩, c, ys_u_s]; exact hv
    · rw [if_neg (fun q => c q.2), ys_u_n _ _ c]; exact h1 r hr
  · rw [yl_r _ _ _ _ (by omega)]
    exact h3 o k ho hk
theorem ys_C.j {e : Int32} (h : ys_C (ys_x m e) st) (i : Nat) : ys_C (ys_j m i) (zs_i st 629 7 (nI i)) := by
  obtain ⟨h1, h2, h3, h4, h5, h6, h7, h8, h9⟩ := h
  refine ⟨h1, yi_s _ _ _ _, h3, fun o ho => ?_, fun o ho hk => ?_, ?_, ?_, fun i hi => ?_, ?_⟩
  · rw [yi_r _ _ _ _ (by omega)]; exact h4 o ho
  · rw [yi_r _ _ _ _ (by omega)]; exact h5 o ho hk
  · rw [yi_n _ _ _ (by omega)]; exact h6
  · rw [yi_n _ _ _ (by omega)]; exact h7
  · rw [yi_r _ _ _ _ (by omega)]; exact h8 i hi
  · rw [yi_n _ _ _ (by omega)]; exact h9
theorem ys_C.p {e : Int32} (h : ys_C (ys_x m e) st) (v : Int32) : ys_C (ysr m, ysc m, ysz m, ysk m, ysn m, ys_u (ysp m) (ysq m) v, ysq m + 1, ysa m + 1, yse m) (zs_i (zs_i st 634 (ysq m) v) 629 9 (nI (ysq m + 1))) := by
  obtain ⟨h1, h2, h3, h4, h5, h6, h7, h8, h9⟩ := h
  refine ⟨h1, ?_, h3, fun o ho => ?_, fun o ho hk => ?_, ?_, ?_, fun i hi => ?_, yi_s _ _ _ _⟩
  · rw [yi_n _ _ _ (by omega), yi_r _ _ _ _ (by omega)]; exact h2
  · rw [yi_r _ _ _ _ (by omega), yi_r _ _ _ _ (by omega)]; exact h4 o ho
  · rw [yi_r _ _ _ _ (by omega), yi_r _ _ _ _ (by omega)]; exact h5 o ho hk
  · rw [yi_n _ _ _ (by omega), yi_r _ _ _ _ (by omega)]; exact h6
  · rw [yi_n _ _ _ (by omega), yi_r _ _ _ _ (by omega)]; exact h7
  · have hi' : i < ysq m + 1 := hi
    show (zs_i (zs_i st 634 (ysq m) v) 629 9 (nI (ysq m + 1))).1 634 i = ys_u (ysp m) (ysq m) v i
    rw [yi_r _ _ _ _ (by omega), yi_m]
    by_cases c : i = ysq m
    · rw [if_pos ⟨rfl, c⟩, c, ys_u_s]
    · rw [if_neg (fun q => c q.2), ys_u_n _ _ c]
      exact h8 i (by show i < ysq m; omega)
theorem ys_C.sto {e : Int32} (h : ys_C (ys_x m e) st) {j : Nat} {w : Int64} {v : ys_v} (hv : yv w v) : ys_C (ysr m, ys_u (ysc m) j v, ysz m, ysk m, ysn m, ysp m, ysq m, ysa m + 1, yse m) (zs_l st 631 j w) := by
  obtain ⟨h1, h2, h3, h4⟩ := h
  refine ⟨fun r hr => ?_, h2, fun o k ho hk => ?_, h4⟩
  · rw [yl_r _ _ _ _ (by omega)]
    exact h1 r hr
  · show yv ((zs_l st 631 j w).2 631 (16 * o + k)) (ys_u (ysc m) j v (16 * o + k))
    rw [yl_m]
    by_cases c : 16 * o + k = j
    · rw [if_pos ⟨rfl, c⟩, c, ys_u_s]; exact hv
    · rw [if_neg (fun q => c q.2), ys_u_n _ _ c]; exact h3 o k ho hk
theorem ys_isA {w : Int64} {v : ys_v} {K : Int32 → zs_T → Prop} (h : yv w v) (h1 : ¬ v.1 = 0 → K 1 st) (h0 : v.1 = 0 → K 0 st) : zf_MA_isAddress w st K :=
  ⟨fun c => h0 ((yv_is h).mp c), fun c => h1 (fun q => c ((yv_is h).mpr q))⟩
theorem ys_bec {a : Nat} {w : Int64} {K : Int32 → zs_T → Prop} (ha : a < 16) (hK : K (-1) (zs_l st 630 a w)) : zf_MA_become (nI a) w st K := by
  unfold zf_MA_become
  rw [nI_clamp (n := a) (by omega)]
  exact ⟨vp_in_nI (by omega) (by omega), nm_e hK⟩
theorem ys_objOf {w : Int64} {v : ys_v} {K : Int32 → zs_T → Prop} (h : yv w v) (hK : K (ys_o v.1) st) : zf_MA_objectOf w st K := by
  unfold zf_MA_objectOf
  rw [yv_ob h]
  exact hK
theorem ys_i16 (o p : Nat) : (nI o * 16) + nI p = nI (16 * o + p) := by
  rw [show (16 : Int32) = nI 16 from rfl, pk_mul, nI_add, Nat.mul_comm]
theorem ys_cellOf {w : Int64} {o p : Nat} {K : Int32 → zs_T → Prop} (h : yv w (o + 1, nI p)) (hK : K (nI (16 * o + p)) st) : zf_MA_cellOf w st K := by
  unfold zf_MA_cellOf
  refine ys_objOf h ?_
  rw [yv_lo h]
  show K ((ys_o (o + 1) * 16) + nI p) st
  rw [ys_o_s, ys_i16]
  exact hK
theorem ys_reck {k a b c : Nat} {K : Int32 → zs_T → Prop} (hk : 2 ≤ k ∧ k ≤ 5) (ha : a < 16) (hb : b < 16) (hc : c < 16) (hR : ∀ r, r < 16 → yv (st.2 630 r) (ysr m r))
    (hT : ¬ ((ysr m b).1 = 0 ∧ (ysr m c).1 = 0) → K 1 st)
    (hN : ∀ w n, (k = 2 → n = (ysr m b).2 + (ysr m c).2) → (k = 3 → n = (ysr m b).2 - (ysr m c).2) → (k = 4 → n = (ysr m b).2 * (ysr m c).2) → (k = 5 → n = if (ysr m c).2 ≤ (ysr m b).2 then 0 else 1) → (ysr m b).1 = 0 ∧ (ysr m c).1 = 0 → yv w (0, n) → K (-1) (zs_l st 630 a w)) : zf_MA_reckon (nI k) (nI a) (nI b) (nI c) st K := by
  unfold zf_MA_reckon
  rw [nI_clamp (n := b) (by omega)]
  refine ⟨vp_in_nI (by omega) (by omega), ys_isA (hR b hb) (fun q => ⟨fun _ => hT (fun z => q z.1), fun z => absurd z (by decide)⟩) (fun q => ⟨fun z => absurd rfl z, fun _ => ⟨vp_in_nI (by omega) (by omega), ?_⟩⟩)⟩
  rw [nI_clamp (n := c) (by omega)]
  refine ys_isA (hR c hc) (fun q2 => ⟨fun z => absurd z (by decide), fun _ => hT (fun z => q2 z.2)⟩) (fun q2 => ⟨fun _ => ⟨vp_in_nI (by omega) (by omega), vp_in_nI (by omega) (by omega), ?_⟩, fun z => absurd rfl z⟩)
  rw [yv_lo (hR b hb), yv_lo (hR c hc)]
  refine pk_eq k 2 (fun k2 => ys_bec ha (hN _ _ (fun _ => rfl) (fun z => by omega) (fun z => by omega) (fun z => by omega) ⟨q, q2⟩ (yv_nu _))) (fun k2 => ?_)
  refine pk_eq k 3 (fun k3 => ys_bec ha (hN _ _ (fun z => by omega) (fun _ => rfl) (fun z => by omega) (fun z => by omega) ⟨q, q2⟩ (yv_nu _))) (fun k3 => ?_)
  refine pk_eq k 4 (fun k4 => ys_bec ha (hN _ _ (fun z => by omega) (fun z => by omega) (fun _ => rfl) (fun z => by omega) ⟨q, q2⟩ (yv_nu _))) (fun k4 => ?_)
  refine br_c (fun c5 => ys_bec ha (hN 0 0 (fun z => by omega) (fun z => by omega) (fun z => by omega) (fun _ => ?_) ⟨q, q2⟩ yv_00)) (fun c5 => ys_bec ha (hN 1 1 (fun z => by omega) (fun z => by omega) (fun z => by omega) (fun _ => ?_) ⟨q, q2⟩ yv_01))
  · rw [if_pos c5]
  · rw [if_neg c5]
theorem ys_shif {a b c : Nat} {K : Int32 → zs_T → Prop} (hm : ys_ok m) (ha : a < 16) (hb : b < 16) (hc : c < 16) (hR : ∀ r, r < 16 → yv (st.2 630 r) (ysr m r)) (hZ : ∀ o, o < ysn m → st.1 632 o = nI (ysz m o))
    (hT : ¬ ((ysr m b).1 ≠ 0 ∧ (ysr m c).1 = 0 ∧ ¬ lg_cmp (ys_sm m b c) 0 < 0 ∧ lg_cmp (ys_sm m b c) (nI (ysz m ((ysr m b).1 - 1))).toInt64 < 0) → K 1 st)
    (hN : (ysr m b).1 ≠ 0 ∧ (ysr m c).1 = 0 ∧ ¬ lg_cmp (ys_sm m b c) 0 < 0 ∧ lg_cmp (ys_sm m b c) (nI (ysz m ((ysr m b).1 - 1))).toInt64 < 0 → ∀ w, yv w ((ysr m b).1, (ys_sm m b c).toInt32) → K (-1) (zs_l st 630 a w)) : zf_MA_shift (nI a) (nI b) (nI c) st K := by
  unfold zf_MA_shift
  rw [nI_clamp (n := b) (by omega), nI_clamp (n := c) (by omega)]
  refine ⟨vp_in_nI (by omega) (by omega), ys_isA (hR b hb) (fun q => ⟨fun z => absurd z (by decide), fun _ => ⟨vp_in_nI (by omega) (by omega), ?_⟩⟩) (fun q => ⟨fun _ => hT (fun z => z.1 q), fun z => absurd rfl z⟩)⟩
  refine ys_isA (hR c hc) (fun q2 => ⟨fun z => absurd z (by decide), fun _ => hT (fun z => q2 z.2.1)⟩) (fun q2 => ⟨fun _ => ⟨vp_in_nI (by omega) (by omega), ?_⟩, fun z => absurd rfl z⟩)
  rw [yv_lo (hR b hb), yv_lo (hR c hc)]
  refine br_c (fun c3 => hT (fun z => z.2.2.1 c3)) (fun c3 => ys_objOf (hR b hb) ?_)
  obtain ⟨o, p, g1, g2, g3, g4⟩ := hm.at hb q
  have hz := hm.2.2.1 o g1
  have hn := hm.1
  have e1 : (ysr m b).1 = o + 1 := by rw [g3]
  have e2 : (ysr m b).1 - 1 = o := by omega
  rw [e2] at hT hN
  rw [show ys_o (ysr m b).1 = nI o by rw [e1, ys_o_s], nI_clamp (n := o) (by omega), hZ o g1]
  refine ⟨vp_in_nI (by omega) (by omega), br_c (fun c4 => ys_objOf (hR b hb) ?_) (fun c4 => hT (fun z => c4 z.2.2.2))⟩
  obtain ⟨p', hp', e'⟩ := yv_pl (s := ysz m o) hz.2 c3 c4
  have e'' : (ys_sm m b c).toInt32 = nI p' := e'
  have hyv := yv_ad (o := o) (p := p') (by omega) (by omega)
  show zf_MA_become (nI a) ((((ys_o (ysr m b).1 + 1).toInt64) <<< ((32 : Int32).toInt64 &&& 63)) ||| ((ys_sm m b c).toInt32).toInt64) st _
  rw [e'', show ys_o (ysr m b).1 = nI o by rw [e1, ys_o_s]]
  refine ys_bec ha (hN ⟨q, q2, c3, c4⟩ _ ?_)
  rw [e1, e'']
  exact hyv
theorem ys_make {a x c : Nat} {e : Int32} {K : Int32 → zs_T → Prop} (hm : ys_ok m) (ha : a < 16) (hx : x ≤ 16) (h : ys_C (ys_x m e) st) (hT : ysn m = 300 → K 3 st) (hN : ¬ ysn m = 300 → ∀ t, ys_fr st t → ys_C (ys_mk m a x c) t → K (-1) t) (hc : c < 2 ^ 31) : zf_MA_make (nI a) (nI x) (nI c) st K := by
  have hn := hm.1
  obtain ⟨h1, h2, h3, h4, h5, h6, h7, h8, h9⟩ := h
  have h6' : st.1 629 4 = nI (ysn m) := h6
  have h7' : st.1 629 5 = nI (ys_kc (ysk m) (ysn m)) := h7
  have hkc := ys_kc_le (ysk m) (ysn m)
  unfold zf_MA_make
  rw [h6']
  refine yi_ne (ysn m) 300 (fun c3 => nm_e ⟨vp_in_nI (by omega) (by omega), nm_e ?_⟩) (fun c3 => hT c3)
  rw [nI_clamp (n := ysn m) (by omega), nI_1]
  have em : ys_mk m a x c = (ys_u (ysr m) a (ysn m + 1, 0), fun j => if 16 * ysn m ≤ j ∧ j < 16 * ysn m + x then (0, 0) else ysc m j, ys_u (ysz m) (ysn m) x, ys_u (ysk m) (ysn m) (decide (c = 1)), ysn m + 1, ysp m, ysq m, ysa m + 1, yse m) := by
    unfold ys_mk
    rw [if_neg c3]
  refine pk_loop (W := fun n j (t : zs_T) => zf_MA_make_39 K n (nI a) (nI x) (nI c) (nI (ysn m)) (nI j) t) (fun j t => t.1 = (zs_i (zs_i st 629 4 (nI (ysn m + 1))) 632 (ysn m) (nI x)).1 ∧ (∀ d, d ≠ 631 → t.2 d = st.2 d) ∧ (∀ i, t.2 631 i = if 16 * ysn m ≤ i ∧ i < 16 * ysn m + j then 0 else st.2 631 i)) x 0 (zs_i (zs_i st 629 4 (nI (ysn m + 1))) 632 (ysn m) (nI x)) (by omega) ⟨rfl, fun _ _ => rfl, fun i => (if_neg (by omega)).symm⟩ ?_ ?_
  · rintro n t ⟨g1, g2, g3⟩
    refine pk_le x x (fun _ => ?_) (fun h => by omega)
    have r45 : t.1 629 5 = nI (ys_kc (ysk m) (ysn m)) := by
      rw [g1, yi_r _ 632 _ _ (by omega : 629 ≠ 632), yi_n _ _ _ (by omega)]
      exact h7'
    have fin : ∀ t2, t2.2 = t.2 → (∀ d, d ≠ 629 → d ≠ 633 → t2.1 d = t.1 d) → (∀ j, j ≠ 5 → t2.1 629 j = t.1 629 j) → t2.1 629 5 = nI (ys_kc (ys_u (ysk m) (ysn m) (decide (c = 1))) (ysn m + 1)) → (∀ o, o < ysn m + 1 → ys_u (ysk m) (ysn m) (decide (c = 1)) o = true → t2.1 633 (ys_kc (ys_u (ysk m) (ysn m) (decide (c = 1))) o) = nI o) → zf_MA_make_91 K (nI a) (nI (ysn m)) t2 := by
      intro t2 q1 q2 q3 q4 q5
      unfold zf_MA_make_91
      show zf_MA_become (nI a) ((((nI (ysn m) + 1).toInt64) <<< ((32 : Int32).toInt64 &&& 63)) ||| (nI 0).toInt64) t2 _
      have hyv := yv_ad (o := ysn m) (p := 0) (by omega) (by omega)
      refine ys_bec ha (hN c3 _ ⟨fun d hd => ⟨?_, ?_⟩, ?_⟩ ?_)
      · show t2.1 d = st.1 d
        rw [q2 d (by omega) (by omega), g1, yi_r _ _ _ _ (by omega), yi_r _ _ _ _ (by omega)]
      · rw [yl_r _ _ _ _ (by omega), q1, g2 d (by omega)]
      · show t2.1 629 10 = st.1 629 10
        rw [q3 10 (by omega), g1, yi_r _ 632 _ _ (by omega : 629 ≠ 632), yi_n _ _ _ (by omega)]
      · rw [em]
        refine ⟨fun r hr => ?_, ?_, fun o k ho hk => ?_, fun o ho => ?_, fun o ho hk => q5 o ho hk, ?_, q4, fun i hi => ?_, ?_⟩
        · show yv ((zs_l t2 630 a _).2 630 r) (ys_u (ysr m) a (ysn m + 1, 0) r)
          rw [yl_m]
          by_cases cc : r = a
          · rw [if_pos ⟨rfl, cc⟩, cc, ys_u_s]; exact hyv
          · rw [if_neg (fun q => cc q.2), ys_u_n _ _ cc, q1, g2 630 (by omega)]; exact h1 r hr
        · show t2.1 629 7 = nI (ysa m + 1)
          rw [q3 7 (by omega), g1, yi_r _ 632 _ _ (by omega : 629 ≠ 632), yi_n _ _ _ (by omega)]
          exact h2
        · have ho' : o < ysn m + 1 := ho
          have hk' : k < ys_u (ysz m) (ysn m) x o := hk
          show yv ((zs_l t2 630 a _).2 631 (16 * o + k)) (if 16 * ysn m ≤ 16 * o + k ∧ 16 * o + k < 16 * ysn m + x then (0, 0) else ysc m (16 * o + k))
          rw [yl_r _ _ _ _ (by omega), q1, g3]
          by_cases cc : 16 * ysn m ≤ 16 * o + k ∧ 16 * o + k < 16 * ysn m + x
          · rw [if_pos cc, if_pos cc]; exact yv_00
          · rw [if_neg cc, if_neg cc]
            by_cases c2 : o = ysn m
            · rw [c2, ys_u_s] at hk'
              omega
            · rw [ys_u_n _ _ c2] at hk'
              exact h3 o k (by show o < ysn m; omega) hk'
        · have ho' : o < ysn m + 1 := ho
          show t2.1 632 o = nI (ys_u (ysz m) (ysn m) x o)
          rw [q2 632 (by omega) (by omega), g1, yi_m]
          by_cases cc : o = ysn m
          · rw [if_pos ⟨rfl, cc⟩, cc, ys_u_s]
          · rw [if_neg (fun q => cc q.2), ys_u_n _ _ cc, yi_r _ 629 _ _ (by omega : 632 ≠ 629)]
            exact h4 o (by show o < ysn m; omega)
        · show t2.1 629 4 = nI (ysn m + 1)
          rw [q3 4 (by omega), g1, yi_r _ 632 _ _ (by omega : 629 ≠ 632), yi_s]
        · show t2.1 634 i = ysp m i
          rw [q2 634 (by omega) (by omega), g1, yi_r _ 632 _ _ (by omega : 634 ≠ 632), yi_r _ 629 _ _ (by omega : 634 ≠ 629)]
          exact h8 i hi
        · show t2.1 629 9 = nI (ysq m)
          rw [q3 9 (by omega), g1, yi_r _ 632 _ _ (by omega : 629 ≠ 632), yi_n _ _ _ (by omega)]
          exact h9
    have kk : ys_kc (ys_u (ysk m) (ysn m) (decide (c = 1))) (ysn m + 1) = ys_kc (ysk m) (ysn m) + (if c = 1 then 1 else 0) := by
      show ys_kc (ys_u (ysk m) (ysn m) (decide (c = 1))) (ysn m) + (if ys_u (ysk m) (ysn m) (decide (c = 1)) (ysn m) = true then 1 else 0) = _
      rw [ys_kc_u (Nat.le_refl _), ys_u_s]
      by_cases c1 : c = 1
      · rw [if_pos c1, if_pos (decide_eq_true c1)]
      · rw [if_neg c1, if_neg (by rw [decide_eq_false c1]; simp)]
    have t633 : t.1 633 = st.1 633 := by rw [g1, yi_r _ 632 _ _ (by omega : 633 ≠ 632), yi_r _ 629 _ _ (by omega : 633 ≠ 629)]
    refine yi_ne c 1 (fun c1 => ?_) (fun c1 => ?_)
    · refine fin t rfl (fun _ _ _ => rfl) (fun _ _ => rfl) ?_ (fun o ho hk => ?_)
      · rw [kk, if_neg c1, r45]
        rfl
      · by_cases cc : o = ysn m
        · rw [cc, ys_u_s, decide_eq_false c1] at hk
          cases hk
        · rw [ys_u_n _ _ cc] at hk
          rw [ys_kc_u (by omega), t633]
          exact h5 o (by show o < ysn m; omega) hk
    · rw [r45, nI_clamp (n := ys_kc (ysk m) (ysn m)) (by omega)]
      refine ⟨vp_in_nI (by omega) (by omega), nm_e (nm_e ?_)⟩
      rw [yi_r _ 633 _ _ (by omega : 629 ≠ 633), r45, nI_1]
      refine fin _ rfl (fun d z1 z2 => ?_) (fun j hj => ?_) ?_ (fun o ho hk => ?_)
      · rw [yi_r _ _ _ _ z1, yi_r _ _ _ _ z2]
      · rw [yi_n _ _ _ hj, yi_r _ 633 _ _ (by omega : 629 ≠ 633)]
      · rw [yi_s, kk, if_pos c1]
      · rw [yi_r _ 629 _ _ (by omega : 633 ≠ 629), yi_m]
        by_cases cc : o = ysn m
        · rw [cc, ys_kc_u (Nat.le_refl _), if_pos ⟨rfl, rfl⟩]
        · rw [ys_u_n _ _ cc] at hk
          have hlt := ys_kc_lt (kp := ysk m) (i := o) (j := ysn m) (by omega) hk
          rw [ys_kc_u (by omega), if_neg (fun q => by omega), t633]
          exact h5 o (by show o < ysn m; omega) hk
  · rintro n j t hj ⟨g1, g2, g3⟩ ih
    refine pk_le x j (fun h => by omega) (fun _ => ?_)
    rw [ys_i16, nI_clamp (n := 16 * ysn m + j) (by omega), nI_1]
    refine ⟨vp_in_nI (by omega) (by omega), nm_e (ih _ ⟨g1, fun d hd => ?_, fun i => ?_⟩)⟩
    · rw [yl_r _ _ _ _ hd]; exact g2 d hd
    · rw [yl_m]
      by_cases cc : i = 16 * ysn m + j
      · rw [if_pos ⟨rfl, cc⟩, if_pos (by omega)]
      · rw [if_neg (fun q => cc q.2), g3 i]
        by_cases c2 : 16 * ysn m ≤ i ∧ i < 16 * ysn m + j
        · rw [if_pos c2, if_pos (by omega)]
        · rw [if_neg c2, if_neg (by omega)]
end YS
