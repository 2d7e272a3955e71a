/-! the class's machine: every step, the whole run -/
section YS
variable {m : ys_M} {st : zs_T} {H : yp_G} {d : Nat}
theorem ys_cstep {i : Nat} {K : Int32 → zs_T → Prop} (hok : yp_ok H) (hC : yp_C d H st) (hi : i < yn H) (hm : ys_ok m) (hr : ys_C m st) (hat : ysa m = i) (hgo : yse m = -1) (hK : ∀ t, ys_fr st t → ys_C (ys_s (yk H i) (ya H i) (yx H i) (yd H i) m) t → K (yse (ys_s (yk H i) (ya H i) (yx H i) (yd H i) m)) t) : zf_MA_step d (nI i) st K := by
  have hn := hok.n
  have hkk := hok.k hi
  have ha2 := hok.a2 hi
  have hc := hok.d hi
  obtain ⟨c1, c2, c3, c4⟩ := hC.2 i hi
  have iv : vp_in (nI i) 200 := vp_in_nI (by omega) (by omega)
  unfold zf_MA_step
  rw [nI_clamp (n := i) (by omega), c1, c2, c3, c4, nI_1]
  refine ⟨iv, iv, iv, iv, nm_e ?_⟩
  have h5 : ys_C (ys_x m (-1)) (zs_i st 629 7 (nI (i + 1))) := by
    have z := hr.x (-1)
    rw [hat] at z
    exact z
  have f5 : ys_fr st (zs_i st 629 7 (nI (i + 1))) := ⟨zs_ag.refl.i (by omega) (by omega), yi_n _ _ _ (by omega)⟩
  generalize zs_i st 629 7 (nI (i + 1)) = t5 at h5 f5 ⊢
  have hR5 : ∀ r, r < 16 → yv (t5.2 630 r) (ysr m r) := h5.1
  have trap : ∀ e, ys_s (yk H i) (ya H i) (yx H i) (yd H i) m = ys_x m e → K e t5 := by
    intro e hs
    rw [hs] at hK
    exact hK t5 f5 h5
  have bec : ∀ v w, ys_s (yk H i) (ya H i) (yx H i) (yd H i) m = ys_w m (ya H i) v → yv w v → K (-1) (zs_l t5 630 (ya H i) w) := by
    intro v w hs hv
    rw [hs] at hK
    have z := hK _ ⟨f5.1.l (by omega) (by omega), f5.2⟩ (h5.w hv)
    rw [show yse (ys_w m (ya H i) v) = -1 from hgo] at z
    exact z
  have ivc : vp_in (nI (yd H i)) 16 := vp_in_nI (by omega) (by omega)
  have cle : (yx H i).toNatClampNeg = ye H i := rfl
  rw [cle, nI_clamp (n := yd H i) (by omega)]
  refine pk_eq (yk H i) 0 (fun k0 => ?_) (fun k0 => ?_)
  · have ha := hok.a hi (by omega)
    refine ys_bec ha (bec (0, yx H i) _ ?_ (yv_nu _))
    rw [k0]
    rfl
  have hx := hok.x hi k0
  have he2 := hok.e2 hi k0
  refine pk_eq (yk H i) 1 (fun k1 => ?_) (fun k1 => ?_)
  · have ha := hok.a hi (by omega)
    have he := hok.e hi ⟨by omega, by omega, by omega⟩
    refine ⟨by rw [hx]; exact vp_in_nI (by omega) (by omega), ys_bec ha (bec (ysr m (ye H i)) _ ?_ (hR5 _ he))⟩
    rw [k1]
    rfl
  have hreck : 2 ≤ yk H i ∧ yk H i ≤ 5 → zf_MA_step_138 d K (nI (yk H i)) (nI (ya H i)) (yx H i) (nI (yd H i)) t5 := by
    intro hk
    have ha := hok.a hi (by omega)
    have he := hok.e hi ⟨by omega, by omega, by omega⟩
    unfold zf_MA_step_138
    rw [hx]
    have hs : ∀ f, (yk H i = 2 → f = fun x y => x + y) → (yk H i = 3 → f = fun x y => x - y) → (yk H i = 4 → f = fun x y => x * y) → (yk H i = 5 → f = fun x y => if y ≤ x then 0 else 1) → ys_s (yk H i) (ya H i) (yx H i) (yd H i) m = ys_ar m (ya H i) (ye H i) (yd H i) f := by
      intro f f2 f3 f4 f5
      by_cases q2 : yk H i = 2
      · rw [f2 q2, q2]; rfl
      · by_cases q3 : yk H i = 3
        · rw [f3 q3, q3]; rfl
        · by_cases q4 : yk H i = 4
          · rw [f4 q4, q4]; rfl
          · have q5 : yk H i = 5 := by omega
            rw [f5 q5, q5]; rfl
    obtain ⟨f, f2, f3, f4, f5'⟩ : ∃ f : Int32 → Int32 → Int32, (yk H i = 2 → f = fun x y => x + y) ∧ (yk H i = 3 → f = fun x y => x - y) ∧ (yk H i = 4 → f = fun x y => x * y) ∧ (yk H i = 5 → f = fun x y => if y ≤ x then 0 else 1) := by
      by_cases q2 : yk H i = 2
      · exact ⟨_, fun _ => rfl, fun q => by omega, fun q => by omega, fun q => by omega⟩
      · by_cases q3 : yk H i = 3
        · exact ⟨_, fun q => by omega, fun _ => rfl, fun q => by omega, fun q => by omega⟩
        · by_cases q4 : yk H i = 4
          · exact ⟨_, fun q => by omega, fun q => by omega, fun _ => rfl, fun q => by omega⟩
          · exact ⟨_, fun q => by omega, fun q => by omega, fun q => by omega, fun _ => rfl⟩
    refine ys_reck (m := m) hk ha he (by omega) hR5 (fun q => trap 1 ?_) (fun w n e2 e3 e4 e5 q hv => bec (0, n) w ?_ hv)
    · rw [hs f f2 f3 f4 f5']
      unfold ys_ar
      rw [if_neg q]
    · rw [hs f f2 f3 f4 f5']
      unfold ys_ar
      rw [if_pos q]
      have en : n = f (ysr m (ye H i)).2 (ysr m (yd H i)).2 := by
        by_cases q2 : yk H i = 2
        · rw [f2 q2]; exact e2 q2
        · by_cases q3 : yk H i = 3
          · rw [f3 q3]; exact e3 q3
          · by_cases q4 : yk H i = 4
            · rw [f4 q4]; exact e4 q4
            · have q5 : yk H i = 5 := by omega
              rw [f5' q5]; exact e5 q5
      rw [en]
  refine pk_eq (yk H i) 2 (fun k2 => hreck (by omega)) (fun k2 => ?_)
  refine pk_eq (yk H i) 3 (fun k3 => hreck (by omega)) (fun k3 => ?_)
  refine pk_eq (yk H i) 4 (fun k4 => hreck (by omega)) (fun k4 => ?_)
  refine pk_eq (yk H i) 5 (fun k5 => hreck (by omega)) (fun k5 => ?_)
  refine pk_eq (yk H i) 6 (fun k6 => ?_) (fun k6 => ?_)
  · have ha := hok.a hi (by omega)
    have he := hok.e hi ⟨by omega, by omega, by omega⟩
    have hq := yv_eq (hR5 _ he) (hR5 (yd H i) (by omega))
    have hs : ys_s (yk H i) (ya H i) (yx H i) (yd H i) m = ys_w m (ya H i) (0, if ysr m (ye H i) = ysr m (yd H i) then 1 else 0) := by rw [k6]; rfl
    refine ⟨by rw [hx]; exact vp_in_nI (by omega) (by omega), ivc, And.intro (fun q => ys_bec ha (bec (0, 0) _ ?_ yv_00)) (fun q => ys_bec ha (bec (0, 1) _ ?_ yv_01))⟩
    · rw [hs, if_neg (fun z => q (hq.mpr z))]
    · rw [hs, if_pos (hq.mp q)]
  refine pk_eq (yk H i) 7 (fun k7 => ?_) (fun k7 => ?_)
  · have ha := hok.a hi (by omega)
    have he := hok.e hi ⟨by omega, by omega, by omega⟩
    have hs : ys_s (yk H i) (ya H i) (yx H i) (yd H i) m = ys_sh m (ya H i) (ye H i) (yd H i) := by rw [k7]; rfl
    rw [hx]
    refine ys_shif hm ha he (by omega) hR5 h5.2.2.2.1 (fun q => trap 1 ?_) (fun q w hv => bec _ w ?_ hv)
    · rw [hs]
      unfold ys_sh
      rw [if_neg q]
    · rw [hs]
      unfold ys_sh
      rw [if_pos q]
  refine pk_eq (yk H i) 8 (fun k8 => ?_) (fun k8 => ?_)
  · have ha := hok.a hi (by omega)
    have hx16 := hok.m hi k8
    have hs : ys_s (yk H i) (ya H i) (yx H i) (yd H i) m = ys_mk m (ya H i) (ye H i) (yd H i) := by rw [k8]; rfl
    rw [hx]
    refine ys_make hm ha hx16.2.1 h5 (fun q => trap 3 ?_) (fun q t f ht => ?_) (by omega)
    · rw [hs]
      unfold ys_mk
      rw [if_pos q]
    · rw [hs] at hK
      have z := hK t ⟨f5.1.trans f.1, f.2.trans f5.2⟩ ht
      have e : yse (ys_mk m (ya H i) (ye H i) (yd H i)) = -1 := by
        unfold ys_mk
        rw [if_neg q]
        exact hgo
      rw [e] at z
      exact z
  refine pk_eq (yk H i) 9 (fun k9 => ?_) (fun k9 => ?_)
  · have ha := hok.a hi (by omega)
    have he := hok.e hi ⟨by omega, by omega, by omega⟩
    have hs : ys_s (yk H i) (ya H i) (yx H i) (yd H i) m = ys_lo m (ya H i) (ye H i) := by rw [k9]; rfl
    have ive : vp_in (yx H i) 16 := by rw [hx]; exact vp_in_nI (by omega) (by omega)
    refine ⟨ive, ys_isA (hR5 _ he) (fun q => ⟨fun z => absurd z (by decide), fun _ => ⟨ive, ?_⟩⟩) (fun q => ⟨fun _ => trap 1 ?_, fun z => absurd rfl z⟩)⟩
    · obtain ⟨o, p, g1, g2, g3, g4⟩ := hm.at he q
      have hz := hm.2.2.1 o g1
      have hn3 := hm.1
      have hv := hR5 _ he
      rw [g3] at hv
      refine ys_cellOf hv ?_
      rw [nI_clamp (n := 16 * o + p) (by omega)]
      refine ⟨vp_in_nI (by omega) (by omega), ys_bec ha (bec (ysc m (16 * o + p)) _ ?_ (h5.2.2.1 o p g1 g2))⟩
      rw [hs]
      unfold ys_lo
      rw [if_neg q, g4]
    · rw [hs]
      unfold ys_lo
      rw [if_pos q]
  refine pk_eq (yk H i) 10 (fun k10 => ?_) (fun k10 => ?_)
  · have ha := hok.a hi (by omega)
    have he := hok.e hi ⟨by omega, by omega, by omega⟩
    have hs : ys_s (yk H i) (ya H i) (yx H i) (yd H i) m = ys_st m (ya H i) (ye H i) := by rw [k10]; rfl
    have iva : vp_in (nI (ya H i)) 16 := vp_in_nI (by omega) (by omega)
    have ive : vp_in (yx H i) 16 := by rw [hx]; exact vp_in_nI (by omega) (by omega)
    unfold zf_MA_store
    rw [nI_clamp (n := ya H i) (by omega), cle]
    refine ⟨iva, ys_isA (hR5 _ ha) (fun q => ⟨fun _ => ⟨iva, ?_⟩, fun z => absurd z (by decide)⟩) (fun q => ⟨fun z => absurd rfl z, fun _ => trap 1 ?_⟩)⟩
    · obtain ⟨o, p, g1, g2, g3, g4⟩ := hm.at ha q
      have hz := hm.2.2.1 o g1
      have hn3 := hm.1
      have hv := hR5 _ ha
      rw [g3] at hv
      refine ys_cellOf hv ?_
      rw [nI_clamp (n := 16 * o + p) (by omega)]
      refine ⟨ive, vp_in_nI (by omega) (by omega), nm_e ?_⟩
      have e : ys_st m (ya H i) (ye H i) = (ysr m, ys_u (ysc m) (16 * o + p) (ysr m (ye H i)), ysz m, ysk m, ysn m, ysp m, ysq m, ysa m + 1, yse m) := by
        unfold ys_st
        rw [if_neg q, g4]
      rw [hs, e] at hK
      have z := hK _ ⟨f5.1.l (by omega) (by omega), f5.2⟩ (h5.sto (hR5 _ he))
      rw [show yse (ysr m, ys_u (ysc m) (16 * o + p) (ysr m (ye H i)), ysz m, ysk m, ysn m, ysp m, ysq m, ysa m + 1, yse m) = -1 from hgo] at z
      exact z
    · rw [hs]
      unfold ys_st
      rw [if_pos q]
  refine pk_eq (yk H i) 11 (fun k11 => ?_) (fun k11 => ?_)
  · have ha := hok.a hi (by omega)
    have hs : ys_s (yk H i) (ya H i) (yx H i) (yd H i) m = ys_pr m (ya H i) := by rw [k11]; rfl
    have iva : vp_in (nI (ya H i)) 16 := vp_in_nI (by omega) (by omega)
    have hq := hm.2.1
    have h9 : t5.1 629 9 = nI (ysq m) := h5.2.2.2.2.2.2.2.2
    unfold zf_MA_tell
    rw [nI_clamp (n := ya H i) (by omega)]
    refine ⟨iva, ys_isA (hR5 _ ha) (fun q => ⟨fun z => absurd z (by decide), fun _ => trap 1 ?_⟩) (fun q => ⟨fun _ => ?_, fun z => absurd rfl z⟩)⟩
    · rw [hs]
      unfold ys_pr
      rw [if_neg q]
    rw [h9]
    refine yi_ne (ysq m) 200 (fun q2 => ⟨iva, vp_in_nI (by omega) (by omega), nm_e (nm_e ?_)⟩) (fun q2 => trap 3 ?_)
    · rw [yv_lo (hR5 _ ha), nI_clamp (n := ysq m) (by omega), yi_r _ _ _ _ (by omega : 629 ≠ 634), h9, nI_1]
      have e : ys_pr m (ya H i) = (ysr m, ysc m, ysz m, ysk m, ysn m, ys_u (ysp m) (ysq m) (ysr m (ya H i)).2, ysq m + 1, ysa m + 1, yse m) := by
        unfold ys_pr
        rw [if_pos q, if_neg q2]
      rw [hs, e] at hK
      have z := hK _ ⟨(f5.1.i (by omega) (by omega)).i (by omega) (by omega), ?_⟩ (h5.p (ysr m (ya H i)).2)
      · rw [show yse (ysr m, ysc m, ysz m, ysk m, ysn m, ys_u (ysp m) (ysq m) (ysr m (ya H i)).2, ysq m + 1, ysa m + 1, yse m) = -1 from hgo] at z
        exact z
      · rw [yi_n _ _ _ (by omega), yi_r _ _ _ _ (by omega)]
        exact f5.2
    · rw [hs]
      unfold ys_pr
      rw [if_pos q, if_pos q2]
  refine pk_eq (yk H i) 12 (fun k12 => ?_) (fun k12 => ?_)
  · have hs : ys_s (yk H i) (ya H i) (yx H i) (yd H i) m = ys_j m (ya H i) := by rw [k12]; rfl
    unfold zf_MA_goTo
    refine nm_e ?_
    rw [hs] at hK
    have z := hK _ ⟨f5.1.i (by omega) (by omega), (yi_n _ _ _ (by omega)).trans f5.2⟩ (h5.j (ya H i))
    rw [show yse (ys_j m (ya H i)) = -1 from hgo] at z
    exact z
  refine pk_eq (yk H i) 13 (fun k13 => ?_) (fun k13 => ?_)
  · have ha := hok.a hi (by omega)
    have hs : ys_s (yk H i) (ya H i) (yx H i) (yd H i) m = ys_if m (ya H i) (ye H i) := by rw [k13]; rfl
    have iva : vp_in (nI (ya H i)) 16 := vp_in_nI (by omega) (by omega)
    have hq := yv_eq (hR5 _ ha) yv_00
    unfold zf_MA_decide
    rw [nI_clamp (n := ya H i) (by omega)]
    refine ⟨iva, ys_isA (hR5 _ ha) (fun q => ⟨fun z => absurd z (by decide), fun _ => trap 1 ?_⟩) (fun q => ⟨fun _ => ⟨iva, br_c (fun q2 => ?_) (fun q2 => ?_)⟩, fun z => absurd rfl z⟩)⟩
    · rw [hs]
      unfold ys_if
      rw [if_neg q]
    · have e0 : ysr m (ya H i) = (0, 0) := hq.mp q2
      have e1 : (ysr m (ya H i)).2 = 0 := by rw [e0]
      have z := trap (yse m) (by rw [hs]; unfold ys_if; rw [if_pos q, if_pos e1])
      rw [hgo] at z
      exact z
    · have e1 : ¬ (ysr m (ya H i)).2 = 0 := fun z => q2 (hq.mpr (Prod.ext q z))
      have e : ys_if m (ya H i) (ye H i) = ys_j m (ye H i) := by
        unfold ys_if
        rw [if_pos q, if_neg e1]
      unfold zf_MA_goTo
      refine nm_e ?_
      rw [hs, e] at hK
      rw [hx]
      have z := hK _ ⟨f5.1.i (by omega) (by omega), (yi_n _ _ _ (by omega)).trans f5.2⟩ (h5.j (ye H i))
      rw [show yse (ys_j m (ye H i)) = -1 from hgo] at z
      exact z
  refine pk_eq (yk H i) 14 (fun k14 => trap 0 (by rw [k14]; rfl)) (fun k14 => ?_)
  have k15 : yk H i = 15 := by omega
  have z := trap (yse m) (by rw [k15]; rfl)
  rw [hgo] at z
  exact z
end YS
/-- the run -/
def ys_0 : ys_M := (fun _ => (0, 0), fun _ => (0, 0), fun _ => 0, fun _ => false, 0, fun _ => 0, 0, 0, -1)
def ys_it (H : yp_G) : Nat → ys_M
  | 0 => ys_0
  | j + 1 => ys_s (yk H (ysa (ys_it H j))) (ya H (ysa (ys_it H j))) (yx H (ysa (ys_it H j))) (yd H (ysa (ys_it H j))) (ys_it H j)
def ys_go (H : yp_G) (M j : Nat) : Prop := yse (ys_it H j) = -1 ∧ ysa (ys_it H j) < yn H ∧ j < M
def ys_J (H : yp_G) (M J : Nat) : Prop := (∀ j, j < J → ys_go H M j) ∧ ¬ ys_go H M J
def ys_fe (H : yp_G) (m : ys_M) : Int32 := if yse m = -1 then (if yn H ≤ ysa m then 0 else 2) else yse m
theorem ys_J_u {H : yp_G} {M J J' : Nat} (h : ys_J H M J) (h' : ys_J H M J') : J = J' := by
  rcases Nat.lt_trichotomy J J' with c | c | c
  · exact absurd (h'.1 J c) h.2
  · exact c
  · exact absurd (h.1 J' c) h'.2
theorem ys_0_ok : ys_ok ys_0 := ⟨Nat.zero_le _, Nat.zero_le _, fun o ho => absurd ho (Nat.not_lt_zero o), fun _ _ => Or.inl rfl, fun o _ ho => absurd ho (Nat.not_lt_zero o)⟩
theorem ys_pc {k a c : Nat} {x : Int32} {m : ys_M} (hw : yp_w k a x c) (h : ysa m < 200) : ysa (ys_s k a x c m) ≤ 200 := by
  obtain ⟨w1, w2, w3, w4, w5, w6, w7, w8⟩ := hw
  have e1 : ∀ e, ysa (ys_x m e) = ysa m + 1 := fun _ => rfl
  have e2 : ∀ a v, ysa (ys_w m a v) = ysa m + 1 := fun _ _ => rfl
  have e3 : ∀ f, ysa (ys_ar m a x.toNatClampNeg c f) = ysa m + 1 := by
    intro f
    unfold ys_ar
    split <;> rfl
  match k, w1, w5 with
  | 0, _, _ => show ysa m + 1 ≤ 200; omega
  | 1, _, _ => show ysa m + 1 ≤ 200; omega
  | 2, _, _ => show ysa (ys_ar m a x.toNatClampNeg c _) ≤ 200; rw [e3]; omega
  | 3, _, _ => show ysa (ys_ar m a x.toNatClampNeg c _) ≤ 200; rw [e3]; omega
  | 4, _, _ => show ysa (ys_ar m a x.toNatClampNeg c _) ≤ 200; rw [e3]; omega
  | 5, _, _ => show ysa (ys_ar m a x.toNatClampNeg c _) ≤ 200; rw [e3]; omega
  | 6, _, _ => show ysa m + 1 ≤ 200; omega
  | 7, _, _ =>
    show ysa (ys_sh m a x.toNatClampNeg c) ≤ 200
    unfold ys_sh
    split
    · show ysa m + 1 ≤ 200; omega
    · show ysa m + 1 ≤ 200; omega
  | 8, _, _ =>
    show ysa (ys_mk m a x.toNatClampNeg c) ≤ 200
    unfold ys_mk
    split
    · show ysa m + 1 ≤ 200; omega
    · show ysa m + 1 ≤ 200; omega
  | 9, _, _ =>
    show ysa (ys_lo m a x.toNatClampNeg) ≤ 200
    unfold ys_lo
    split
    · show ysa m + 1 ≤ 200; omega
    · show ysa m + 1 ≤ 200; omega
  | 10, _, _ =>
    show ysa (ys_st m a x.toNatClampNeg) ≤ 200
    unfold ys_st
    split
    · show ysa m + 1 ≤ 200; omega
    · show ysa m + 1 ≤ 200; omega
  | 11, _, _ =>
    show ysa (ys_pr m a) ≤ 200
    unfold ys_pr
    split
    · split
      · show ysa m + 1 ≤ 200; omega
      · show ysa m + 1 ≤ 200; omega
    · show ysa m + 1 ≤ 200; omega
  | 12, _, _ => show a ≤ 200; omega
  | 13, _, w5 =>
    show ysa (ys_if m a x.toNatClampNeg) ≤ 200
    unfold ys_if
    split
    · split
      · show ysa m + 1 ≤ 200; omega
      · show x.toNatClampNeg ≤ 200
        exact (w5 (by omega)).2
    · show ysa m + 1 ≤ 200; omega
  | 14, _, _ => show ysa m + 1 ≤ 200; omega
  | 15, _, _ => show ysa m + 1 ≤ 200; omega
theorem ys_it_ok {H : yp_G} {M : Nat} (hok : yp_ok H) {j : Nat} (h : ∀ i, i < j → ys_go H M i) : ys_ok (ys_it H j) ∧ ysa (ys_it H j) ≤ 200 := by
  induction j with
  | zero => exact ⟨ys_0_ok, Nat.zero_le _⟩
  | succ j ih =>
    have h1 := ih (fun i hi => h i (by omega))
    have h2 := h j (by omega)
    have hn := hok.n
    have h3 := h2.2.1
    exact ⟨h1.1.s (hok.w h2.2.1), ys_pc (hok.w h2.2.1) (by omega)⟩
section YS
variable {st : zs_T} {H : yp_G} {d : Nat}
theorem ys_perform {M : Nat} {K : Int32 → zs_T → Prop} (hok : yp_ok H) (hC : yp_C d H st) (hd : d + 4 < 629) (hM : M ≤ 5000) (hK : ∀ J t, ys_J H M J → zs_ag 629 634 st t → ys_Q (ys_it H J) t → t.1 629 6 = ys_fe H (ys_it H J) → t.1 629 10 = nI J → K (ys_fe H (ys_it H J)) t) : zf_MA_perform d (nI M) st K := by
  have hn := hok.n
  unfold zf_MA_perform
  refine yc_fillL (by omega) (fun t0 e1 e2 e3 => nm_e (nm_e (nm_e (nm_e (nm_e (nm_e ?_))))))
  have a0 : zs_ag 629 634 st t0 := fun d' hd' => ⟨by rw [e1], e2 d' (by omega)⟩
  have j0 : ys_C ys_0 (zs_i (zs_i (zs_i (zs_i (zs_i (zs_i t0 629 4 0) 629 5 0) 629 9 0) 629 7 0) 629 6 (-1)) 629 10 0) := by
    refine ⟨fun r hr => ?_, ?_, fun o k ho => absurd ho (Nat.not_lt_zero o), fun o ho => absurd ho (Nat.not_lt_zero o), fun o ho => absurd ho (Nat.not_lt_zero o), ?_, ?_, fun i hi => absurd hi (Nat.not_lt_zero i), ?_⟩
    · show yv (t0.2 630 r) (0, 0)
      rw [e3 r hr]
      exact yv_00
    · rw [yi_n _ _ _ (by omega), yi_n _ _ _ (by omega), yi_s]; rfl
    · rw [yi_n _ _ _ (by omega), yi_n _ _ _ (by omega), yi_n _ _ _ (by omega), yi_n _ _ _ (by omega), yi_n _ _ _ (by omega), yi_s]; rfl
    · rw [yi_n _ _ _ (by omega), yi_n _ _ _ (by omega), yi_n _ _ _ (by omega), yi_n _ _ _ (by omega), yi_s]; rfl
    · rw [yi_n _ _ _ (by omega), yi_n _ _ _ (by omega), yi_n _ _ _ (by omega), yi_s]; rfl
  refine loop_m (σ := Nat × zs_T) (fun n s => zf_MA_perform_38 d K n (nI M) s.2) (fun s => (∀ i, i < s.1 → ys_go H M i) ∧ ys_C (ys_it H s.1) s.2 ∧ s.2.1 629 6 = yse (ys_it H s.1) ∧ s.2.1 629 10 = nI s.1 ∧ zs_ag 629 634 st s.2 ∧ s.1 ≤ M) (fun s => M - s.1) ?_ (0, zs_i (zs_i (zs_i (zs_i (zs_i (zs_i t0 629 4 0) 629 5 0) 629 9 0) 629 7 0) 629 6 (-1)) 629 10 0) ⟨fun i hi => absurd hi (Nat.not_lt_zero i), j0, ?_, ?_, ?_, Nat.zero_le _⟩
  · rintro n ⟨j, t⟩ ⟨g1, g2, g3, g4, g5, g6⟩ ih
    have g6' : j ≤ M := g6
    obtain ⟨o1, o2⟩ := ys_it_ok hok g1
    have o2' : ysa (ys_it H j) ≤ 200 := o2
    have hCt : yp_C d H t := hC.ag g5 (by omega)
    have hat : t.1 629 7 = nI (ysa (ys_it H j)) := g2.2.1
    have h91 : ¬ ys_go H M j → zf_MA_perform_91 d K t := by
      intro hno
      unfold zf_MA_perform_91
      rw [hCt.1, hat, show t.1 629 6 = yse (ys_it H j) from g3]
      refine And.intro (fun q => ?_) (fun q => pk_le (yn H) (ysa (ys_it H j)) (fun q2 => nm_e ?_) (fun q2 => nm_e ?_))
      · have e : ys_fe H (ys_it H j) = yse (ys_it H j) := by unfold ys_fe; rw [if_neg q]
        have z := hK j t ⟨g1, hno⟩ g5 g2.2.2 (by rw [e]; exact g3) g4
        rw [e] at z
        exact z
      · have e : ys_fe H (ys_it H j) = 0 := by unfold ys_fe; rw [if_pos q, if_pos q2]
        rw [yi_s]
        have z := hK j (zs_i t 629 6 0) ⟨g1, hno⟩ (g5.i (by omega) (by omega)) ?_ (by rw [e, yi_s]) ((yi_n _ _ _ (by omega)).trans g4)
        · rw [e] at z
          exact z
        · obtain ⟨z1, z2, z3, z4, z5, z6, z7⟩ := g2.2.2
          refine ⟨z1, fun o ho => ?_, fun o ho hk => ?_, ?_, ?_, fun i hi => ?_, ?_⟩
          · rw [yi_r _ _ _ _ (by omega)]; exact z2 o ho
          · rw [yi_r _ _ _ _ (by omega)]; exact z3 o ho hk
          · rw [yi_n _ _ _ (by omega)]; exact z4
          · rw [yi_n _ _ _ (by omega)]; exact z5
          · rw [yi_r _ _ _ _ (by omega)]; exact z6 i hi
          · rw [yi_n _ _ _ (by omega)]; exact z7
      · have e : ys_fe H (ys_it H j) = 2 := by unfold ys_fe; rw [if_pos q, if_neg (by omega)]
        rw [yi_s]
        have z := hK j (zs_i t 629 6 2) ⟨g1, hno⟩ (g5.i (by omega) (by omega)) ?_ (by rw [e, yi_s]) ((yi_n _ _ _ (by omega)).trans g4)
        · rw [e] at z
          exact z
        · obtain ⟨z1, z2, z3, z4, z5, z6, z7⟩ := g2.2.2
          refine ⟨z1, fun o ho => ?_, fun o ho hk => ?_, ?_, ?_, fun i hi => ?_, ?_⟩
          · rw [yi_r _ _ _ _ (by omega)]; exact z2 o ho
          · rw [yi_r _ _ _ _ (by omega)]; exact z3 o ho hk
          · rw [yi_n _ _ _ (by omega)]; exact z4
          · rw [yi_n _ _ _ (by omega)]; exact z5
          · rw [yi_r _ _ _ _ (by omega)]; exact z6 i hi
          · rw [yi_n _ _ _ (by omega)]; exact z7
    show (¬ t.1 629 6 = -1 → _) ∧ (t.1 629 6 = -1 → ((t.1 d 4 ≤ t.1 629 7 → _) ∧ (¬ t.1 d 4 ≤ t.1 629 7 → ((nI M ≤ t.1 629 10 → _) ∧ (¬ nI M ≤ t.1 629 10 → _)))))
    rw [hCt.1, hat, show t.1 629 6 = yse (ys_it H j) from g3, show t.1 629 10 = nI j from g4]
    refine And.intro (fun q => h91 (fun z => q z.1)) (fun q => pk_le (yn H) (ysa (ys_it H j)) (fun q2 => h91 (fun z => by have := z.2.1; omega)) (fun q2 => pk_le M j (fun q3 => h91 (fun z => by have := z.2.2; omega)) (fun q3 => ?_)))
    refine ys_cstep hok hCt q2 o1 g2 rfl q (fun t2 f2 h2 => nm_e (nm_e ?_))
    rw [yi_n _ _ _ (by omega), f2.2, show t.1 629 10 = nI j from g4, nI_1]
    refine ih (j + 1, zs_i (zs_i t2 629 6 (yse (ys_it H (j + 1)))) 629 10 (nI (j + 1))) ⟨fun i hi => ?_, ?_, ?_, yi_s _ _ _ _, ((g5.trans f2.1).i (by omega) (by omega)).i (by omega) (by omega), by show j + 1 ≤ M; omega⟩ (by show M - (j + 1) < M - j; omega)
    · have hi' : i < j + 1 := hi
      by_cases c : i = j
      · rw [c]; exact ⟨q, q2, by omega⟩
      · exact g1 i (by show i < j; omega)
    · show ys_C (ys_it H (j + 1)) (zs_i (zs_i t2 629 6 (yse (ys_it H (j + 1)))) 629 10 (nI (j + 1)))
      obtain ⟨y1, y2, z1, z2, z3, z4, z5, z6, z7⟩ := h2
      refine ⟨y1, ?_, z1, fun o ho => ?_, fun o ho hk => ?_, ?_, ?_, fun i hi => ?_, ?_⟩
      · rw [yi_n _ _ _ (by omega), yi_n _ _ _ (by omega)]; exact y2
      · rw [yi_r _ _ _ _ (by omega), yi_r _ _ _ _ (by omega)]; exact z2 o ho
      · rw [yi_r _ _ _ _ (by omega), yi_r _ _ _ _ (by omega)]; exact z3 o ho hk
      · rw [yi_n _ _ _ (by omega), yi_n _ _ _ (by omega)]; exact z4
      · rw [yi_n _ _ _ (by omega), yi_n _ _ _ (by omega)]; exact z5
      · rw [yi_r _ _ _ _ (by omega), yi_r _ _ _ _ (by omega)]; exact z6 i hi
      · rw [yi_n _ _ _ (by omega), yi_n _ _ _ (by omega)]; exact z7
    · show (zs_i (zs_i t2 629 6 (yse (ys_it H (j + 1)))) 629 10 (nI (j + 1))).1 629 6 = yse (ys_it H (j + 1))
      rw [yi_n _ _ _ (by omega), yi_s]
  · show (zs_i (zs_i (zs_i (zs_i (zs_i (zs_i t0 629 4 0) 629 5 0) 629 9 0) 629 7 0) 629 6 (-1)) 629 10 0).1 629 6 = -1
    rw [yi_n _ _ _ (by omega), yi_s]
  · show (zs_i (zs_i (zs_i (zs_i (zs_i (zs_i t0 629 4 0) 629 5 0) 629 9 0) 629 7 0) 629 6 (-1)) 629 10 0).1 629 10 = 0
    rw [yi_s]
  · exact (((((a0.i (by omega) (by omega)).i (by omega) (by omega)).i (by omega) (by omega)).i (by omega) (by omega)).i (by omega) (by omega)).i (by omega) (by omega)
end YS
