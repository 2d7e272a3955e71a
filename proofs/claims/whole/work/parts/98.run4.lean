/-! the reference's machine: every step, the whole run -/
section YS
variable {m : ys_M} {st : zs_T} {H : yp_G} {b : Nat}
theorem ys_mstep {i : Nat} {K : Int32 → zs_T → Prop} (hok : yp_ok H) (hP : ym_P b H st) (hi : i < yn H) (hm : ys_ok m) (hD : ys_D m st) (hat : ysa m = i) (hgo : yse m = -1) (hK : ∀ r t, ys_fd st t → ys_D (ys_s (yk H i) (ya H i) (yx H i) (yd H i) m) t → (yse (ys_s (yk H i) (ya H i) (yx H i) (yd H i) m) = -1 → r = nI (ysa (ys_s (yk H i) (ya H i) (yx H i) (yd H i) m))) → K r t) : zf_MO_step (nI i) st K := by
  have hn := hok.n
  have hbb := hP.2.2
  have hkk := hok.k hi
  have ha2 := hok.a2 hi
  have hc := hok.d hi
  have hn3 := hm.1
  obtain ⟨c1, c2, c3, c4⟩ := hP.1.2 i hi
  have iv : vp_in (nI (b + i)) 400 := vp_in_nI (by omega) (by omega)
  have trap : ∀ e r, e ≠ -1 → ys_s (yk H i) (ya H i) (yx H i) (yd H i) m = ys_x m e → K r (zs_i st 635 30 e) := by
    intro e r he hs
    rw [hs] at hK
    exact hK r _ (ys_fd.refl.f (by omega) (by omega)) (hD.x e) (fun h => absurd h he)
  have bec : ∀ v, ys_s (yk H i) (ya H i) (yx H i) (yd H i) m = ys_w m (ya H i) v → K (nI (i + 1)) (zs_i (zs_i st 651 (ya H i) (ys_o v.1)) 652 (ya H i) v.2) := by
    intro v hs
    rw [hs] at hK
    exact hK _ _ ((ys_fd.refl.i (by omega) (by omega)).i (by omega) (by omega)) hD.w (fun _ => by show nI (i + 1) = nI (ysa m + 1); rw [hat])
  have bec0 : ∀ n, ys_s (yk H i) (ya H i) (yx H i) (yd H i) m = ys_w m (ya H i) (0, n) → K (nI (i + 1)) (zs_i (zs_i st 651 (ya H i) (-1)) 652 (ya H i) n) := by
    intro n hs
    have z := bec (0, n) hs
    rw [show ys_o ((0, n) : ys_v).1 = -1 from ys_o_0] at z
    exact z
  have hc16 : yd H i < 16 := by omega
  obtain ⟨dc1, dc2⟩ := hD.1 _ hc16
  have vc := hm.v300 hc16
  have ivc : vp_in (nI (yd H i)) 16 := vp_in_nI (by omega) (by omega)
  have cle : (yx H i).toNatClampNeg = ye H i := rfl
  unfold zf_MO_step
  rw [hP.2.1, nI_add, nI_clamp (n := b + i) (by omega), c1, c2, c3, c4]
  refine ⟨iv, iv, iv, iv, yi_ne (yk H i) 0 (fun k0 => ?_) (fun k0 => ?_)⟩
  rotate_left
  · have ha := hok.a hi (by omega)
    refine ys_put ha (ys_n62 hkk (by omega) (bec0 _ ?_))
    rw [k0]
    rfl
  have hx := hok.x hi k0
  have he2 := hok.e2 hi k0
  unfold zf_MO_step_62
  rw [cle]
  refine yi_ne (yk H i) 1 (fun k1 => ?_) (fun k1 => ?_)
  rotate_left
  · have ha := hok.a hi (by omega)
    have he := hok.e hi ⟨by omega, by omega, by omega⟩
    obtain ⟨d1, d2⟩ := hD.1 _ he
    have ive : vp_in (yx H i) 16 := by rw [hx]; exact vp_in_nI (by omega) (by omega)
    rw [d1, d2]
    refine ⟨ive, ive, ys_put ha (ys_n85 hkk (by omega) (bec (ysr m (ye H i)) ?_))⟩
    rw [k1]
    rfl
  unfold zf_MO_step_85
  rw [cle, nI_clamp (n := yd H i) (by omega)]
  refine pk_le (yk H i) 1 (fun c => by omega) (fun _ => pk_le 6 (yk H i) (fun k6 => ?_) (fun k6 => ?_))
  rotate_left
  · have ha := hok.a hi (by omega)
    have he := hok.e hi ⟨by omega, by omega, by omega⟩
    obtain ⟨d1, d2⟩ := hD.1 _ he
    have ve := hm.v300 he
    have ive : vp_in (yx H i) 16 := by rw [hx]; exact vp_in_nI (by omega) (by omega)
    obtain ⟨f, hs, f2, f3, f4, f5⟩ : ∃ f : Int32 → Int32 → Int32, ys_s (yk H i) (ya H i) (yx H i) (yd H i) m = ys_ar m (ya H i) (ye H i) (yd H i) f ∧ (yk H i = 2 → ∀ x y, f x y = x + y) ∧ (yk H i = 3 → ∀ x y, f x y = x - y) ∧ (yk H i = 4 → ∀ x y, f x y = x * y) ∧ (yk H i = 5 → ∀ x y, f x y = if y ≤ x then 0 else 1) := by
      by_cases q2 : yk H i = 2
      · exact ⟨_, by rw [q2]; rfl, fun _ _ _ => rfl, fun q => by omega, fun q => by omega, fun q => by omega⟩
      · by_cases q3 : yk H i = 3
        · exact ⟨_, by rw [q3]; rfl, fun q => by omega, fun _ _ _ => rfl, fun q => by omega, fun q => by omega⟩
        · by_cases q4 : yk H i = 4
          · exact ⟨_, by rw [q4]; rfl, fun q => by omega, fun q => by omega, fun _ _ _ => rfl, fun q => by omega⟩
          · have q5 : yk H i = 5 := by omega
            exact ⟨_, by rw [q5]; rfl, fun q => by omega, fun q => by omega, fun q => by omega, fun _ _ _ => rfl⟩
    have h136 : ¬ ((ysr m (ye H i)).1 = 0 ∧ (ysr m (yd H i)).1 = 0) → zf_MO_step_136 K (nI i) (nI (ya H i)) (yx H i) (nI (yd H i)) (nI (yk H i)) st := by
      intro q
      refine nm_e (ys_n204 hkk (by omega) (trap 1 _ (by decide) ?_))
      rw [hs]
      unfold ys_ar
      rw [if_neg q]
    have h201 : (ysr m (ye H i)).1 = 0 ∧ (ysr m (yd H i)).1 = 0 → ∀ n, n = f (ysr m (ye H i)).2 (ysr m (yd H i)).2 → zf_MO_step_201 K (nI i) (nI (ya H i)) (yx H i) (nI (yd H i)) (nI (yk H i)) n (-1) (nI (ya H i)) st := by
      intro q n en
      refine ys_put ha (ys_n204 hkk (by omega) (bec0 n ?_))
      rw [hs]
      unfold ys_ar
      rw [if_pos q, en]
    rw [d1, d2, dc1, dc2]
    refine ⟨ive, ivc, ive, And.intro (fun q => h136 (fun z => q ((ys_o_e ve).mpr z.1))) (fun q => ⟨ivc, br_c (fun q2 => ?_) (fun q2 => h136 (fun z => q2 ((ys_o_e vc).mpr z.2)))⟩)⟩
    have q0 := (ys_o_e ve).mp q
    have q20 := (ys_o_e vc).mp q2
    refine yi_ne (yk H i) 2 (fun k2 => yi_ne (yk H i) 3 (fun k3 => yi_ne (yk H i) 4 (fun k4 => br_c (fun q5 => h201 ⟨q0, q20⟩ _ ?_) (fun q5 => h201 ⟨q0, q20⟩ _ ?_)) (fun k4 => h201 ⟨q0, q20⟩ _ (f4 k4 _ _).symm)) (fun k3 => h201 ⟨q0, q20⟩ _ (f3 k3 _ _).symm)) (fun k2 => h201 ⟨q0, q20⟩ _ (f2 k2 _ _).symm)
    · rw [f5 (by omega), if_pos q5]
    · rw [f5 (by omega), if_neg q5]
  unfold zf_MO_step_204
  rw [cle, nI_clamp (n := yd H i) (by omega)]
  refine yi_ne (yk H i) 6 (fun k6' => ?_) (fun k6' => ?_)
  rotate_left
  · have ha := hok.a hi (by omega)
    have he := hok.e hi ⟨by omega, by omega, by omega⟩
    obtain ⟨d1, d2⟩ := hD.1 _ he
    have ve := hm.v300 he
    have ive : vp_in (yx H i) 16 := by rw [hx]; exact vp_in_nI (by omega) (by omega)
    have hs : ys_s (yk H i) (ya H i) (yx H i) (yd H i) m = ys_w m (ya H i) (0, if ysr m (ye H i) = ysr m (yd H i) then 1 else 0) := by rw [k6']; rfl
    have h250 : ¬ ysr m (ye H i) = ysr m (yd H i) → zf_MO_step_250 K (nI i) (nI (ya H i)) (yx H i) (nI (yd H i)) (nI (yk H i)) (-1) (nI (ya H i)) st := by
      intro q
      refine ys_put ha (ys_n254 hkk (by omega) (bec0 0 ?_))
      rw [hs, if_neg q]
    rw [d1, d2, dc1, dc2]
    refine ⟨ive, ivc, And.intro (fun q => h250 (fun z => q (by rw [z]))) (fun q => ⟨ive, ivc, And.intro (fun q2 => h250 (fun z => q2 (by rw [z]))) (fun q2 => ?_)⟩)⟩
    refine ys_put ha (ys_n254 hkk (by omega) (bec0 1 ?_))
    rw [hs, if_pos (Prod.ext ((ys_o_i ve vc).mp q) q2)]
  unfold zf_MO_step_254
  rw [cle, nI_clamp (n := yd H i) (by omega)]
  refine yi_ne (yk H i) 7 (fun k7 => ?_) (fun k7 => ?_)
  rotate_left
  · have ha := hok.a hi (by omega)
    have he := hok.e hi ⟨by omega, by omega, by omega⟩
    obtain ⟨d1, d2⟩ := hD.1 _ he
    have ve := hm.v300 he
    have ive : vp_in (yx H i) 16 := by rw [hx]; exact vp_in_nI (by omega) (by omega)
    have hs : ys_s (yk H i) (ya H i) (yx H i) (yd H i) m = ys_sh m (ya H i) (ye H i) (yd H i) := by rw [k7]; rfl
    have h325 : ¬ ((ysr m (ye H i)).1 ≠ 0 ∧ (ysr m (yd H i)).1 = 0 ∧ ¬ lg_cmp (ys_sm m (ye H i) (yd H i)) 0 < 0 ∧ lg_cmp (ys_sm m (ye H i) (yd H i)) (nI (ysz m ((ysr m (ye H i)).1 - 1))).toInt64 < 0) → zf_MO_step_325 K (nI i) (nI (ya H i)) (yx H i) (nI (yd H i)) (nI (yk H i)) st := by
      intro q
      refine nm_e (ys_n347 hkk (by omega) (trap 1 _ (by decide) ?_))
      rw [hs]
      unfold ys_sh
      rw [if_neg q]
    rw [d1, d2, dc1, dc2]
    refine ⟨ive, ivc, ive, br_c (fun q => h325 (fun z => z.1 ((ys_o_e ve).mp q))) (fun q => ⟨ivc, And.intro (fun q2 => h325 (fun z => q2 ((ys_o_e vc).mpr z.2.1))) (fun q2 => br_c (fun q3 => h325 (fun z => z.2.2.1 q3)) (fun q3 => ⟨ive, ?_⟩))⟩)⟩
    have q0 : ¬ (ysr m (ye H i)).1 = 0 := fun z => q ((ys_o_e ve).mpr z)
    obtain ⟨o, p, g1, g2, g3, g4⟩ := hm.at he q0
    have e1 : (ysr m (ye H i)).1 = o + 1 := by rw [g3]
    have e2 : (ysr m (ye H i)).1 - 1 = o := by omega
    have eo : ys_o (ysr m (ye H i)).1 = nI o := by rw [e1, ys_o_s]
    have h655 := (hD.2.2.2.1 o g1).1
    rw [e2] at h325
    rw [eo, nI_clamp (n := o) (by omega), h655]
    refine ⟨vp_in_nI (by omega) (by omega), br_c (fun q4 => ⟨ive, ys_put ha (ys_n347 hkk (by omega) ?_)⟩) (fun q4 => h325 (fun z => q4 z.2.2.2))⟩
    have z := bec ((ysr m (ye H i)).1, (ys_sm m (ye H i) (yd H i)).toInt32) ?_
    · rw [show ys_o (((ysr m (ye H i)).1, (ys_sm m (ye H i) (yd H i)).toInt32) : ys_v).1 = nI o from eo] at z
      exact z
    · rw [hs]
      unfold ys_sh
      rw [e2, if_pos ⟨q0, (ys_o_e vc).mp q2, q3, q4⟩]
  unfold zf_MO_step_347
  refine yi_ne (yk H i) 8 (fun k8 => ?_) (fun k8 => ?_)
  rotate_left
  · have ha := hok.a hi (by omega)
    have hx16 := hok.m hi k8
    have hs : ys_s (yk H i) (ya H i) (yx H i) (yd H i) m = ys_mk m (ya H i) (ye H i) (yd H i) := by rw [k8]; rfl
    rw [hx]
    refine ys_mmake hm ha hx16.2.1 (by omega) hD (fun q => ys_n362 hkk (by omega) (trap 3 _ (by decide) ?_)) (fun q t f ht => ys_n362 hkk (by omega) ?_)
    · rw [hs]
      unfold ys_mk
      rw [if_pos q]
    · rw [hs] at hK
      refine hK _ t f ht (fun _ => ?_)
      unfold ys_mk
      rw [if_neg q]
      show nI (i + 1) = nI (ysa m + 1)
      rw [hat]
  unfold zf_MO_step_362
  rw [cle]
  refine yi_ne (yk H i) 9 (fun k9 => ?_) (fun k9 => ?_)
  rotate_left
  · have ha := hok.a hi (by omega)
    have he := hok.e hi ⟨by omega, by omega, by omega⟩
    obtain ⟨d1, d2⟩ := hD.1 _ he
    have ve := hm.v300 he
    have ive : vp_in (yx H i) 16 := by rw [hx]; exact vp_in_nI (by omega) (by omega)
    have hs : ys_s (yk H i) (ya H i) (yx H i) (yd H i) m = ys_lo m (ya H i) (ye H i) := by rw [k9]; rfl
    rw [d1, d2]
    refine ⟨ive, And.intro (fun q => ⟨ive, ive, ?_⟩) (fun q => nm_e (ys_n434 hkk (by omega) (trap 1 _ (by decide) ?_)))⟩
    · have q0 : ¬ (ysr m (ye H i)).1 = 0 := fun z => q ((ys_o_e ve).mpr z)
      obtain ⟨o, p, g1, g2, g3, g4⟩ := hm.at he q0
      have hz := hm.2.2.1 o g1
      have eo : ys_o (ysr m (ye H i)).1 = nI o := by rw [g3, ys_o_s]
      have ep : (ysr m (ye H i)).2 = nI p := by rw [g3]
      obtain ⟨y1, y2⟩ := hD.2.2.1 o p g1 g2
      rw [eo, ep, yi_16, nI_clamp (n := 16 * o + p) (by omega), y1, y2]
      refine ⟨vp_in_nI (by omega) (by omega), ive, ive, vp_in_nI (by omega) (by omega), ys_put ha (ys_n434 hkk (by omega) (bec (ysc m (16 * o + p)) ?_))⟩
      rw [hs]
      unfold ys_lo
      rw [if_neg q0, g4]
    · rw [hs]
      unfold ys_lo
      rw [if_pos ((ys_o_e ve).mp q)]
  unfold zf_MO_step_434
  rw [cle]
  refine yi_ne (yk H i) 10 (fun k10 => ?_) (fun k10 => ?_)
  rotate_left
  · have ha := hok.a hi (by omega)
    have he := hok.e hi ⟨by omega, by omega, by omega⟩
    obtain ⟨d1, d2⟩ := hD.1 _ he
    obtain ⟨da1, da2⟩ := hD.1 _ ha
    have va := hm.v300 ha
    have iva : vp_in (nI (ya H i)) 16 := vp_in_nI (by omega) (by omega)
    have ive : vp_in (yx H i) 16 := by rw [hx]; exact vp_in_nI (by omega) (by omega)
    have hs : ys_s (yk H i) (ya H i) (yx H i) (yd H i) m = ys_st m (ya H i) (ye H i) := by rw [k10]; rfl
    rw [nI_clamp (n := ya H i) (by omega), da1, da2, d1]
    refine ⟨iva, And.intro (fun q => ⟨iva, iva, ive, ?_⟩) (fun q => nm_e (ys_n513 hkk (by omega) (trap 1 _ (by decide) ?_)))⟩
    · have q0 : ¬ (ysr m (ya H i)).1 = 0 := fun z => q ((ys_o_e va).mpr z)
      obtain ⟨o, p, g1, g2, g3, g4⟩ := hm.at ha q0
      have hz := hm.2.2.1 o g1
      have eo : ys_o (ysr m (ya H i)).1 = nI o := by rw [g3, ys_o_s]
      have ep : (ysr m (ya H i)).2 = nI p := by rw [g3]
      rw [eo, ep, yi_16, nI_clamp (n := 16 * o + p) (by omega)]
      refine ⟨vp_in_nI (by omega) (by omega), nm_e ⟨iva, iva, ive, ?_⟩⟩
      rw [yi_r _ _ _ _ (by omega : 651 ≠ 653), yi_r _ _ _ _ (by omega : 652 ≠ 653), da1, da2, d2, eo, ep, yi_16, nI_clamp (n := 16 * o + p) (by omega)]
      refine ⟨vp_in_nI (by omega) (by omega), nm_e (ys_n513 hkk (by omega) ?_)⟩
      have e : ys_st m (ya H i) (ye H i) = (ysr m, ys_u (ysc m) (16 * o + p) (ysr m (ye H i)), ysz m, ysk m, ysn m, ysp m, ysq m, ysa m + 1, yse m) := by
        unfold ys_st
        rw [if_neg q0, g4]
      rw [hs, e] at hK
      exact hK _ _ ((ys_fd.refl.i (by omega) (by omega)).i (by omega) (by omega)) hD.sto (fun _ => by show nI (i + 1) = nI (ysa m + 1); rw [hat])
    · rw [hs]
      unfold ys_st
      rw [if_pos ((ys_o_e va).mp q)]
  unfold zf_MO_step_513
  refine yi_ne (yk H i) 11 (fun k11 => ?_) (fun k11 => ?_)
  rotate_left
  · have ha := hok.a hi (by omega)
    obtain ⟨da1, da2⟩ := hD.1 _ ha
    have va := hm.v300 ha
    have hq := hm.2.1
    have iva : vp_in (nI (ya H i)) 16 := vp_in_nI (by omega) (by omega)
    have h28 : st.1 635 28 = nI (ysq m) := hD.2.2.2.2.2.2
    have h30 : st.1 635 30 = -1 := hD.2.1.trans hgo
    have hs : ys_s (yk H i) (ya H i) (yx H i) (yd H i) m = ys_pr m (ya H i) := by rw [k11]; rfl
    have h27 : ∀ e, e ≠ -1 → ys_pr m (ya H i) = ys_x m e → zf_MO_printNumber_27 (fun u => zf_MO_step_545 K (nI i) (nI (ya H i)) (yx H i) (nI (yk H i)) u) (ysr m (ya H i)).2 e st := by
      intro e he q
      refine nm_e ?_
      rw [yi_s]
      refine ⟨fun z => absurd z he, fun _ => ys_n545 hkk (by omega) (trap e _ he (by rw [hs, q]))⟩
    rw [nI_clamp (n := ya H i) (by omega), da1]
    refine ⟨iva, br_c (fun q => ?_) (fun q => ?_)⟩
    · have q0 := (ys_o_e va).mp q
      unfold zf_MO_step_536
      rw [nI_clamp (n := ya H i) (by omega), da2]
      refine ⟨iva, fun _ => ?_, fun z => absurd rfl z⟩
      rw [h28]
      refine yi_ne (ysq m) 200 (fun q2 => nm_e ?_) (fun q2 => h27 3 (by decide) ?_)
      · rw [yi_same, h30, h28]
        refine ⟨fun _ => ⟨vp_in_nI (by omega) (by omega), nm_e (nm_e (ys_n545 hkk (by omega) ?_))⟩, fun z => absurd rfl z⟩
        rw [nI_clamp (n := ysq m) (by omega), yi_r _ _ _ _ (by omega : 635 ≠ 657), h28, nI_1]
        have e : ys_pr m (ya H i) = (ysr m, ysc m, ysz m, ysk m, ysn m, ys_u (ysp m) (ysq m) (ysr m (ya H i)).2, ysq m + 1, ysa m + 1, yse m) := by
          unfold ys_pr
          rw [if_pos q0, if_neg q2]
        rw [hs, e] at hK
        exact hK _ _ ((ys_fd.refl.i (by omega) (by omega)).f (by omega) (by omega)) (hD.p _) (fun _ => by show nI (i + 1) = nI (ysa m + 1); rw [hat])
      · unfold ys_pr
        rw [if_pos q0, if_pos q2]
    · unfold zf_MO_step_536
      rw [nI_clamp (n := ya H i) (by omega), da2]
      refine ⟨iva, fun z => absurd z (by decide), fun _ => h27 1 (by decide) ?_⟩
      unfold ys_pr
      rw [if_neg (fun z => q ((ys_o_e va).mpr z))]
  unfold zf_MO_step_545
  refine yi_ne (yk H i) 13 (fun k13 => ?_) (fun k13 => ?_)
  rotate_left
  · have ha := hok.a hi (by omega)
    obtain ⟨da1, da2⟩ := hD.1 _ ha
    have va := hm.v300 ha
    have iva : vp_in (nI (ya H i)) 16 := vp_in_nI (by omega) (by omega)
    have hs : ys_s (yk H i) (ya H i) (yx H i) (yd H i) m = ys_if m (ya H i) (ye H i) := by rw [k13]; rfl
    have h567 : ∀ t, (t.1 652 (ya H i) = 0 → K (nI (i + 1)) t) → (¬ t.1 652 (ya H i) = 0 → K (yx H i) t) → zf_MO_step_567 K (nI i) (nI (ya H i)) (yx H i) (nI (yk H i)) t := by
      intro t z1 z2
      unfold zf_MO_step_567
      refine yi_ne (yk H i) 14 (fun _ => ?_) (fun c => by omega)
      unfold zf_MO_step_579
      rw [nI_1, nI_clamp (n := ya H i) (by omega)]
      exact yi_ne (yk H i) 12 (fun _ => yi_ne (yk H i) 13 (fun c => by omega) (fun _ => ⟨iva, br_c z1 z2⟩)) (fun c => by omega)
    rw [nI_clamp (n := ya H i) (by omega), da1]
    refine ⟨iva, br_c (fun q => h567 st (fun q2 => ?_) (fun q2 => ?_)) (fun q => nm_e ?_)⟩
    · rw [da2] at q2
      have e : ys_if m (ya H i) (ye H i) = ys_x m (yse m) := by
        unfold ys_if
        rw [if_pos ((ys_o_e va).mp q), if_pos q2]
      rw [hs, e] at hK
      exact hK _ st ys_fd.refl hD (fun _ => by show nI (i + 1) = nI (ysa m + 1); rw [hat])
    · rw [da2] at q2
      have e : ys_if m (ya H i) (ye H i) = ys_j m (ye H i) := by
        unfold ys_if
        rw [if_pos ((ys_o_e va).mp q), if_neg q2]
      rw [hs, e] at hK
      exact hK _ st ys_fd.refl hD (fun _ => hx)
    · have z : ∀ r, K r (zs_i st 635 30 1) := by
        intro r
        refine trap 1 r (by decide) ?_
        rw [hs]
        unfold ys_if
        rw [if_neg (fun z => q ((ys_o_e va).mpr z))]
      exact h567 _ (fun _ => z _) (fun _ => z _)
  unfold zf_MO_step_567
  refine yi_ne (yk H i) 14 (fun k14 => ?_) (fun k14 => nm_e (ys_n579 hkk (by omega) (trap 0 _ (by decide) (by rw [k14]; rfl))))
  unfold zf_MO_step_579
  rw [nI_1]
  refine yi_ne (yk H i) 12 (fun k12 => yi_ne (yk H i) 13 (fun _ => ?_) (fun c => by omega)) (fun k12 => ?_)
  · have k15 : yk H i = 15 := by omega
    have hs : ys_s (yk H i) (ya H i) (yx H i) (yd H i) m = ys_x m (yse m) := by rw [k15]; rfl
    rw [hs] at hK
    exact hK _ st ys_fd.refl hD (fun _ => by show nI (i + 1) = nI (ysa m + 1); rw [hat])
  · have hs : ys_s (yk H i) (ya H i) (yx H i) (yd H i) m = ys_j m (ya H i) := by rw [k12]; rfl
    rw [hs] at hK
    exact hK _ st ys_fd.refl hD (fun _ => rfl)
/-- what stays but for the run's own -/
def ys_fm (a t : zs_T) : Prop := zs_ag 635 657 a t ∧ (∀ d, 636 ≤ d → d ≤ 650 → t.1 d = a.1 d) ∧ ∀ x, x < 26 → x ≠ 9 → t.1 635 x = a.1 635 x
theorem ys_fm.trans {a b c : zs_T} (h : ys_fm a b) (h2 : ys_fm b c) : ys_fm a c := ⟨h.1.trans h2.1, fun d hd hd' => (h2.2.1 d hd hd').trans (h.2.1 d hd hd'), fun x hx hx' => (h2.2.2 x hx hx').trans (h.2.2 x hx hx')⟩
theorem ys_fd.fm {a b : zs_T} (h : ys_fd a b) : ys_fm a b := ⟨h.1, h.2.1, fun x hx _ => h.2.2 x (Or.inl hx)⟩
theorem ys_fm.f {a b : zs_T} (h : ys_fm a b) {j : Nat} {v : Int32} (h1 : 26 ≤ j ∨ j = 9) : ys_fm a (zs_i b 635 j v) :=
  ⟨h.1.i (by omega) (by omega), fun d' _ _ => by rw [yi_r _ _ _ _ (by omega)]; exact h.2.1 d' (by omega) (by omega), fun x hx hx' => by rw [yi_n _ _ _ (by omega)]; exact h.2.2 x hx hx'⟩
theorem ys_fm.P {a t : zs_T} (hP : ym_P b H a) (h : ys_fd a t) : ym_P b H t := by
  unfold ym_P yp_D
  rw [h.2.1 636 (by omega) (by omega), h.2.1 637 (by omega) (by omega), h.2.1 638 (by omega) (by omega), h.2.1 639 (by omega) (by omega), h.2.2 5 (by omega), h.2.2 9 (by omega)]
  exact hP
theorem ys_mrun {M : Nat} {K : Int32 → zs_T → Prop} (hok : yp_ok H) (hD : yp_D b H st) (hb : b ≤ 200) (hM : M ≤ 5000) (hK : ∀ J t, ys_J H M J → ys_fm st t → ys_E (ys_it H J) t → t.1 635 30 = ys_fe H (ys_it H J) → t.1 635 29 = nI J → K (ys_fe H (ys_it H J)) t) : zf_MO_run_57 K (nI M) (nI b) st := by
  have hn := hok.n
  unfold zf_MO_run_57
  refine nm_e ?_
  refine pk_loop (W := fun n k (t : zs_T) => zf_MO_run_62 K n (nI M) (nI k) t) (fun k t => zs_ag 651 652 (zs_i st 635 9 (nI b)) t ∧ ∀ r, r < k → t.1 651 r = -1 ∧ t.1 652 r = 0) 16 0 (zs_i st 635 9 (nI b)) (by omega) ⟨zs_ag.refl, fun r hr => absurd hr (Nat.not_lt_zero r)⟩ ?_ ?_
  rotate_left
  · rintro n k t hk ⟨g1, g2⟩ ih
    refine pk_le 16 k (fun h => by omega) (fun _ => ys_put hk ?_)
    rw [nI_1]
    refine ih _ ⟨(g1.i (by omega) (by omega)).i (by omega) (by omega), fun r hr => ?_⟩
    rw [yi_r _ 652 _ _ (by omega : 651 ≠ 652), yi_m, yi_m, yi_r _ 651 _ _ (by omega : 652 ≠ 651)]
    by_cases c : r = k
    · rw [if_pos ⟨rfl, c⟩, if_pos ⟨rfl, c⟩]
      exact ⟨rfl, rfl⟩
    · rw [if_neg (fun q => c q.2), if_neg (fun q => c q.2)]
      exact g2 r (by omega)
  rintro n t ⟨g1, g2⟩
  refine pk_le 16 16 (fun _ => nm_e (nm_e (nm_e (nm_e ?_)))) (fun h => by omega)
  have f0 : ys_fm st t := by
    have f1 : ys_fm st (zs_i st 635 9 (nI b)) := ys_fd.refl.fm.f (by omega)
    exact f1.trans ⟨g1.wide (by omega) (by omega), fun d _ _ => g1.e1 (by omega), fun x _ _ => by rw [g1.e1 (by omega)]⟩
  have hP0 : ym_P b H t := by
    refine ⟨⟨?_, fun i hi => ?_⟩, ?_, hb⟩
    · rw [f0.2.2 5 (by omega) (by omega)]
      exact hD.1
    · rw [f0.2.1 636 (by omega) (by omega), f0.2.1 637 (by omega) (by omega), f0.2.1 638 (by omega) (by omega), f0.2.1 639 (by omega) (by omega)]
      exact hD.2 i hi
    · rw [g1.e1 (by omega), yi_s]
  generalize hu : zs_i (zs_i (zs_i (zs_i t 635 26 0) 635 28 0) 635 29 0) 635 30 (-1) = u
  have fu : ys_fm st u := by
    rw [← hu]
    exact (((f0.f (by omega)).f (by omega)).f (by omega)).f (by omega)
  have hPu : ym_P b H u := by
    rw [← hu]
    unfold ym_P yp_D
    simp only [yi_m]
    exact hP0
  have hDu : ys_D ys_0 u := by
    rw [← hu]
    refine ⟨fun r hr => ?_, yi_s _ _ _ _, fun o k ho => absurd ho (Nat.not_lt_zero o), fun o ho => absurd ho (Nat.not_lt_zero o), ?_, fun i hi => absurd hi (Nat.not_lt_zero i), ?_⟩
    · rw [yi_r _ _ _ _ (by omega), yi_r _ _ _ _ (by omega), yi_r _ _ _ _ (by omega), yi_r _ _ _ _ (by omega), yi_r _ _ _ _ (by omega), yi_r _ _ _ _ (by omega), yi_r _ _ _ _ (by omega), yi_r _ _ _ _ (by omega)]
      exact ⟨(g2 r hr).1.trans ys_o_0.symm, (g2 r hr).2⟩
    · rw [yi_n _ _ _ (by omega), yi_n _ _ _ (by omega), yi_n _ _ _ (by omega), yi_s]; rfl
    · rw [yi_n _ _ _ (by omega), yi_n _ _ _ (by omega), yi_s]; rfl
  have h29 : u.1 635 29 = nI 0 := by
    rw [← hu, yi_n _ _ _ (by omega), yi_s]
    rfl
  refine loop_m (σ := Nat × Nat × Int32 × zs_T) (fun n s => zf_MO_run_103 K n (nI M) s.2.2.1 s.2.2.2) (fun s => (s.1 = 1 ∧ (∀ i, i < s.2.1 → ys_go H M i) ∧ ys_D (ys_it H s.2.1) s.2.2.2 ∧ (yse (ys_it H s.2.1) = -1 → s.2.2.1 = nI (ysa (ys_it H s.2.1))) ∧ s.2.2.2.1 635 29 = nI s.2.1 ∧ ys_fm st s.2.2.2 ∧ ym_P b H s.2.2.2 ∧ s.2.1 ≤ M) ∨ (s.1 = 0 ∧ ¬ s.2.2.2.1 635 30 = -1 ∧ K (s.2.2.2.1 635 30) s.2.2.2)) (fun s => if s.1 = 1 then M - s.2.1 + 1 else 0) ?_ (1, 0, 0, u) (Or.inl ⟨rfl, fun i hi => absurd hi (Nat.not_lt_zero i), hDu, fun _ => rfl, h29, fu, hPu, Nat.zero_le _⟩)
  rintro n ⟨f, j, l, t⟩ hI ih
  rcases hI with ⟨rfl, q1, q2, q3, q4, q5, q6, q7⟩ | ⟨rfl, q1, q2⟩
  · have q7' : j ≤ M := q7
    have q4' : t.1 635 29 = nI j := q4
    obtain ⟨o1, o2⟩ := ys_it_ok hok q1
    have o2' : ysa (ys_it H j) ≤ 200 := o2
    have h30 : t.1 635 30 = yse (ys_it H j) := q2.2.1
    have h5 : t.1 635 5 = nI (yn H) := q6.1.1
    have e30 : ∀ v, ys_E (ys_it H j) (zs_i t 635 30 v) := by
      intro v
      obtain ⟨z1, z2, z3, z4, z5⟩ := q2.2.2
      refine ⟨fun o k ho hk => ?_, fun o ho => ?_, ?_, fun i hi => ?_, ?_⟩
      · rw [yi_r _ _ _ _ (by omega), yi_r _ _ _ _ (by omega)]; exact z1 o k ho hk
      · rw [yi_r _ _ _ _ (by omega), yi_r _ _ _ _ (by omega)]; exact z2 o ho
      · rw [yi_n _ _ _ (by omega)]; exact z3
      · rw [yi_r _ _ _ _ (by omega)]; exact z4 i hi
      · rw [yi_n _ _ _ (by omega)]; exact z5
    show (¬ t.1 635 30 = -1 → _) ∧ (t.1 635 30 = -1 → ((l < t.1 635 5 → ((¬ t.1 635 29 = nI M → _) ∧ (t.1 635 29 = nI M → _))) ∧ (¬ l < t.1 635 5 → _)))
    rw [h30, h5, q4']
    refine And.intro (fun r1 => ?_) (fun r1 => ?_)
    · have e : ys_fe H (ys_it H j) = yse (ys_it H j) := by unfold ys_fe; rw [if_neg r1]
      have z := hK j t ⟨q1, fun z => r1 z.1⟩ q5 q2.2.2 (by rw [e]; exact h30) q4
      rw [e] at z
      exact z
    · have hl : l = nI (ysa (ys_it H j)) := q3 r1
      rw [hl]
      refine pk_lt (ysa (ys_it H j)) (yn H) (fun r2 => yi_ne j M (fun r3 => nm_e ?_) (fun r3 => nm_e ?_)) (fun r2 => nm_e ?_)
      · rw [nI_1]
        have fa : ys_fm t (zs_i t 635 29 (nI (j + 1))) := ys_fd.refl.fm.f (by omega)
        have hPa : ym_P b H (zs_i t 635 29 (nI (j + 1))) := by
          unfold ym_P yp_D
          simp only [yi_m]
          exact q6
        have hDa : ys_D (ys_it H j) (zs_i t 635 29 (nI (j + 1))) := by
          obtain ⟨y1, y2, z1, z2, z3, z4, z5⟩ := q2
          refine ⟨fun r hr => ?_, ?_, fun o k ho hk => ?_, fun o ho => ?_, ?_, fun i hi => ?_, ?_⟩
          · rw [yi_r _ _ _ _ (by omega), yi_r _ _ _ _ (by omega)]; exact y1 r hr
          · rw [yi_n _ _ _ (by omega)]; exact y2
          · rw [yi_r _ _ _ _ (by omega), yi_r _ _ _ _ (by omega)]; exact z1 o k ho hk
          · rw [yi_r _ _ _ _ (by omega), yi_r _ _ _ _ (by omega)]; exact z2 o ho
          · rw [yi_n _ _ _ (by omega)]; exact z3
          · rw [yi_r _ _ _ _ (by omega)]; exact z4 i hi
          · rw [yi_n _ _ _ (by omega)]; exact z5
        refine ys_mstep hok hPa r2 o1 hDa rfl r1 (fun r t2 f2 d2 a2 => ?_)
        refine ih (1, j + 1, r, t2) (Or.inl ⟨rfl, fun i hi => ?_, d2, a2, ?_, (q5.trans fa).trans f2.fm, ys_fm.P hPa f2, ?_⟩) ?_
        · have hi' : i < j + 1 := hi
          by_cases c : i = j
          · rw [c]; exact ⟨r1, r2, by omega⟩
          · exact q1 i (by show i < j; omega)
        · show t2.1 635 29 = nI (j + 1)
          rw [f2.2.2 29 (by omega), yi_s]
        · show j + 1 ≤ M
          omega
        · show (if 1 = 1 then M - (j + 1) + 1 else 0) < (if 1 = 1 then M - j + 1 else 0)
          rw [if_pos rfl, if_pos rfl]
          omega
      · have e : ys_fe H (ys_it H j) = 2 := by unfold ys_fe; rw [if_pos r1, if_neg (by omega)]
        have z := hK j (zs_i t 635 30 2) ⟨q1, fun z => by have := z.2.2; omega⟩ (q5.f (by omega)) (e30 2) (by rw [e, yi_s]) ((yi_n _ _ _ (by omega)).trans q4)
        rw [e] at z
        refine ih (0, j, nI (ysa (ys_it H j)), zs_i t 635 30 2) (Or.inr ⟨rfl, ?_, ?_⟩) ?_
        · show ¬ (zs_i t 635 30 2).1 635 30 = -1
          rw [yi_s]
          decide
        · show K ((zs_i t 635 30 2).1 635 30) (zs_i t 635 30 2)
          rw [yi_s]
          exact z
        · show (if 0 = 1 then M - j + 1 else 0) < (if 1 = 1 then M - j + 1 else 0)
          rw [if_neg (by omega), if_pos rfl]
          omega
      · have e : ys_fe H (ys_it H j) = 0 := by unfold ys_fe; rw [if_pos r1, if_pos r2]
        have z := hK j (zs_i t 635 30 0) ⟨q1, fun z => by have := z.2.1; omega⟩ (q5.f (by omega)) (e30 0) (by rw [e, yi_s]) ((yi_n _ _ _ (by omega)).trans q4)
        rw [e] at z
        refine ih (0, j, nI (ysa (ys_it H j)), zs_i t 635 30 0) (Or.inr ⟨rfl, ?_, ?_⟩) ?_
        · show ¬ (zs_i t 635 30 0).1 635 30 = -1
          rw [yi_s]
          decide
        · show K ((zs_i t 635 30 0).1 635 30) (zs_i t 635 30 0)
          rw [yi_s]
          exact z
        · show (if 0 = 1 then M - j + 1 else 0) < (if 1 = 1 then M - j + 1 else 0)
          rw [if_neg (by omega), if_pos rfl]
          omega
  · exact ⟨fun _ => q2, fun z => absurd z q1⟩
end YS
