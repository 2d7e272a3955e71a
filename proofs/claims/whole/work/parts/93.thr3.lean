/-! thrift, in the reference -/
def yt_Q (H : yp_G) (f : Nat → Nat) (t : zs_T) : Prop := yp_D 200 H t ∧ ∀ i, i < yn H → t.1 640 i = nI (f i)
def yt_wm (t : zs_T) (k : Nat) (e : Nat × Nat × Nat × Nat) : zs_T := zs_i (zs_i (zs_i (zs_i (zs_i t 636 (200 + k) (nI e.1)) 637 (200 + k) (nI e.2.1)) 638 (200 + k) (nI e.2.2.1)) 639 (200 + k) 0) 640 k (nI e.2.2.2)
/-- what is written down stays -/
def yt_lw (a t : zs_T) : Prop := ∀ x, 636 ≤ x → x ≤ 639 → ∀ j, j < 200 → t.1 x j = a.1 x j
def yt_ff (a t : zs_T) : Prop := zs_ag 635 650 a t ∧ (∀ x, x ≠ 9 → t.1 635 x = a.1 635 x) ∧ yt_lw a t
theorem yt_ff.trans {a b c : zs_T} (h : yt_ff a b) (h2 : yt_ff b c) : yt_ff a c := ⟨h.1.trans h2.1, fun x hx => (h2.2.1 x hx).trans (h.2.1 x hx), fun x hx hx' j hj => (h2.2.2 x hx hx' j hj).trans (h.2.2 x hx hx' j hj)⟩
theorem yt_wm_ag {a t : zs_T} {k : Nat} {e : Nat × Nat × Nat × Nat} (h : zs_ag 636 640 a t) : zs_ag 636 640 a (yt_wm t k e) :=
  ((((h.i (by omega) (by omega)).i (by omega) (by omega)).i (by omega) (by omega)).i (by omega) (by omega)).i (by omega) (by omega)
theorem yt_wm_lw {a t : zs_T} {k : Nat} {e : Nat × Nat × Nat × Nat} (h : yt_lw a t) : yt_lw a (yt_wm t k e) := by
  intro x hx hx' j hj
  have c : ¬ j = 200 + k := by omega
  have c2 : ¬ x = 640 := by omega
  unfold yt_wm
  simp only [yi_m, c, c2, and_false, false_and, if_false]
  exact h x hx hx' j hj
theorem yt_Qw {E : Nat → yt_e} {k : Nat} {H : yp_G} {f : Nat → Nat} {t : zs_T} {e : Nat × Nat × Nat × Nat} (h : yt_Q (yt_ap E k H) (yt_fa E k f) t) (he : E k = some e) : yt_Q (yt_ap E (k + 1) H) (yt_fa E (k + 1) f) (yt_wm t k e) := by
  obtain ⟨⟨h1, h2⟩, h3⟩ := h
  refine ⟨⟨?_, fun i hi => ?_⟩, fun i hi => ?_⟩
  · unfold yt_wm
    rw [yi_r _ _ _ _ (by omega), yi_r _ _ _ _ (by omega), yi_r _ _ _ _ (by omega), yi_r _ _ _ _ (by omega), yi_r _ _ _ _ (by omega)]
    exact h1
  · obtain ⟨c1, c2, c3, c4⟩ := h2 i hi
    show (yt_wm t k e).1 636 (200 + i) = nI (yt_o (decide (i < k + 1)) (E i) (fun e => e.1) (yk H i)) ∧ (yt_wm t k e).1 637 (200 + i) = nI (yt_o (decide (i < k + 1)) (E i) (fun e => e.2.1) (ya H i)) ∧ (yt_wm t k e).1 638 (200 + i) = yt_o (decide (i < k + 1)) (E i) (fun e => nI e.2.2.1) (yx H i) ∧ (yt_wm t k e).1 639 (200 + i) = nI (yt_o (decide (i < k + 1)) (E i) (fun _ => 0) (yd H i))
    by_cases c : i = k
    · subst c
      rw [yt_at _ _ he, yt_at _ _ he, yt_at _ _ he, yt_at _ _ he]
      unfold yt_wm
      simp [yi_m]
      rfl
    · have c' : ¬ 200 + i = 200 + k := by omega
      rw [yt_step _ _ (Or.inl c), yt_step _ _ (Or.inl c), yt_step _ _ (Or.inl c), yt_step _ _ (Or.inl c)]
      unfold yt_wm
      simp only [yi_m, c', and_false, if_false, show ¬ (636 = 640) by omega, show ¬ (637 = 640) by omega, show ¬ (638 = 640) by omega, show ¬ (639 = 640) by omega, false_and]
      exact ⟨c1, c2, c3, c4⟩
  · have c0 := h3 i hi
    show (yt_wm t k e).1 640 i = nI (yt_o (decide (i < k + 1)) (E i) (fun e => e.2.2.2) (f i))
    by_cases c : i = k
    · subst c
      rw [yt_at _ _ he]
      unfold yt_wm
      rw [yi_s]
    · rw [yt_step _ _ (Or.inl c)]
      unfold yt_wm
      rw [yi_n _ _ _ c, yi_r _ _ _ _ (by omega), yi_r _ _ _ _ (by omega), yi_r _ _ _ _ (by omega), yi_r _ _ _ _ (by omega)]
      exact c0
theorem yt_Qk {E : Nat → yt_e} {k : Nat} {H : yp_G} {f : Nat → Nat} {t : zs_T} (h : yt_Q (yt_ap E k H) (yt_fa E k f) t) (hk : k < yn H) : t.1 636 (200 + k) = nI (yk H k) ∧ t.1 637 (200 + k) = nI (ya H k) ∧ t.1 638 (200 + k) = yx H k := by
  obtain ⟨c1, c2, c3, c4⟩ := h.1.2 k hk
  have e1 : yk (yt_ap E k H) k = yk H k := yt_be _ _
  have e2 : ya (yt_ap E k H) k = ya H k := yt_be _ _
  have e3 : yx (yt_ap E k H) k = yx H k := yt_be _ _
  rw [e1] at c1
  rw [e2] at c2
  rw [e3] at c3
  exact ⟨c1, c2, c3⟩
theorem yi_p200 (i : Nat) : 200 + nI i = nI (200 + i) := by rw [show (200 : Int32) = nI 200 from rfl, nI_add]
section YT
variable {H : yp_G} {f : Nat → Nat} {st : zs_T}
theorem yt_Q.of {a t : zs_T} (h : yt_Q H f a) (e : ∀ d, 636 ≤ d → d ≤ 640 → t.1 d = a.1 d) (e5 : t.1 635 5 = a.1 635 5) : yt_Q H f t := by
  unfold yt_Q yp_D
  rw [e 636 (by omega) (by omega), e 637 (by omega) (by omega), e 638 (by omega) (by omega), e 639 (by omega) (by omega), e 640 (by omega) (by omega), e5]
  exact h
theorem yt_change {i : Nat} {e : Nat × Nat × Nat × Nat} {K : Int32 → zs_T → Prop} (hi : i < 200) (hK : K 1 (yt_wm st i e)) : zf_MO_change (nI i) (nI e.1) (nI e.2.1) (nI e.2.2.1) (nI e.2.2.2) st K := by
  unfold zf_MO_change
  rw [yi_p200, nI_clamp (n := 200 + i) (by omega), nI_clamp (n := i) (by omega)]
  exact ⟨vp_in_nI (by omega) (by omega), nm_e ⟨vp_in_nI (by omega) (by omega), nm_e ⟨vp_in_nI (by omega) (by omega), nm_e ⟨vp_in_nI (by omega) (by omega), nm_e ⟨vp_in_nI (by omega) (by omega), nm_e hK⟩⟩⟩⟩⟩
theorem yt_find {b : Nat} {K : zs_T → Prop} (hok : yp_ok H) (hD : yp_D b H st) (hb : b ≤ 200) (hK : ∀ t, yt_ff st t → zs_ag 641 650 (zs_i st 635 9 (nI b)) t → ym_X b H t → K t) : zf_MO_find (nI b) st K := by
  refine ym_find hok hD hb (fun t a x => hK t ⟨?_, fun y hy => ?_, fun y hy hy' j hj => ?_⟩ a x)
  · exact (zs_ag.refl.i (by omega) (by omega)).trans (a.wide (by omega) (by omega))
  · rw [a.e1 (by omega), yi_n _ _ _ hy]
  · rw [a.e1 (by omega), yi_r _ _ _ _ (by omega)]
theorem yt_forward {K : Int32 → zs_T → Prop} (hok : yp_ok H) (h : yt_Q H f st) (hK : ∀ t, yt_ff st t → yt_Q (yt_ap (yt_F H) (yn H) H) (yt_fa (yt_F H) (yn H) f) t → K (nI (yt_n (yt_F H) (yn H))) t) : zf_MO_forward st K := by
  have hn := hok.n
  unfold zf_MO_forward
  refine yt_find (b := 200) hok h.1 (by omega) (fun u fu au hX => ?_)
  have hu : yt_Q H f u := h.of (fun d _ _ => by rw [au.e1 (by omega), yi_r _ _ _ _ (by omega)]) (fu.2.1 5 (by omega))
  obtain ⟨x1, x2, x3, x4, x5, x6, x7, x8⟩ := hX
  refine pk_loop (W := fun m k (t : zs_T) => zf_MO_forward_11 K m (nI (yt_n (yt_F H) k)) (nI k) t) (fun k t => zs_ag 636 640 u t ∧ yt_lw u t ∧ yt_Q (yt_ap (yt_F H) k H) (yt_fa (yt_F H) k f) t) (yn H) 0 u (by omega) ⟨zs_ag.refl, fun _ _ _ _ _ => rfl, by rw [yt_ap_0, yt_fa_0]; exact hu⟩ ?_ ?_
  · rintro m t ⟨a, lw, hC⟩
    refine pk_le (yn H) (yn H) (fun _ => hK t (fu.trans ⟨a.wide (by omega) (by omega), fun x _ => ?_, lw⟩) hC) (fun h => by omega) hC.1.1
    rw [a.e1 (by omega)]
  · rintro m k t hk ⟨a, lw, hC⟩ ih
    obtain ⟨c1, c2, c3⟩ := yt_Qk hC hk
    have hkk := hok.k hk
    have ha2 := hok.a2 hk
    have uF := ym_Fof (a := u) (t := t) (p := k) (fun z _ _ => a.e1 (by omega))
    have hb : ym_b t k := uF.2 (x4 k (by omega))
    have hr : t.1 643 k = yq (yp_R H k) := by
      rw [a.e1 (by omega)]
      exact x3 k (by omega)
    have hF : yp_R H k → ∀ q r s, q < 3 → r < 16 → s < 16 → (ym_F t k q r s ↔ yp_F H k q r s) := by
      intro hR
      rw [uF.1]
      exact x5 k hR
    have fin0 : yt_F H k = none → zf_MO_forward_169 K (zf_MO_forward_11 K m) (nI (yt_n (yt_F H) k)) (nI k) t := by
      intro he
      unfold zf_MO_forward_169
      rw [nI_1]
      have z := ih t ⟨a, lw, by rw [yt_ap_none he, yt_fa_none he]; exact hC⟩
      rw [yt_n_none he] at z
      exact z
    have fin1 : ∀ e, yt_F H k = some e → zf_MO_forward_169 K (zf_MO_forward_11 K m) (nI (yt_n (yt_F H) k) + 1) (nI k) (yt_wm t k e) := by
      intro e he
      unfold zf_MO_forward_169
      rw [nI_1, nI_1]
      have z := ih (yt_wm t k e) ⟨yt_wm_ag a, yt_wm_lw lw, yt_Qw hC he⟩
      rw [yt_n_some he] at z
      exact z
    have iv : vp_in (nI (200 + k)) 400 := vp_in_nI (by omega) (by omega)
    have iv1 : vp_in (nI k) 201 := vp_in_nI (by omega) (by omega)
    have h121 : ¬ (yp_R H k ∧ yk H k = 9 ∧ yt_fv H k < 16) → zf_MO_forward_121 K (zf_MO_forward_11 K m) (nI (yt_n (yt_F H) k)) (nI k) (nI (ya H k)) (yx H k) t := by
      intro hno
      unfold zf_MO_forward_121
      rw [nI_clamp (n := k) (by omega), yi_p200, nI_clamp (n := 200 + k) (by omega), hr, c1]
      refine ⟨iv1, br_c (fun c => fin0 (yt_F_n hno (fun q => yq_0.mp c q.1))) (fun c => ⟨iv, yi_ne (yk H k) 10 (fun c5 => fin0 (yt_F_n hno (fun q => c5 q.2.1))) (fun c5 => ?_)⟩)⟩
      have hR := yq_n0.mp c
      have ha := hok.a hk (by omega)
      have he := hok.e hk ⟨by omega, by omega, by omega⟩
      rw [hok.x hk (by omega)]
      refine ym_held (by omega) ha he hb ?_
      rw [yq_i (hF hR 1 _ _ (by omega) ha he)]
      refine br_c (fun c6 => fin0 (yt_F_n hno (fun q => yq_0.mp c6 q.2.2))) (fun c6 => ?_)
      exact yt_change (i := k) (e := (15, 0, 0, 2)) (by omega) (fin1 _ (yt_F_s hR c5 (yq_n0.mp c6)))
    refine pk_le (yn H) k (fun h => by omega) (fun _ => ?_) hC.1.1
    rw [nI_clamp (n := k) (by omega), yi_p200, nI_clamp (n := 200 + k) (by omega), hr, c1, c2, c3]
    refine ⟨iv, iv, iv1, br_c (fun c => h121 (fun q => yq_0.mp c q.1)) (fun c => ⟨iv, yi_ne (yk H k) 9 (fun c5 => h121 (fun q => c5 q.2.1)) (fun c5 => ?_)⟩)⟩
    have hR := yq_n0.mp c
    have ha := hok.a hk (by omega)
    have he := hok.e hk ⟨by omega, by omega, by omega⟩
    have hno : ¬ (yp_R H k ∧ yk H k = 10 ∧ yp_F H k 1 (ya H k) (ye H k)) := fun q => by omega
    rw [hok.x hk (by omega)]
    refine pk_loop (W := fun m2 v (t' : zs_T) => zf_MO_forward_69 K (zf_MO_forward_11 K m) m2 (nI (yt_n (yt_F H) k)) (nI k) (nI (ya H k)) (nI (ye H k)) (nI v) t') (fun v t' => t' = t ∧ ∀ w, w < v → ¬ yp_F H k 1 (ye H k) w) 16 0 t (by omega) ⟨rfl, fun w hw => absurd hw (by omega)⟩ ?_ ?_
    · rintro m2 t' ⟨rfl, hw⟩
      refine pk_le 16 16 (fun _ => ?_) (fun h => by omega)
      refine pk_le 16 16 (fun _ => fin0 (yt_F_n (fun q => hw _ q.2.2 (yt_lv_p q.2.2)) hno)) (fun h => by omega)
    · rintro m2 v t' hv ⟨rfl, hw⟩ ih2
      refine pk_le 16 v (fun h => by omega) (fun _ => ?_)
      refine ym_held (by omega) he hv hb ?_
      rw [yq_i (hF hR 1 _ _ (by omega) he hv)]
      refine And.intro (fun c6 => ?_) (fun c6 => ?_)
      · have hv2 : yt_fv H k = v := yt_lv_eq hv (yq_n0.mp c6) hw
        have hl := yt_F_l hR c5 (by omega)
        rw [hv2] at hl
        refine pk_le 16 v (fun h => by omega) (fun _ => ?_)
        exact yt_change (i := k) (e := (1, ya H k, v, 1)) (by omega) (fin1 _ hl)
      · rw [nI_1]
        refine ih2 _ ⟨rfl, fun w hw' => ?_⟩
        by_cases c7 : w = v
        · rw [c7]; exact yq_0.mp c6
        · exact hw w (by omega)
theorem yt_mdead {K : Int32 → zs_T → Prop} (hok : yp_ok H) (h : yt_Q H f st) (hK : ∀ t, yt_ff st t → yt_Q (yt_ap (yt_D H) (yn H) H) (yt_fa (yt_D H) (yn H) f) t → K (nI (yt_n (yt_D H) (yn H))) t) : zf_MO_dead st K := by
  have hn := hok.n
  unfold zf_MO_dead
  refine yt_find (b := 200) hok h.1 (by omega) (fun u fu au hX => ?_)
  have hu : yt_Q H f u := h.of (fun d _ _ => by rw [au.e1 (by omega), yi_r _ _ _ _ (by omega)]) (fu.2.1 5 (by omega))
  obtain ⟨x1, x2, x3, x4, x5, x6, x7, x8⟩ := hX
  refine pk_loop (W := fun m k (t : zs_T) => zf_MO_dead_11 K m (nI (yt_n (yt_D H) k)) (nI k) t) (fun k t => zs_ag 636 640 u t ∧ yt_lw u t ∧ yt_Q (yt_ap (yt_D H) k H) (yt_fa (yt_D H) k f) t) (yn H) 0 u (by omega) ⟨zs_ag.refl, fun _ _ _ _ _ => rfl, by rw [yt_ap_0, yt_fa_0]; exact hu⟩ ?_ ?_
  · rintro m t ⟨a, lw, hC⟩
    refine pk_le (yn H) (yn H) (fun _ => hK t (fu.trans ⟨a.wide (by omega) (by omega), fun x _ => ?_, lw⟩) hC) (fun h => by omega) hC.1.1
    rw [a.e1 (by omega)]
  · rintro m k t hk ⟨a, lw, hC⟩ ih
    obtain ⟨c1, c2, c3⟩ := yt_Qk hC hk
    have hkk := hok.k hk
    have ha2 := hok.a2 hk
    have uF := ym_Fof (a := u) (t := t) (p := k) (fun z _ _ => a.e1 (by omega))
    have hb : ym_b t k := uF.2 (x4 k (by omega))
    have hr : t.1 643 k = yq (yp_R H k) := by
      rw [a.e1 (by omega)]
      exact x3 k (by omega)
    have fin0 : ¬ (yp_R H k ∧ yk H k = 10 ∧ yp_F H k 2 (ya H k) 0 ∧ yp_fr H k (ya H k)) → zf_MO_dead_95 K (zf_MO_dead_11 K m) (nI (yt_n (yt_D H) k)) (nI k) t := by
      intro hno
      have he := yt_D_n hno
      unfold zf_MO_dead_95
      rw [nI_1]
      have z := ih t ⟨a, lw, by rw [yt_ap_none he, yt_fa_none he]; exact hC⟩
      rw [yt_n_none he] at z
      exact z
    have iv : vp_in (nI (200 + k)) 400 := vp_in_nI (by omega) (by omega)
    have iv1 : vp_in (nI k) 201 := vp_in_nI (by omega) (by omega)
    refine pk_le (yn H) k (fun h => by omega) (fun _ => ?_) hC.1.1
    rw [nI_clamp (n := k) (by omega), yi_p200, nI_clamp (n := 200 + k) (by omega), hr, c1, c2]
    refine ⟨iv, iv1, br_c (fun c => fin0 (fun q => yq_0.mp c q.1)) (fun c => ⟨iv, yi_ne (yk H k) 10 (fun c5 => fin0 (fun q => c5 q.2.1)) (fun c5 => ?_)⟩)⟩
    have hR := yq_n0.mp c
    have ha := hok.a hk (by omega)
    have hs := x5 k hR 2 (ya H k) 0 (by omega) ha (by omega)
    rw [← uF.1, ym_F2 ha (by omega)] at hs
    have hfr : ¬ t.1 647 (16 * k + ya H k) = 0 ↔ yp_fr H k (ya H k) := by
      rw [a.e1 (by omega)]
      exact x8 k (ya H k) (by omega) ha
    rw [yi_16, nI_clamp (n := 16 * k + ya H k) (by omega)]
    refine ⟨vp_in_nI (by omega) (by omega), br_c (fun c6 => fin0 (fun q => hs.mpr q.2.2.1 c6)) (fun c6 => ⟨vp_in_nI (by omega) (by omega), br_c (fun c7 => fin0 (fun q => hfr.mpr q.2.2.2 c7)) (fun c7 => ?_)⟩)⟩
    have he := yt_D_s ⟨hR, c5, hs.mp c6, hfr.mp c7⟩
    refine yt_change (i := k) (e := (15, 0, 0, 3)) (by omega) ?_
    unfold zf_MO_dead_95
    rw [nI_1, nI_1]
    have z := ih (yt_wm t k (15, 0, 0, 3)) ⟨yt_wm_ag a, yt_wm_lw lw, yt_Qw hC he⟩
    rw [yt_n_some he] at z
    exact z
end YT
section YT
variable {G : yp_G} {b : Nat} {st : zs_T}
theorem ym_Xof {a t : zs_T} (h : ym_X b G a) (e : ∀ d, 636 ≤ d → d ≤ 647 → t.1 d = a.1 d) (e5 : t.1 635 5 = a.1 635 5) (e9 : t.1 635 9 = a.1 635 9) : ym_X b G t := by
  obtain ⟨x1, x2, x3, x4, x5, x6, x7, x8⟩ := h
  have u : ∀ p, ym_F t p = ym_F a p ∧ (ym_b a p → ym_b t p) := fun p => ym_Fof (fun x _ _ => e x (by omega) (by omega))
  refine ⟨?_, ym_Sof x2 (fun x _ _ => e x (by omega) (by omega)), ?_, fun p hp => (u p).2 (x4 p hp), fun p hR => ?_, fun p q r s hp => ?_, ?_, ?_⟩
  · unfold ym_P yp_D
    rw [e 636 (by omega) (by omega), e 637 (by omega) (by omega), e 638 (by omega) (by omega), e 639 (by omega) (by omega), e5, e9]
    exact x1
  · rw [e 643 (by omega) (by omega)]
    exact x3
  · rw [(u p).1]
    exact x5 p hR
  · rw [(u p).1]
    exact x6 p q r s hp
  · unfold ym_fz
    rw [e 647 (by omega) (by omega)]
    exact x7
  · unfold ym_f
    rw [e 647 (by omega) (by omega)]
    exact x8
def yt_I (G : yp_G) (st : zs_T) (j : Nat) (t : zs_T) : Prop := zs_ag 635 650 st t ∧ (∀ x, x ≠ 0 → x ≠ 7 → x ≠ 9 → t.1 635 x = st.1 635 x) ∧ t.1 635 0 = 0 ∧ yt_lw st t ∧ t.1 635 7 = nI j ∧ yt_Q (yt_s G j).1 (yt_s G j).2 t ∧ ∀ j', j' + 1 < j → yt_c (yt_s G j') ≠ 0
theorem yp_D.lw {a t : zs_T} (hn : yn G ≤ 200) (h : yp_D 0 G a) (e : yt_lw a t) (e5 : t.1 635 5 = a.1 635 5) : yp_D 0 G t := by
  refine ⟨e5.trans h.1, fun i hi => ?_⟩
  rw [e 636 (by omega) (by omega) _ (by omega), e 637 (by omega) (by omega) _ (by omega), e 638 (by omega) (by omega) _ (by omega), e 639 (by omega) (by omega) _ (by omega)]
  exact h.2 i hi
theorem yt_mloop {K : Int32 → zs_T → Prop} {u : zs_T} (hok : yp_ok G) (hD : yp_D 0 G st) (h0 : yt_I G st 0 u) (hK : ∀ m t, yt_M G m → zs_ag 635 650 st t → (∀ x, x ≠ 0 → x ≠ 6 → x ≠ 7 → x ≠ 9 → t.1 635 x = st.1 635 x) → t.1 635 0 = 0 → yt_lw st t → t.1 635 6 = 1 → t.1 635 7 = nI m → yt_Q (yt_s G m).1 (yt_s G m).2 t → ym_X 0 G t → K (nI (yt_tot G m)) t) : ∃ n, zf_MO_thrift_121 K n 0 1 u := by
  have hn := hok.n
  refine loop_m (σ := Nat × zs_T) (fun n s => zf_MO_thrift_121 K n (nI (yt_tot G s.1)) (yt_la 1 G s.1) s.2) (fun s => yt_I G st s.1 s.2) (fun s => 300 - s.1) ?_ (0, u) h0
  rintro n ⟨j, t⟩ ⟨g1, g2, g3, g4, g5, g6, g7⟩ ih
  have hj : j ≤ 201 := yt_j_le hok g7
  have g2' : t.1 635 5 = st.1 635 5 := g2 5 (by omega) (by omega) (by omega)
  have hz : (yt_la 1 G j ≤ 0 ↔ yt_la 1 G j = 0) := by
    by_cases c : j = 0
    · rw [show yt_la 1 G j = 1 by unfold yt_la; rw [if_pos c]]
      exact ⟨fun h => absurd h (by decide), fun h => absurd h (by decide)⟩
    · have hc := yt_c_le hok (j - 1)
      rw [show yt_la 1 G j = nI (yt_c (yt_s G (j - 1))) by unfold yt_la; rw [if_neg c]]
      rw [show (0 : Int32) = nI 0 from rfl, nI_leI (by omega) (by omega), nI_eq (by omega) (by omega)]
      omega
  refine br_c (fun c => ?_) (fun c => ?_)
  · have c1 := (yt_la_0 hok (by decide)).mp (hz.mp c)
    refine yt_find (b := 0) hok (hD.lw hn g4 g2') (by omega) (fun t2 f2 a2 x2 => nm_e (hK j _ ⟨c1.1, c1.2, g7⟩ ?_ (fun x z1 z2 z3 z4 => ?_) ?_ ?_ (yi_s _ _ _ _) ?_ ?_ ?_))
    · exact (g1.trans f2.1).i (by omega) (by omega)
    · rw [yi_n _ _ _ z2, f2.2.1 x z4]
      exact g2 x z1 z3 z4
    · rw [yi_n _ _ _ (by omega), f2.2.1 0 (by omega)]
      exact g3
    · intro x hx hx' i hi
      rw [yi_r _ _ _ _ (by omega), f2.2.2 x hx hx' i hi]
      exact g4 x hx hx' i hi
    · rw [yi_n _ _ _ (by omega), f2.2.1 7 (by omega)]
      exact g5
    · refine yt_Q.of g6 (fun d _ _ => ?_) ?_
      · rw [yi_r _ _ _ _ (by omega), a2.e1 (by omega), yi_r _ _ _ _ (by omega)]
      · rw [yi_n _ _ _ (by omega), f2.2.1 5 (by omega)]
    · exact ym_Xof x2 (fun d _ _ => yi_r _ _ _ _ (by omega)) (yi_n _ _ _ (by omega)) (yi_n _ _ _ (by omega))
  · have g8 : ∀ j', j' + 1 < j + 1 → yt_c (yt_s G j') ≠ 0 := by
      intro j' h
      by_cases c2 : j' + 1 = j
      · intro z
        refine c (hz.mpr ((yt_la_0 hok (by decide)).mpr ⟨by omega, ?_⟩))
        rw [show j - 1 = j' by omega]
        exact z
      · exact g7 j' (by omega)
    refine yt_forward (yt_s_ok hok j).1 g6 (fun t3 f3 h3 => ?_)
    refine yt_mdead (yt_1_ok (yt_s_ok hok j).1).1 h3 (fun t4 f4 h4 => nm_e ?_)
    have f34 := f3.trans f4
    rw [nI_add, nI_add, f34.2.1 7 (by omega), g5, nI_1]
    have z := ih (j + 1, zs_i t4 635 7 (nI (j + 1))) ⟨(g1.trans f34.1).i (by omega) (by omega), fun x z1 z3 z4 => ?_, ?_, ?_, yi_s _ _ _ _, ?_, g8⟩ (by show 300 - (j + 1) < 300 - j; omega)
    · rw [show yt_la 1 G (j + 1, zs_i t4 635 7 (nI (j + 1))).1 = nI (yt_c (yt_s G j)) from yt_la_s _ _ _] at z
      exact z
    · show (zs_i t4 635 7 (nI (j + 1))).1 635 x = _
      rw [yi_n _ _ _ z3, f34.2.1 x z4]
      exact g2 x z1 z3 z4
    · show (zs_i t4 635 7 (nI (j + 1))).1 635 0 = _
      rw [yi_n _ _ _ (by omega), f34.2.1 0 (by omega)]
      exact g3
    · intro x hx hx' i hi
      show (zs_i t4 635 7 (nI (j + 1))).1 x i = _
      rw [yi_r _ _ _ _ (by omega), f34.2.2 x hx hx' i hi]
      exact g4 x hx hx' i hi
    · exact yt_Q.of h4 (fun d _ _ => yi_r _ _ _ _ (by omega)) (yi_n _ _ _ (by omega))
theorem yt_mthrift {K : Int32 → zs_T → Prop} (hok : yp_ok G) (hD : yp_D 0 G st) (hm : st.1 635 6 = 0) (hK : ∀ m t, yt_M G m → zs_ag 635 650 st t → (∀ x, x ≠ 0 → x ≠ 6 → x ≠ 7 → x ≠ 9 → t.1 635 x = st.1 635 x) → t.1 635 0 = 0 → yt_lw st t → t.1 635 6 = 1 → t.1 635 7 = nI m → yt_Q (yt_s G m).1 (yt_s G m).2 t → ym_X 0 G t → K (nI (yt_tot G m)) t) : zf_MO_thrift st K := by
  have hn := hok.n
  refine ⟨fun _ => nm_e ?_, fun h => absurd hm h⟩
  rw [yi_s]
  refine ⟨fun _ => ?_, fun h => absurd (by decide) h⟩
  refine pk_loop (W := fun m k (t : zs_T) => zf_MO_thrift_27 K m (nI k) t) (fun k t => zs_ag 635 640 st t ∧ (∀ x, x ≠ 0 → t.1 635 x = st.1 635 x) ∧ t.1 635 0 = 0 ∧ yt_lw st t ∧ ∀ i, i < k → t.1 636 (200 + i) = nI (yk G i) ∧ t.1 637 (200 + i) = nI (ya G i) ∧ t.1 638 (200 + i) = yx G i ∧ t.1 639 (200 + i) = nI (yd G i) ∧ t.1 640 i = 0) (yn G) 0 (zs_i st 635 0 0) (by omega) ⟨zs_ag.refl.i (by omega) (by omega), fun x hx => yi_n _ _ _ hx, yi_s _ _ _ _, fun x _ _ j _ => by rw [yi_r _ _ _ _ (by omega)], fun i h => absurd h (by omega)⟩ ?_ ?_
  · rintro m t ⟨g1, g2, g3, g4, g5⟩
    refine pk_le (yn G) (yn G) (fun _ => nm_e ?_) (fun h => by omega) ((g2 5 (by omega)).trans hD.1)
    refine yt_mloop hok hD ⟨(g1.wide (by omega) (by omega)).i (by omega) (by omega), fun x z1 z3 z4 => ?_, ?_, fun x hx hx' j hj => ?_, yi_s _ _ _ _, ⟨⟨?_, fun i hi => ?_⟩, fun i hi => ?_⟩, fun j' h => absurd h (by omega)⟩ hK
    · rw [yi_n _ _ _ z3]
      exact g2 x z1
    · rw [yi_n _ _ _ (by omega)]
      exact g3
    · rw [yi_r _ _ _ _ (by omega)]
      exact g4 x hx hx' j hj
    · rw [yi_n _ _ _ (by omega), g2 5 (by omega)]
      exact hD.1
    · rw [yi_r _ _ _ _ (by omega), yi_r _ _ _ _ (by omega), yi_r _ _ _ _ (by omega), yi_r _ _ _ _ (by omega)]
      obtain ⟨c1, c2, c3, c4, c5⟩ := g5 i hi
      exact ⟨c1, c2, c3, c4⟩
    · rw [yi_r _ _ _ _ (by omega)]
      exact (g5 i hi).2.2.2.2
  · rintro m k t hk ⟨g1, g2, g3, g4, g5⟩ ih
    refine pk_le (yn G) k (fun h => by omega) (fun _ => ?_) ((g2 5 (by omega)).trans hD.1)
    rw [nI_clamp (n := k) (by omega), yi_p200, nI_clamp (n := 200 + k) (by omega), nI_1]
    have i1 : vp_in (nI k) 400 := vp_in_nI (by omega) (by omega)
    have i2 : vp_in (nI (200 + k)) 400 := vp_in_nI (by omega) (by omega)
    have i3 : vp_in (nI k) 200 := vp_in_nI (by omega) (by omega)
    obtain ⟨c1, c2, c3, c4⟩ := hD.2 k hk
    rw [Nat.zero_add] at c1 c2 c3 c4
    refine ⟨i1, i2, nm_e ⟨i1, i2, nm_e ⟨i1, i2, nm_e ⟨i1, i2, nm_e ⟨i3, nm_e (ih _ ⟨?_, fun x hx => ?_, ?_, fun x hx hx' j hj => ?_, fun i hi => ?_⟩)⟩⟩⟩⟩⟩
    · exact ((((g1.i (by omega) (by omega)).i (by omega) (by omega)).i (by omega) (by omega)).i (by omega) (by omega)).i (by omega) (by omega)
    · rw [yi_r _ _ _ _ (by omega), yi_r _ _ _ _ (by omega), yi_r _ _ _ _ (by omega), yi_r _ _ _ _ (by omega), yi_r _ _ _ _ (by omega)]
      exact g2 x hx
    · rw [yi_r _ _ _ _ (by omega), yi_r _ _ _ _ (by omega), yi_r _ _ _ _ (by omega), yi_r _ _ _ _ (by omega), yi_r _ _ _ _ (by omega)]
      exact g3
    · have z1 : ¬ j = 200 + k := by omega
      have z2 : ¬ x = 640 := by omega
      simp only [yi_m, z1, z2, and_false, false_and, if_false]
      exact g4 x hx hx' j hj
    · by_cases c : i = k
      · subst c
        have z1 : ¬ i = 200 + i := by omega
        simp [yi_m]
        rw [g4 636 (by omega) (by omega) i (by omega), g4 637 (by omega) (by omega) i (by omega), g4 638 (by omega) (by omega) i (by omega), g4 639 (by omega) (by omega) i (by omega)]
        exact ⟨c1, c2, c3, c4⟩
      · have z1 : ¬ 200 + i = 200 + k := by omega
        obtain ⟨d1, d2, d3, d4, d5⟩ := g5 i (by omega)
        refine ⟨?_, ?_, ?_, ?_, ?_⟩
        · rw [yi_r _ 640 _ _ (by omega : 636 ≠ 640), yi_r _ 639 _ _ (by omega : 636 ≠ 639), yi_r _ 638 _ _ (by omega : 636 ≠ 638), yi_r _ 637 _ _ (by omega : 636 ≠ 637), yi_n _ _ _ z1]
          exact d1
        · rw [yi_r _ 640 _ _ (by omega : 637 ≠ 640), yi_r _ 639 _ _ (by omega : 637 ≠ 639), yi_r _ 638 _ _ (by omega : 637 ≠ 638), yi_n _ _ _ z1, yi_r _ 636 _ _ (by omega : 637 ≠ 636)]
          exact d2
        · rw [yi_r _ 640 _ _ (by omega : 638 ≠ 640), yi_r _ 639 _ _ (by omega : 638 ≠ 639), yi_n _ _ _ z1, yi_r _ 637 _ _ (by omega : 638 ≠ 637), yi_r _ 636 _ _ (by omega : 638 ≠ 636)]
          exact d3
        · rw [yi_r _ 640 _ _ (by omega : 639 ≠ 640), yi_n _ _ _ z1, yi_r _ 638 _ _ (by omega : 639 ≠ 638), yi_r _ 637 _ _ (by omega : 639 ≠ 637), yi_r _ 636 _ _ (by omega : 639 ≠ 636)]
          exact d4
        · rw [yi_n _ _ _ c, yi_r _ 639 _ _ (by omega : 640 ≠ 639), yi_r _ 638 _ _ (by omega : 640 ≠ 638), yi_r _ 637 _ _ (by omega : 640 ≠ 637), yi_r _ 636 _ _ (by omega : 640 ≠ 636)]
          exact d5
end YT
