/-! the calls: run, thrift -/
section YQ
variable {G : yp_G} {st : zs_T} {B : zs_T → Prop} {K : Int32 → zs_T → Prop}
theorem yx_run {H : yp_G} {M : Nat} {d b : Nat} {X : Int32 → zs_T → Prop} (h : yL0 G st) (hH : yp_ok H) (hC : yp_C d H st) (hd : d + 4 < 629) (hM : M ≤ 5000) (hD : yp_D b H st) (hb : b ≤ 200) (hX : ∀ v t, (∀ K' : Int32 → zs_T → Prop, (∀ u', yL u' → u'.1 635 0 = 0 → u'.2 658 0 = v.toInt64 → K' v u') → zf_MO_run_57 K' (nI M) (nI b) (zs_i (zs_l t 658 0 v.toInt64) 635 0 0)) → t.1 635 6 = st.1 635 6 → X v t) : zf_MA_perform d (nI M) st X := by
  have hok := h.1
  have hn := hok.n
  refine ys_perform hH hC hd hM (fun J t hJ a hQ h6 h10 => hX _ t (fun K' hK' => ?_) (by rw [a.e1 (by omega)]))
  have hD' : yp_D b H (zs_i (zs_l t 658 0 (ys_fe H (ys_it H J)).toInt64) 635 0 0) := by
    refine hD.of ?_ (fun x _ _ => ?_)
    · rw [yi_n _ _ _ (by omega)]
      show t.1 635 5 = _
      rw [a.e1 (by omega)]
    · rw [yi_r _ _ _ _ (by omega)]
      exact a.e1 (by omega)
  refine ys_mrun hH hD' hb hM (fun J' u hJ' f hE h30 h29 => ?_)
  have e := ys_J_u hJ hJ'
  subst e
  refine hK' u ⟨G, ?_⟩ ?_ ?_
  · have c1 : ∀ d', d' < 629 → u.1 d' = st.1 d' := by
      intro d' hd'
      rw [f.1.e1 (by omega), yi_r _ _ _ _ (by omega)]
      exact a.e1 (by omega)
    have c2 : ∀ d', d' < 629 → u.2 d' = st.2 d' := by
      intro d' hd'
      rw [f.1.e2 (by omega)]
      show (zs_l t 658 0 _).2 d' = _
      rw [yl_r _ _ _ _ (by omega)]
      exact a.e2 (by omega)
    have c3 : ∀ d', 636 ≤ d' → d' ≤ 650 → u.1 d' = st.1 d' := by
      intro d' h1 h2
      rw [f.2.1 d' h1 h2, yi_r _ _ _ _ (by omega)]
      exact a.e1 (by omega)
    have c4 : ∀ x, x < 26 → x ≠ 9 → x ≠ 0 → u.1 635 x = st.1 635 x := by
      intro x h1 h2 h3
      rw [f.2.2 x h1 h2, yi_n _ _ _ h3]
      show t.1 635 x = _
      rw [a.e1 (by omega)]
    refine ⟨hok, h.2.1.off (fun x _ _ => c1 x (by omega)), h.2.2.1.of (c4 5 (by omega) (by omega) (by omega)) (fun x _ _ => c3 x (by omega) (by omega)), ?_, fun q => ?_, ⟨ys_it H J, (ys_it_ok hH hJ.1).1, ?_, hE, ?_, ?_⟩⟩
    · rw [c4 6 (by omega) (by omega) (by omega), c1 0 (by omega)]
      exact h.2.2.2.1
    · rw [c1 0 (by omega)] at q
      exact (h.2.2.2.2.1 q).of hn (by rw [c1 0 (by omega)]) (fun d' _ _ => c1 d' (by omega)) (fun d' _ _ => c2 d' (by omega)) (c4 5 (by omega) (by omega) (by omega)) (c4 7 (by omega) (by omega) (by omega)) (fun d' _ _ => c3 d' (by omega) (by omega))
    · refine hQ.of (fun d' _ _ => ?_) (fun d' _ _ => ?_)
      · rw [f.1.e1 (by omega), yi_r _ _ _ _ (by omega)]
        rfl
      · rw [f.1.e2 (by omega)]
        show (zs_l t 658 0 _).2 d' = _
        rw [yl_r _ _ _ _ (by omega)]
    · rw [h30, f.1.e1 (by omega), yi_r _ _ _ _ (by omega)]
      exact h6.symm
    · rw [h29, f.1.e1 (by omega), yi_r _ _ _ _ (by omega)]
      exact h10.symm
  · rw [f.2.2 0 (by omega) (by omega), yi_s]
  · rw [f.1.e2 (by omega), yi_2, yl_m, if_pos ⟨rfl, rfl⟩]
theorem yq_run {l1 l2 : Int32} (h : yL0 G st) (hK : ∀ c u, yM (fun K' => zf_MO_run l1 l2 u K') c → K c u) : zf_LA_run l1 l2 st K := by
  have hok := h.1
  have hn := hok.n
  have hC := h.2.1
  have hD := h.2.2.1
  have h6 : st.1 635 6 = st.1 0 7 := h.2.2.2.1
  by_cases q : ¬ l2 < 1 ∧ ¬ 5000 < l2
  · have q0 : ¬ l2 < 0 := by
      intro z
      refine q.1 ?_
      rw [Int32.lt_iff_toInt_lt] at z ⊢
      have h0 : (0 : Int32).toInt = 0 := by decide
      have h1 : (1 : Int32).toInt = 1 := by decide
      omega
    obtain ⟨M, hM, e2⟩ := nI_of q0
    have hM5 : M ≤ 5000 := by
      have z := q.2
      rw [e2, show (5000 : Int32) = nI 5000 from rfl, nI_ltI (by omega) hM] at z
      omega
    have q5 : l2 ≤ 5000 := by
      rw [e2, show (5000 : Int32) = nI 5000 from rfl, nI_leI hM (by omega)]
      exact hM5
    by_cases q3 : l1 = 0 ∧ st.1 0 7 = 0
    · refine Or.inr ⟨fun z => absurd z q.1, fun _ => ⟨fun z => absurd z q.2, fun _ => Or.inl ⟨fun _ => Or.inr ⟨fun z => absurd q3.1 z, fun _ => ⟨fun z => absurd q3.2 z, fun _ => Or.inr ⟨rfl, ?_⟩⟩⟩, fun z => absurd z (by decide)⟩⟩⟩
      refine hK 2 st (fun K' hK' => ⟨fun z => absurd z q.1, fun _ => ⟨fun _ => ⟨fun z => absurd q3.1 z, fun _ => ⟨fun z => absurd (h6.trans q3.2) z, fun _ => nm_e ?_⟩⟩, fun z => absurd q5 z⟩⟩)
      rw [yi_s]
      exact ⟨fun z => absurd z (by decide), fun _ => hK' 0 _ ⟨G, h.r 2⟩ (yi_s _ _ _ _) (fun z => absurd z (by decide))⟩
    · have hmthr : ∀ (u : zs_T) (K' : Int32 → zs_T → Prop), u.1 635 6 = st.1 0 7 → ((l1 = 0 → zf_MO_run_57 K' l2 200 (zs_i u 635 0 0)) ∧ (¬ l1 = 0 → zf_MO_run_57 K' l2 0 (zs_i u 635 0 0))) → zf_MO_run l1 l2 u K' := by
        intro u K' e z
        have z32 : zf_MO_run_32 K' l1 l2 u := by
          refine nm_e ?_
          rw [yi_s]
          exact ⟨fun _ => z, fun z => absurd (by decide) z⟩
        exact ⟨fun z => absurd z q.1, fun _ => ⟨fun _ => ⟨fun _ => z32, fun z3 => ⟨fun _ => z32, fun z4 => absurd ⟨z3, e ▸ z4⟩ q3⟩⟩, fun z => absurd q5 z⟩⟩
      refine Or.inl ⟨fun z => absurd z q.1, fun _ => ⟨fun z => absurd z q.2, fun _ => ⟨fun _ => ⟨fun z1 => ?_, fun z1 => ⟨fun z2 => ?_, fun z2 => absurd ⟨z1, z2⟩ q3⟩⟩, fun z => absurd z (by decide)⟩⟩⟩
      · refine ⟨fun z => absurd z z1, fun _ => ?_⟩
        show zf_MA_perform 1 l2 st _
        rw [e2]
        refine yx_run (b := 0) h hok hC (by omega) hM5 hD (by omega) (fun v t hv ht => ⟨yx_01, nm_e ?_⟩)
        rw [yx_cl0]
        refine hK 0 _ (fun K' hK' => hmthr _ K' (ht.trans h6) ⟨fun z => absurd z z1, fun _ => ?_⟩)
        rw [e2]
        exact hv K' (fun u' y1 y2 y3 => hK' v u' y1 y2 (fun _ => y3))
      · obtain ⟨H, f, m, g1, g2, g3, g4, g5⟩ := h.2.2.2.2.1 z2
        refine ⟨fun _ => ?_, fun z => absurd z1 z⟩
        show zf_MA_perform 6 l2 st _
        rw [e2]
        refine yx_run (b := 200) h g1 g3.1 (by omega) hM5 g4.1 (by omega) (fun v t hv ht => ⟨yx_01, nm_e ?_⟩)
        rw [yx_cl0]
        refine hK 0 _ (fun K' hK' => hmthr _ K' (ht.trans h6) ⟨fun _ => ?_, fun z => absurd z1 z⟩)
        rw [e2]
        exact hv K' (fun u' y1 y2 y3 => hK' v u' y1 y2 (fun _ => y3))
  · have fin1 : K 1 st := by
      refine hK 1 st (fun K' hK' => ?_)
      have z13 : zf_MO_run_13 K' l1 l2 st := by
        refine nm_e ?_
        rw [yi_s]
        exact ⟨fun z => absurd z (by decide), fun _ => hK' 0 _ ⟨G, h.r 1⟩ (yi_s _ _ _ _) (fun z => absurd z (by decide))⟩
      refine ⟨fun _ => z13, fun z => ⟨fun z2 => absurd ⟨z, fun z3 => ?_⟩ q, fun _ => z13⟩⟩
      rw [Int32.lt_iff_toInt_lt] at z3
      rw [Int32.le_iff_toInt_le] at z2
      omega
    have z16 : zg_TS_run_16 (fun E u => (E = "java/lang/IllegalArgumentException" ∧ K 1 u) ∨ (E = "java/lang/IllegalStateException" ∧ K 2 u)) l1 l2 st := Or.inr ⟨fun z => absurd rfl z, fun _ => Or.inl ⟨rfl, fin1⟩⟩
    exact Or.inr ⟨fun _ => z16, fun z => ⟨fun _ => z16, fun z2 => absurd ⟨z, z2⟩ q⟩⟩
theorem yq_thrift (h : yL0 G st) (hK : ∀ c u, yM (fun K' => zf_MO_thrift u K') c → K c u) : zf_LA_thrift st K := by
  have hok := h.1
  have hn := hok.n
  have hC := h.2.1
  have hD := h.2.2.1
  have h6 : st.1 635 6 = st.1 0 7 := h.2.2.2.1
  by_cases q : st.1 0 7 = 0
  · refine Or.inl (yt_thrift hok hC q (fun m t hm a c0 c1 t7 t8 tC tX => ⟨yx_01, nm_e ?_⟩))
    rw [yx_cl0]
    refine hK 0 _ (fun K' hK' => ?_)
    have hD' : yp_D 0 G (zs_l t 658 0 (nI (yt_tot G m)).toInt64) := by
      refine hD.of ?_ (fun x _ _ => a.e1 (by omega))
      show t.1 635 5 = _
      rw [a.e1 (by omega)]
    have hm0 : (zs_l t 658 0 (nI (yt_tot G m)).toInt64).1 635 6 = 0 := by
      show t.1 635 6 = 0
      rw [a.e1 (by omega), h6]
      exact q
    refine yt_mthrift hok hD' hm0 (fun m' u hm' au b0 b1 blw b6 b7 bQ bX => ?_)
    have e := yt_M_u hm hm'
    subst e
    refine hK' _ u ⟨G, ?_⟩ b1 (fun _ => ?_)
    · have d1 : ∀ d, d < 635 → u.1 d = t.1 d := fun d hd => au.e1 (by omega)
      have d2 : ∀ d, d < 635 → u.2 d = t.2 d := by
        intro d hd
        rw [au.e2 (by omega)]
        exact yl_r _ _ _ _ (by omega)
      have lwt : yt_lw st u := by
        intro x hx hx' j hj
        rw [blw x hx hx' j hj]
        show t.1 x j = _
        rw [a.e1 (by omega)]
      have u5 : u.1 635 5 = st.1 635 5 := by
        rw [b0 5 (by omega) (by omega) (by omega) (by omega)]
        show t.1 635 5 = _
        rw [a.e1 (by omega)]
      refine ⟨hok, hC.off (fun x _ _ => (d1 x (by omega)).trans (c1 x (by omega) (by omega))), hD.lw hn lwt u5, ?_, fun _ => ⟨(yt_s G m).1, (yt_s G m).2, m, (yt_s_ok hok m).1, (yt_s_ok hok m).2, tC.of (fun d _ _ => d1 d (by omega)), bQ, ?_, ?_, b7, ?_, ?_⟩, ?_⟩
      · rw [b6, d1 0 (by omega), t7]
      · have := yt_j_le hok hm.2.2
        omega
      · rw [d1 0 (by omega)]
        exact t8
      · exact yc_Xof tX (fun d _ _ => d1 d (by omega)) (fun d _ _ => d2 d (by omega)) hn
      · exact bX.2
      · refine h.2.2.2.2.2.of (fun d _ _ => ?_) (fun d _ _ => ?_) (fun d _ _ => ?_) (fun x _ => ?_)
        · rw [d1 d (by omega)]; exact a.e1 (by omega)
        · rw [d2 d (by omega)]; exact a.e2 (by omega)
        · rw [au.e1 (by omega)]; exact a.e1 (by omega)
        · rw [b0 x (by omega) (by omega) (by omega) (by omega)]
          show t.1 635 x = _
          rw [a.e1 (by omega)]
    · rw [au.e2 (by omega), yl_m, if_pos ⟨rfl, rfl⟩]
  · refine Or.inr ⟨fun z => absurd z q, fun _ => ⟨rfl, ?_⟩⟩
    refine hK 1 st (fun K' hK' => ⟨fun z => absurd (h6 ▸ z) q, fun _ => nm_e ?_⟩)
    rw [yi_s]
    exact ⟨fun z => absurd z (by decide), fun _ => hK' 0 _ ⟨G, h.r 1⟩ (yi_s _ _ _ _) (fun z => absurd z (by decide))⟩
end YQ
