/-! thrift, in the class: the rounds -/
theorem yc_Xof {G : yp_G} {a t : zs_T} (h : yc_X G a) (e1 : ∀ d, 12 ≤ d → d ≤ 628 → t.1 d = a.1 d) (e2 : ∀ d, 12 ≤ d → d ≤ 628 → t.2 d = a.2 d) (hn : yn G ≤ 200) : yc_X G t := by
  obtain ⟨h1, h2, h3⟩ := h
  refine ⟨?_, ⟨fun p hp => ?_, fun p hR => ?_⟩, ?_⟩
  · unfold yc_A yc_M yc_I yc_b
    unfold yc_A yc_M yc_I yc_b at h1
    rw [e1 16 (by omega) (by omega), e1 12 (by omega) (by omega), e2 13 (by omega) (by omega), e2 14 (by omega) (by omega)]
    exact h1
  · unfold yR
    rw [e1 19 (by omega) (by omega)]
    exact h2.1 p hp
  · have hp := yp_R_le hR
    obtain ⟨q1, q2, q3⟩ := h2.2 p hR
    unfold yk_ok yk_sy yk_F yE yH yS
    unfold yk_ok yE yH yS at q1
    unfold yk_sy yE at q2
    unfold yk_F yE yH yS at q3
    rw [e1 (24 + 3 * p) (by omega) (by omega), e1 (24 + 3 * p + 1) (by omega) (by omega), e1 (24 + 3 * p + 2) (by omega) (by omega)]
    exact ⟨q1, q2, q3⟩
  · unfold yc_F
    rw [e1 628 (by omega) (by omega)]
    exact h3
section YT
variable {H : yp_G} {f : Nat → Nat} {st : zs_T}
theorem yt_C.of {a t : zs_T} (h : yt_C H f a) (e : ∀ d, 6 ≤ d → d ≤ 11 → t.1 d = a.1 d) : yt_C H f t := by
  unfold yt_C yp_C
  rw [e 6 (by omega) (by omega), e 11 (by omega) (by omega), e (6 + 1) (by omega) (by omega), e (6 + 2) (by omega) (by omega), e (6 + 3) (by omega) (by omega), e (6 + 4) (by omega) (by omega)]
  exact h
theorem yt_round {K : Int32 → zs_T → Prop} (hok : yp_ok H) (h : yt_C H f st) (hK : ∀ t, zs_ag 7 628 st t → yt_C (yt_2 (yt_1 (H, f))).1 (yt_2 (yt_1 (H, f))).2 t → K (nI (yt_c (H, f))) t) : zf_TS_makeRound st K := by
  have hn := hok.n
  have hok1 := (yt_1_ok (s := (H, f)) hok).1
  have h25 : ∀ t, zs_ag 7 628 st t → yt_C (yt_1 (H, f)).1 (yt_1 (H, f)).2 t → yc_X (yt_1 (H, f)).1 t → zf_TS_makeRound_25 K (nI (yt_c1 (H, f))) t := by
    intro t a hC hX
    unfold zf_TS_makeRound_25
    refine yt_dead hok1 hC hX (fun t2 a2 h2 => ?_)
    rw [nI_add]
    exact hK t2 (a.trans (a2.wide (by omega) (by omega))) h2
  unfold zf_TS_makeRound
  refine yc_look hok h.1 (by omega) (fun t1 a1 x1 => ?_)
  refine yt_known hok (h.of (fun d _ _ => a1.e1 (by omega))) x1 (fun t2 a2 h2 => ?_)
  have a12 : zs_ag 7 628 st t2 := (a1.wide (by omega) (by omega)).trans (a2.wide (by omega) (by omega))
  have hle : yt_n (yt_F H) (yn H) ≤ yn H := yt_n_le _ _
  refine pk_le (yt_n (yt_F H) (yn H)) 0 (fun c => ?_) (fun c => ?_)
  · refine h25 t2 a12 h2 ?_
    have c0 : yt_n (yt_F H) (yn H) = 0 := by omega
    have e : (yt_1 (H, f)).1 = H := (yt_ap_all (f := f) (yt_n_0 c0)).1
    rw [e]
    exact yc_Xof x1 (fun d _ _ => a2.e1 (by omega)) (fun d _ _ => a2.e2 (by omega)) hn
  · refine yc_look hok1 h2.1 (by omega) (fun t3 a3 x3 => ?_)
    exact h25 t3 (a12.trans (a3.wide (by omega) (by omega))) (h2.of (fun d _ _ => a3.e1 (by omega))) x3
end YT
section YT
variable {G : yp_G} {st : zs_T}
theorem yt_copy {K : zs_T → Prop} (hok : yp_ok G) (hC : yp_C 1 G st) (hK : ∀ t, zs_ag 6 10 st t → yp_C 6 G t → K t) : zf_PR_copy 6 1 st K := by
  have hn := hok.n
  have e4 : st.1 1 4 = nI (yn G) := hC.1
  have cl : (0 : Int32).toNatClampNeg + (st.1 1 4).toNatClampNeg ≤ 200 := by
    rw [e4, nI_clamp (by omega)]
    show 0 + yn G ≤ 200
    omega
  have cl2 : (st.1 1 4).toNatClampNeg = yn G := by
    rw [e4]
    exact nI_clamp (by omega)
  have p : ¬ st.1 1 4 < 0 := by
    rw [e4]
    exact nI_pos (by omega)
  have n0 : ¬ (0 : Int32) < 0 := by decide
  unfold zf_PR_copy
  refine ⟨n0, n0, p, cl, cl, nm_e ⟨n0, n0, p, cl, cl, nm_e ⟨n0, n0, p, cl, cl, nm_e ⟨n0, n0, p, cl, cl, nm_e (nm_e (hK _ ?_ ?_))⟩⟩⟩⟩
  · exact ((((zs_ag.refl.a (by omega) (by omega)).a (by omega) (by omega)).a (by omega) (by omega)).a (by omega) (by omega)).i (by omega) (by omega)
  · refine ⟨?_, fun i hi => ?_⟩
    · rw [yi_s]
      exact e4
    · obtain ⟨c1, c2, c3, c4⟩ := hC.2 i hi
      have hc : 0 ≤ i ∧ i < 0 + yn G := by omega
      have z0 : (0 : Int32).toNatClampNeg = 0 := rfl
      have hi0 : 0 + (i - 0) = i := by omega
      refine ⟨?_, ?_, ?_, ?_⟩
      · rw [yi_r _ _ _ _ (by omega)]
        show va_cpy (st.1 (1 + 1)) (st.1 (6 + 1)) (0 : Int32).toNatClampNeg (0 : Int32).toNatClampNeg (st.1 1 4).toNatClampNeg i = _
        rw [cl2, z0]
        unfold va_cpy
        rw [if_pos hc, hi0]
        exact c1
      · rw [yi_r _ _ _ _ (by omega)]
        show va_cpy (st.1 (1 + 2)) (st.1 (6 + 2)) (0 : Int32).toNatClampNeg (0 : Int32).toNatClampNeg (st.1 1 4).toNatClampNeg i = _
        rw [cl2, z0]
        unfold va_cpy
        rw [if_pos hc, hi0]
        exact c2
      · rw [yi_r _ _ _ _ (by omega)]
        show va_cpy (st.1 (1 + 3)) (st.1 (6 + 3)) (0 : Int32).toNatClampNeg (0 : Int32).toNatClampNeg (st.1 1 4).toNatClampNeg i = _
        rw [cl2, z0]
        unfold va_cpy
        rw [if_pos hc, hi0]
        exact c3
      · rw [yi_r _ _ _ _ (by omega)]
        show va_cpy (st.1 (1 + 4)) (st.1 (6 + 4)) (0 : Int32).toNatClampNeg (0 : Int32).toNatClampNeg (st.1 1 4).toNatClampNeg i = _
        rw [cl2, z0]
        unfold va_cpy
        rw [if_pos hc, hi0]
        exact c4
/-- what the round before has changed -/
noncomputable def yt_la (z : Int32) (G : yp_G) (j : Nat) : Int32 := if j = 0 then z else nI (yt_c (yt_s G (j - 1)))
theorem yt_la_s (z : Int32) (G : yp_G) (j : Nat) : yt_la z G (j + 1) = nI (yt_c (yt_s G j)) := by
  unfold yt_la
  rw [if_neg (by omega)]
  rfl
theorem yt_c_le (hok : yp_ok G) (j : Nat) : yt_c (yt_s G j) ≤ 200 := by
  have h := yt_tot_le hok (j + 1)
  have e : yt_tot G (j + 1) = yt_tot G j + yt_c (yt_s G j) := rfl
  omega
theorem yt_la_0 {z : Int32} {j : Nat} (hok : yp_ok G) (hz : ¬ z = 0) : yt_la z G j = 0 ↔ 1 ≤ j ∧ yt_c (yt_s G (j - 1)) = 0 := by
  have h := yt_c_le hok (j - 1)
  unfold yt_la
  by_cases c : j = 0
  · rw [if_pos c]
    exact ⟨fun q => absurd q hz, fun q => absurd c (by omega)⟩
  · rw [if_neg c, show (0 : Int32) = nI 0 from rfl, nI_eq (by omega) (by omega)]
    exact ⟨fun q => ⟨by omega, q⟩, fun q => q.2⟩
def yt_J (G : yp_G) (st : zs_T) (j : Nat) (t : zs_T) : Prop := zs_ag 0 628 st t ∧ (∀ x, x ≠ 8 → t.1 0 x = st.1 0 x) ∧ (∀ d, 1 ≤ d → d ≤ 5 → t.1 d = st.1 d) ∧ t.1 0 8 = nI j ∧ yt_C (yt_s G j).1 (yt_s G j).2 t ∧ ∀ j', j' + 1 < j → yt_c (yt_s G j') ≠ 0
theorem yt_thrift {K : Int32 → zs_T → Prop} (hok : yp_ok G) (hC : yp_C 1 G st) (hm : st.1 0 7 = 0) (hK : ∀ m t, yt_M G m → zs_ag 0 628 st t → (∀ x, x ≠ 7 → x ≠ 8 → t.1 0 x = st.1 0 x) → (∀ d, 1 ≤ d → d ≤ 5 → t.1 d = st.1 d) → t.1 0 7 = 1 → t.1 0 8 = nI m → yt_C (yt_s G m).1 (yt_s G m).2 t → yc_X G t → K (nI (yt_tot G m)) t) : zf_TS_thrift st K := by
  have hn := hok.n
  refine ⟨fun _ => ?_, fun h => absurd hm h⟩
  refine yt_copy hok hC (fun t1 a1 h1 => yc_fillI (by omega) (fun t2 e2 e2' h2 => nm_e ?_))
  have a2 : zs_ag 6 11 st t2 := fun d hd => ⟨(e2' d (by omega)).trans (a1.e1 (by omega)), by rw [e2]; exact a1.e2 (by omega)⟩
  have j0 : yt_J G st 0 (zs_i t2 0 8 0) := by
    refine ⟨(a2.wide (by omega) (by omega)).i (by omega) (by omega), fun x hx => ?_, fun d _ _ => ?_, yi_s _ _ _ _, ⟨?_, fun i hi => ?_⟩, fun j' h => absurd h (by omega)⟩
    · rw [yi_n _ _ _ hx, a2.e1 (by omega)]
    · rw [yi_r _ _ _ _ (by omega), a2.e1 (by omega)]
    · have h1' : yp_C 6 G t2 := by
        unfold yp_C
        rw [e2' 6 (by omega), e2' (6 + 1) (by omega), e2' (6 + 2) (by omega), e2' (6 + 3) (by omega), e2' (6 + 4) (by omega)]
        exact h1
      unfold yp_C
      rw [yi_r _ _ _ _ (by omega), yi_r _ _ _ _ (by omega), yi_r _ _ _ _ (by omega), yi_r _ _ _ _ (by omega), yi_r _ _ _ _ (by omega)]
      exact h1'
    · have hi' : i < yn G := hi
      rw [yi_r _ _ _ _ (by omega)]
      exact h2 i (by omega)
  refine loop_m (σ := Nat × zs_T) (fun n s => zf_TS_thrift_45 K n (nI (yt_tot G s.1)) (yt_la (-1) G s.1) s.2) (fun s => yt_J G st s.1 s.2) (fun s => 300 - s.1) ?_ (0, zs_i t2 0 8 0) j0
  rintro n ⟨j, t⟩ ⟨g1, g2, g3, g4, g5, g6⟩ ih
  have hj : j ≤ 201 := yt_j_le hok g6
  refine br_c (fun c => ?_) (fun c => pk_le 1000 j (fun h => by omega) (fun _ => ?_) rfl g4)
  · have c1 := (yt_la_0 hok (by decide)).mp c
    unfold zf_TS_thrift_81
    have hC' : yp_C 1 G t := by
      unfold yp_C
      rw [g3 1 (by omega) (by omega), g3 (1 + 1) (by omega) (by omega), g3 (1 + 2) (by omega) (by omega), g3 (1 + 3) (by omega) (by omega), g3 (1 + 4) (by omega) (by omega)]
      exact hC
    refine yc_look hok hC' (by omega) (fun t3 a3 x3 => nm_e (hK j _ ⟨c1.1, c1.2, g6⟩ ?_ (fun x hx hx2 => ?_) (fun d _ _ => ?_) (yi_s _ _ _ _) ?_ ?_ ?_))
    · exact (g1.trans (a3.wide (by omega) (by omega))).i (by omega) (by omega)
    · rw [yi_n _ _ _ hx, a3.e1 (by omega)]
      exact g2 x hx2
    · rw [yi_r _ _ _ _ (by omega), a3.e1 (by omega)]
      exact g3 d (by omega) (by omega)
    · rw [yi_n _ _ _ (by omega), a3.e1 (by omega)]
      exact g4
    · exact g5.of (fun d _ _ => by rw [yi_r _ _ _ _ (by omega), a3.e1 (by omega)])
    · exact yc_Xof x3 (fun d _ _ => yi_r _ _ _ _ (by omega)) (fun d _ _ => rfl) hn
  · have g7 : ∀ j', j' + 1 < j + 1 → yt_c (yt_s G j') ≠ 0 := by
      intro j' h
      by_cases c2 : j' + 1 = j
      · intro z
        refine c ((yt_la_0 hok (by decide)).mpr ⟨by omega, ?_⟩)
        rw [show j - 1 = j' by omega]
        exact z
      · exact g6 j' (by omega)
    refine yt_round (yt_s_ok hok j).1 g5 (fun t3 a3 h3 => nm_e ?_)
    rw [nI_add, a3.e1 (by omega : 0 < 7 ∨ 628 < 0), g4, nI_1]
    have z := ih (j + 1, zs_i t3 0 8 (nI (j + 1))) ⟨(g1.trans (a3.wide (by omega) (by omega))).i (by omega) (by omega), fun x hx => ?_, fun d _ _ => ?_, yi_s _ _ _ _, ?_, g7⟩ (by show 300 - (j + 1) < 300 - j; omega)
    · rw [show yt_la (-1) G (j + 1, zs_i t3 0 8 (nI (j + 1))).1 = nI (yt_c (yt_s G j)) from yt_la_s _ _ _] at z
      exact z
    · show (zs_i t3 0 8 (nI (j + 1))).1 0 x = _
      rw [yi_n _ _ _ hx, a3.e1 (by omega)]
      exact g2 x hx
    · show (zs_i t3 0 8 (nI (j + 1))).1 d = _
      rw [yi_r _ _ _ _ (by omega), a3.e1 (by omega)]
      exact g3 d (by omega) (by omega)
    · exact yt_C.of h3 (fun d _ _ => yi_r _ _ _ _ (by omega))
end YT
