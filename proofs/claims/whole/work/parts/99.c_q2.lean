/-! the calls: may, inside, free, fact -/
section YQ
variable {G : yp_G} {st : zs_T} {B : zs_T → Prop} {K : Int32 → zs_T → Prop}
theorem yq_may {l1 l2 : Int32} (h : yL0 G st) (hK : ∀ c u, yMb (fun K' => zf_MO_may l1 l2 u K') c → K c u) : zf_LA_may l1 l2 st K := by
  have hok := h.1
  have hn := hok.n
  have hC := h.2.1
  have hD := h.2.2.1
  have h6 : st.1 635 6 = st.1 0 7 := h.2.2.2.1
  by_cases q : yx_in 16 l1 ∧ yx_in (yn G) l2
  · obtain ⟨q1, q2⟩ := q
    by_cases q3 : st.1 0 7 = 0
    · have z20 : zg_TS_may_20 (fun E u => (E = "java/lang/IndexOutOfBoundsException" ∧ K 1 u) ∨ (E = "java/lang/IllegalStateException" ∧ K 2 u)) l1 l2 1 st := by
        refine Or.inl ⟨fun _ => Or.inr ⟨fun z => absurd rfl z, fun _ => ⟨fun z => absurd q3 z, fun _ => Or.inr ⟨rfl, ?_⟩⟩⟩, fun z => absurd z (by decide)⟩
        refine hK 2 st (fun K' hK' => yx_mreg (fun _ => ⟨fun z => absurd z (by decide), fun _ => yx_no hok hD (fun _ => ⟨fun _ => ⟨fun z => absurd (h6.trans q3) z, fun _ => nm_e ?_⟩, fun z => absurd rfl z⟩) (fun z => absurd q2 z)⟩) (fun z => absurd q1 z))
        rw [yi_s]
        exact ⟨fun _ => hK' 0 _ ⟨G, h.r 2⟩ (yi_s _ _ _ _) (fun z => absurd z (by decide)), fun z => absurd z (by decide)⟩
      exact Or.inr (yx_reg (fun _ => ⟨fun z => absurd z (by decide), fun _ => yx_ins hok hC (fun _ => ⟨fun z => absurd z (by decide), fun _ => z20⟩) (fun z => absurd q2 z)⟩) (fun z => absurd q1 z))
    · obtain ⟨H, f, m, g1, g2, g3, g4, g5, g6, g7, g8, g9⟩ := h.2.2.2.2.1 q3
      obtain ⟨r, hr, e1⟩ := id q1
      obtain ⟨s, hs, e2⟩ := id q2
      have hM : yc_b st 13 r s = true ↔ yp_M G r s := ⟨fun z => ((g8.1.1 r s).mp ⟨hr, by omega, z⟩).2, fun z => ((g8.1.1 r s).mpr ⟨hr, z⟩).2.2⟩
      have hM2 := g9.1.1 r s hr hs
      have mref : ∀ (w : Int64) (K' : Int32 → zs_T → Prop), (w = if yc_b st 13 r s = true then 1 else 0) → (∀ v u', yL u' → u'.1 635 0 = 0 → ((0 : Int32) = 0 → u'.2 658 0 = if v = 0 then 0 else 1) → K' v u') → zf_MO_may l1 l2 (zs_l st 658 0 w) K' := by
        intro w K' hw hK'
        refine yx_mreg (fun _ => ⟨fun z => absurd z (by decide), fun _ => yx_no hok (h.l w).2.2.1 (fun _ => ⟨fun _ => ⟨fun _ => nm_e ?_, fun z => absurd (h6 ▸ z) q3⟩, fun z => absurd rfl z⟩) (fun z => absurd q2 z)⟩) (fun z => absurd q1 z)
        rw [yi_s]
        refine ⟨fun z => absurd rfl z, fun _ => ?_⟩
        rw [e1, e2, yi_200, nI_clamp (n := 200 * r + s) (by omega), yi_r _ _ _ _ (by omega)]
        refine ⟨vp_in_nI (by omega) (by omega), br_c (fun z => hK' 0 _ ⟨G, (h.l w).r 0⟩ (yi_s _ _ _ _) (fun _ => ?_)) (fun z => hK' 1 _ ⟨G, (h.l w).r 0⟩ (yi_s _ _ _ _) (fun _ => ?_))⟩
        · show (zs_l st 658 0 w).2 658 0 = _
          rw [yl_m, if_pos ⟨rfl, rfl⟩, if_pos rfl, hw, if_neg (fun z2 => hM2.mpr (hM.mp z2) z)]
        · show (zs_l st 658 0 w).2 658 0 = _
          rw [yl_m, if_pos ⟨rfl, rfl⟩, if_neg (by decide), hw, if_pos (hM.mpr (hM2.mp z))]
      refine Or.inl (yx_reg (fun _ => ⟨fun z => absurd z (by decide), fun _ => yx_ins hok hC (fun _ => ⟨fun z => absurd z (by decide), fun _ => ⟨fun _ => ⟨fun z => absurd rfl z, fun _ => ⟨fun _ => ?_, fun z => absurd z q3⟩⟩, fun z => absurd z (by decide)⟩⟩) (fun z => absurd q2 z)⟩) (fun z => absurd q1 z))
      unfold zf_AD_mayBe
      rw [e1, e2]
      refine yc_has (by omega) (by omega) (by omega) ⟨yb_bz _, yb_bz _, ?_⟩
      rw [yx_cl0]
      refine br_c (fun z => ⟨yx_01, nm_e (hK 0 _ (fun K' hK' => mref 0 K' ?_ hK'))⟩) (fun z => ⟨yx_01, nm_e (hK 0 _ (fun K' hK' => mref 1 K' ?_ hK'))⟩)
      · rw [if_neg (by rw [(yb_e0 _).mp z]; simp)]
      · rw [if_pos (ts_nf (fun q => z ((yb_e0 _).mpr q)))]
  · have z19 : zg_TS_may_19 (fun E u => (E = "java/lang/IndexOutOfBoundsException" ∧ K 1 u) ∨ (E = "java/lang/IllegalStateException" ∧ K 2 u)) l1 l2 st := by
      refine Or.inr ⟨fun z => absurd rfl z, fun _ => Or.inl ⟨rfl, ?_⟩⟩
      refine hK 1 st (fun K' hK' => ?_)
      have z16 : zf_MO_may_16 K' l1 l2 st := by
        refine nm_e ?_
        rw [yi_s]
        exact ⟨fun _ => hK' 0 _ ⟨G, h.r 1⟩ (yi_s _ _ _ _) (fun z => absurd z (by decide)), fun z => absurd z (by decide)⟩
      exact yx_mreg (fun z1 => ⟨fun z => absurd z (by decide), fun _ => yx_no hok hD (fun z2 => absurd ⟨z1, z2⟩ q) (fun _ => ⟨fun z => absurd z (by decide), fun _ => z16⟩)⟩) (fun _ => ⟨fun _ => z16, fun z => absurd rfl z⟩)
    exact Or.inr (yx_reg (fun z1 => ⟨fun z => absurd z (by decide), fun _ => yx_ins hok hC (fun z2 => absurd ⟨z1, z2⟩ q) (fun _ => ⟨fun _ => z19, fun z => absurd rfl z⟩)⟩) (fun _ => ⟨fun _ => z19, fun z => absurd rfl z⟩))
theorem yq_inside {l1 l2 : Int32} (h : yL0 G st) (hK : ∀ c u, yMb (fun K' => zf_MO_inside l1 l2 u K') c → K c u) : zf_LA_inside l1 l2 st K := by
  have hok := h.1
  have hn := hok.n
  have hC := h.2.1
  have hD := h.2.2.1
  have h6 : st.1 635 6 = st.1 0 7 := h.2.2.2.1
  by_cases q : yx_in (yn G) l1 ∧ yx_in (yn G) l2
  · obtain ⟨q1, q2⟩ := q
    by_cases q3 : st.1 0 7 = 0
    · have z20 : zg_TS_inside_21 (fun E u => (E = "java/lang/IndexOutOfBoundsException" ∧ K 1 u) ∨ (E = "java/lang/IllegalStateException" ∧ K 2 u)) l1 l2 1 st := by
        refine Or.inl ⟨fun _ => Or.inr ⟨fun z => absurd rfl z, fun _ => ⟨fun z => absurd q3 z, fun _ => Or.inr ⟨rfl, ?_⟩⟩⟩, fun z => absurd z (by decide)⟩
        refine hK 2 st (fun K' hK' => yx_no hok hD (fun _ => ⟨fun z => absurd rfl z, fun _ => yx_no hok hD (fun _ => ⟨fun _ => ⟨fun z => absurd (h6.trans q3) z, fun _ => nm_e ?_⟩, fun z => absurd rfl z⟩) (fun z => absurd q2 z)⟩) (fun z => absurd q1 z))
        rw [yi_s]
        exact ⟨fun _ => hK' 0 _ ⟨G, h.r 2⟩ (yi_s _ _ _ _) (fun z => absurd z (by decide)), fun z => absurd z (by decide)⟩
      exact Or.inr (yx_ins hok hC (fun _ => ⟨fun z => absurd z (by decide), fun _ => yx_ins hok hC (fun _ => ⟨fun z => absurd z (by decide), fun _ => z20⟩) (fun z => absurd q2 z)⟩) (fun z => absurd q1 z))
    · obtain ⟨H, f, m, g1, g2, g3, g4, g5, g6, g7, g8, g9⟩ := h.2.2.2.2.1 q3
      obtain ⟨r, hr, e1⟩ := id q1
      obtain ⟨s, hs, e2⟩ := id q2
      have hM : yc_b st 14 r s = true ↔ yp_I G r s := ⟨fun z => ((g8.1.2.1 r s).mp ⟨by omega, by omega, z⟩).2, fun z => ((g8.1.2.1 r s).mpr ⟨by omega, z⟩).2.2⟩
      have hM2 := g9.1.2 r s hr hs
      have mref : ∀ (w : Int64) (K' : Int32 → zs_T → Prop), (w = if yc_b st 14 r s = true then 1 else 0) → (∀ v u', yL u' → u'.1 635 0 = 0 → ((0 : Int32) = 0 → u'.2 658 0 = if v = 0 then 0 else 1) → K' v u') → zf_MO_inside l1 l2 (zs_l st 658 0 w) K' := by
        intro w K' hw hK'
        refine yx_no hok (h.l w).2.2.1 (fun _ => ⟨fun z => absurd rfl z, fun _ => yx_no hok (h.l w).2.2.1 (fun _ => ⟨fun _ => ⟨fun _ => nm_e ?_, fun z => absurd (h6 ▸ z) q3⟩, fun z => absurd rfl z⟩) (fun z => absurd q2 z)⟩) (fun z => absurd q1 z)
        rw [yi_s]
        refine ⟨fun z => absurd rfl z, fun _ => ?_⟩
        rw [e1, e2, yi_200, nI_clamp (n := 200 * r + s) (by omega), yi_r _ _ _ _ (by omega)]
        refine ⟨vp_in_nI (by omega) (by omega), br_c (fun z => hK' 0 _ ⟨G, (h.l w).r 0⟩ (yi_s _ _ _ _) (fun _ => ?_)) (fun z => hK' 1 _ ⟨G, (h.l w).r 0⟩ (yi_s _ _ _ _) (fun _ => ?_))⟩
        · show (zs_l st 658 0 w).2 658 0 = _
          rw [yl_m, if_pos ⟨rfl, rfl⟩, if_pos rfl, hw, if_neg (fun z2 => hM2.mpr (hM.mp z2) z)]
        · show (zs_l st 658 0 w).2 658 0 = _
          rw [yl_m, if_pos ⟨rfl, rfl⟩, if_neg (by decide), hw, if_pos (hM.mpr (hM2.mp z))]
      refine Or.inl (yx_ins hok hC (fun _ => ⟨fun z => absurd z (by decide), fun _ => yx_ins hok hC (fun _ => ⟨fun z => absurd z (by decide), fun _ => ⟨fun _ => ⟨fun z => absurd rfl z, fun _ => ⟨fun _ => ?_, fun z => absurd z q3⟩⟩, fun z => absurd z (by decide)⟩⟩) (fun z => absurd q2 z)⟩) (fun z => absurd q1 z))
      unfold zf_AD_mayHold
      rw [e1, e2]
      refine yc_has (by omega) (by omega) (by omega) ⟨yb_bz _, yb_bz _, ?_⟩
      rw [yx_cl0]
      refine br_c (fun z => ⟨yx_01, nm_e (hK 0 _ (fun K' hK' => mref 0 K' ?_ hK'))⟩) (fun z => ⟨yx_01, nm_e (hK 0 _ (fun K' hK' => mref 1 K' ?_ hK'))⟩)
      · rw [if_neg (by rw [(yb_e0 _).mp z]; simp)]
      · rw [if_pos (ts_nf (fun q => z ((yb_e0 _).mpr q)))]
  · have z19 : zg_TS_inside_20 (fun E u => (E = "java/lang/IndexOutOfBoundsException" ∧ K 1 u) ∨ (E = "java/lang/IllegalStateException" ∧ K 2 u)) l1 l2 st := by
      refine Or.inr ⟨fun z => absurd rfl z, fun _ => Or.inl ⟨rfl, ?_⟩⟩
      refine hK 1 st (fun K' hK' => ?_)
      have z16 : zf_MO_inside_17 K' l1 l2 st := by
        refine nm_e ?_
        rw [yi_s]
        exact ⟨fun _ => hK' 0 _ ⟨G, h.r 1⟩ (yi_s _ _ _ _) (fun z => absurd z (by decide)), fun z => absurd z (by decide)⟩
      exact yx_no hok hD (fun z1 => ⟨fun z => absurd rfl z, fun _ => yx_no hok hD (fun z2 => absurd ⟨z1, z2⟩ q) (fun _ => ⟨fun z => absurd z (by decide), fun _ => z16⟩)⟩) (fun _ => ⟨fun _ => z16, fun z => absurd z (by decide)⟩)
    exact Or.inr (yx_ins hok hC (fun z1 => ⟨fun z => absurd z (by decide), fun _ => yx_ins hok hC (fun z2 => absurd ⟨z1, z2⟩ q) (fun _ => ⟨fun _ => z19, fun z => absurd rfl z⟩)⟩) (fun _ => ⟨fun _ => z19, fun z => absurd rfl z⟩))
theorem yq_free {l1 l2 : Int32} (h : yL0 G st) (hK : ∀ c u, yMb (fun K' => zf_MO_free l1 l2 u K') c → K c u) : zf_LA_free l1 l2 st K := by
  have hok := h.1
  have hn := hok.n
  have hC := h.2.1
  have hD := h.2.2.1
  have h6 : st.1 635 6 = st.1 0 7 := h.2.2.2.1
  have hN : yn G + 1 < 2 ^ 31 := by omega
  by_cases q : yx_in (yn G + 1) l1 ∧ yx_in 16 l2
  · obtain ⟨q1, q2⟩ := q
    by_cases q3 : st.1 0 7 = 0
    · have z20 : zg_TS_free_20 (fun E u => (E = "java/lang/IndexOutOfBoundsException" ∧ K 1 u) ∨ (E = "java/lang/IllegalStateException" ∧ K 2 u)) l1 l2 1 st := by
        refine Or.inl ⟨fun _ => Or.inr ⟨fun z => absurd rfl z, fun _ => ⟨fun z => absurd q3 z, fun _ => Or.inr ⟨rfl, ?_⟩⟩⟩, fun z => absurd z (by decide)⟩
        refine hK 2 st (fun K' hK' => yx_c2 hN hD.1 (fun _ => yx_mreg (fun _ => ⟨fun _ => ⟨fun z => absurd (h6.trans q3) z, fun _ => nm_e ?_⟩, fun z => absurd z (by decide)⟩) (fun z => absurd q2 z)) (fun z => absurd q1 z))
        rw [yi_s]
        exact ⟨fun _ => hK' 0 _ ⟨G, h.r 2⟩ (yi_s _ _ _ _) (fun z => absurd z (by decide)), fun z => absurd z (by decide)⟩
      exact Or.inr (yx_pnt hok hC (fun _ => ⟨fun z => absurd z (by decide), fun _ => yx_reg (fun _ => ⟨fun z => absurd z (by decide), fun _ => z20⟩) (fun z => absurd q2 z)⟩) (fun z => absurd q1 z))
    · obtain ⟨H, f, m, g1, g2, g3, g4, g5, g6, g7, g8, g9⟩ := h.2.2.2.2.1 q3
      obtain ⟨r, hr, e1⟩ := id q1
      obtain ⟨s, hs, e2⟩ := id q2
      have hM : bt (st.1 628 r) s = true ↔ yp_fr G r s := ⟨fun z => ((g8.2.2 r s (by omega) (by omega)).mp z).2, fun z => (g8.2.2 r s (by omega) (by omega)).mpr ⟨hs, z⟩⟩
      have hM2 := g9.2.2.2.2.2.2 r s (by omega) hs
      have hR := g9.2.1 r (by omega)
      have mref : ∀ (w : Int64) (K' : Int32 → zs_T → Prop), (yp_fr G r s → w = 1) → (¬ yp_fr G r s → w = 0) → (∀ v u', yL u' → u'.1 635 0 = 0 → ((0 : Int32) = 0 → u'.2 658 0 = if v = 0 then 0 else 1) → K' v u') → zf_MO_free l1 l2 (zs_l st 658 0 w) K' := by
        intro w K' hw hw0 hK'
        refine yx_c2 hN (h.l w).2.2.1.1 (fun _ => yx_mreg (fun _ => ⟨fun _ => ⟨fun _ => nm_e ?_, fun z => absurd (h6 ▸ z) q3⟩, fun z => absurd z (by decide)⟩) (fun z => absurd q2 z)) (fun z => absurd q1 z)
        rw [yi_s]
        refine ⟨fun z => absurd rfl z, fun _ => ?_⟩
        rw [e1, e2, yi_16, nI_clamp (n := 16 * r + s) (by omega), nI_clamp (n := r) (by omega), yi_r _ _ _ _ (by omega : 643 ≠ 635), yi_r _ _ _ _ (by omega : 647 ≠ 635)]
        have fin0 : ¬ yp_fr G r s → K' 0 (zs_i (zs_l st 658 0 w) 635 0 0) := by
          intro z
          refine hK' 0 _ ⟨G, (h.l w).r 0⟩ (yi_s _ _ _ _) (fun _ => ?_)
          show (zs_l st 658 0 w).2 658 0 = _
          rw [yl_m, if_pos ⟨rfl, rfl⟩, if_pos rfl, hw0 z]
        refine ⟨vp_in_nI (by omega) (by omega), br_c (fun z => fin0 (fun z2 => ?_)) (fun z => ⟨vp_in_nI (by omega) (by omega), br_c (fun z2 => fin0 (fun z3 => hM2.mpr z3 z2)) (fun z2 => hK' 1 _ ⟨G, (h.l w).r 0⟩ (yi_s _ _ _ _) (fun _ => ?_))⟩)⟩
        · obtain ⟨B', hB', hb⟩ := z2
          have z3 : st.1 643 r = 0 := z
          rw [hR] at z3
          exact yq_0.mp z3 (hB' r s hb).1
        · show (zs_l st 658 0 w).2 658 0 = _
          rw [yl_m, if_pos ⟨rfl, rfl⟩, if_neg (by decide), hw (hM2.mp z2)]
      refine Or.inl (yx_pnt hok hC (fun _ => ⟨fun z => absurd z (by decide), fun _ => yx_reg (fun _ => ⟨fun z => absurd z (by decide), fun _ => ⟨fun _ => ⟨fun z => absurd rfl z, fun _ => ⟨fun _ => ?_, fun z => absurd z q3⟩⟩, fun z => absurd z (by decide)⟩⟩) (fun z => absurd q2 z)⟩) (fun z => absurd q1 z))
      show zf_FR_isFreeBehind l1 l2 st _
      unfold zf_FR_isFreeBehind
      rw [e1, e2, nI_clamp (n := r) (by omega), yb_tst (b := s) _ (by omega), yx_cl0]
      refine ⟨vp_in_nI (by omega) (by omega), br_c (fun z => ⟨zs_b0, fun _ => ⟨yx_01, nm_e (hK 0 _ (fun K' hK' => ?_))⟩, fun z2 => absurd rfl z2⟩) (fun z => ⟨zs_b1, fun z2 => absurd z2 (by decide), fun _ => ⟨yx_01, nm_e (hK 0 _ (fun K' hK' => ?_))⟩⟩)⟩
      · have nf : ¬ yp_fr G r s := fun z2 => by rw [hM.mpr z2] at z; cases z
        have y := mref 0 K' (fun z2 => absurd z2 nf) (fun _ => rfl) hK'
        exact y
      · have nf : yp_fr G r s := hM.mp (ts_nf z)
        have y := mref 1 K' (fun _ => rfl) (fun z2 => absurd nf z2) hK'
        exact y
  · have z19 : zg_TS_free_19 (fun E u => (E = "java/lang/IndexOutOfBoundsException" ∧ K 1 u) ∨ (E = "java/lang/IllegalStateException" ∧ K 2 u)) l1 l2 st := by
      refine Or.inr ⟨fun z => absurd rfl z, fun _ => Or.inl ⟨rfl, ?_⟩⟩
      refine hK 1 st (fun K' hK' => ?_)
      have z16 : zf_MO_free_20 K' l1 l2 st := by
        refine nm_e ?_
        rw [yi_s]
        exact ⟨fun _ => hK' 0 _ ⟨G, h.r 1⟩ (yi_s _ _ _ _) (fun z => absurd z (by decide)), fun z => absurd z (by decide)⟩
      exact yx_c2 hN hD.1 (fun z1 => yx_mreg (fun z2 => absurd ⟨z1, z2⟩ q) (fun _ => ⟨fun z => absurd rfl z, fun _ => z16⟩)) (fun _ => z16)
    exact Or.inr (yx_pnt hok hC (fun z1 => ⟨fun z => absurd z (by decide), fun _ => yx_reg (fun z2 => absurd ⟨z1, z2⟩ q) (fun _ => ⟨fun _ => z19, fun z => absurd rfl z⟩)⟩) (fun _ => ⟨fun _ => z19, fun z => absurd rfl z⟩))
end YQ
