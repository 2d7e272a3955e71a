/-! what is free, in the reference -/
def ym_f (t : zs_T) (i r : Nat) : Prop := ¬ t.1 647 (16 * i + r) = 0
def ym_fz (G : yp_G) (t : zs_T) : Prop := ∀ i r, i ≤ yn G → r < 16 → zs_bz (t.1 647 (16 * i + r))
def ym_X0 (G : yp_G) (t : zs_T) : Prop := ∀ p, yp_R G p → ∀ q r s, q < 3 → r < 16 → s < 16 → (ym_F t p q r s ↔ yp_F G p q r s)
section YP
variable {G : yp_G} {b : Nat} {st : zs_T}
theorem ym_before {j r : Nat} {K : Int32 → zs_T → Prop} (hok : yp_ok G) (hP : ym_P b G st) (hS : ym_S G st) (hX : ym_X0 G st) (hR : yp_R G j) (hr : r < 16) (hz : ym_fz G st) (hK : K (yq (yp_B G (ym_f st) j r)) st) : zf_MO_freeBefore (nI j) (nI r) st K := by
  have hn := hok.n
  have hj := yp_R_le hR
  have hbb := hP.2.2
  have hv : ∀ r, r < 16 → st.1 647 (16 * j + r) = yq (ym_f st j r) := fun r hr => yq_of (hz j r hj hr) Iff.rfl
  unfold zf_MO_freeBefore
  rw [yi_16, nI_clamp (n := 16 * j + r) (by omega), hv r hr, hP.1.1]
  refine ⟨vp_in_nI (by omega) (by omega), pk_eq j (yn G) (fun c => ⟨yq_bz _, ?_⟩) (fun c => ?_)⟩
  · have e : yp_B G (ym_f st) j r ↔ ym_f st j r := by
      unfold yp_B
      grind
    rw [yq_i e] at hK
    exact hK
  · have hjn : j < yn G := by omega
    obtain ⟨c1, c2, c3, c4⟩ := hP.1.2 j hjn
    have hk := hok.k hjn
    have ha2 := hok.a2 hjn
    have iv : vp_in (nI (b + j)) 400 := vp_in_nI (by omega) (by omega)
    rw [hP.2.1, nI_add, nI_clamp (n := b + j) (by omega), c1]
    refine ⟨iv, yi_ne (yk G j) 14 (fun k14 => ⟨iv, ?_⟩) (fun k14 => ⟨yq_bz _, ?_⟩)⟩
    · have k1 : K 1 st = K (yq True) st := by rw [yq_T]
      have hend : ∀ p : Prop, (p ↔ yp_B G (ym_f st) j r) → K (yq p) st := by
        intro p hp
        rw [yq_i hp]
        exact hK
      have h159 : ∀ p : Prop, (p ↔ (ym_f st j r ∨ (yk G j = 1 ∧ r = ye G j ∧ ym_f st j (ya G j))) ∧ ¬ (yk G j = 9 ∧ yp_meet G r (ye G j))) → ¬ (yk G j ≤ 9 ∧ r = ya G j) → zf_MO_freeBefore_159 K (nI j) (nI r) (yq p) (nI (yk G j)) st := by
        intro p hp hx
        unfold zf_MO_freeBefore_159
        rw [hP.2.1, nI_add, nI_clamp (n := b + j) (by omega), c2]
        refine And.intro (fun z => ?_) (fun z => yi_ne (yk G j) 10 (fun k10 => ?_) (fun k10 => ⟨iv, ?_⟩))
        · have z1 := yq_n0.mp z
          rw [yq_T]
          refine hend True ?_
          unfold yp_B
          grind
        · have z1 := yq_0.mp z
          have z2 := hend False (by unfold yp_B; grind)
          rw [yq_f id] at z2
          exact z2
        · have z1 := yq_0.mp z
          have ha := hok.a hjn (by omega)
          refine ym_one (by omega) hr ha ?_
          have z3 := hX j hR 0 r (ya G j) (by omega) hr ha
          refine br_c (fun c5 => ?_) (fun c5 => ?_)
          · have c6 := yq_0.mp c5
            have z2 := hend False (by unfold yp_B; grind)
            rw [yq_f id] at z2
            exact z2
          · have c6 := yq_n0.mp c5
            rw [yq_T]
            refine hend True ?_
            unfold yp_B
            grind
      have h131 : ∀ p : Prop, (p ↔ (ym_f st j r ∨ (yk G j = 1 ∧ r = ye G j ∧ ym_f st j (ya G j)))) → ¬ (yk G j ≤ 9 ∧ r = ya G j) → zf_MO_freeBefore_131 K (nI j) (nI r) (yq p) (nI (yk G j)) st := by
        intro p hp hx
        unfold zf_MO_freeBefore_131
        rw [hP.2.1, nI_add, nI_clamp (n := b + j) (by omega), c3]
        refine yi_ne (yk G j) 9 (fun k9 => h159 p (by grind) hx) (fun k9 => ⟨iv, ?_⟩)
        rw [hok.x hjn (by omega)]
        refine ym_meet hok hP.1.1 hS hr (hok.e hjn ⟨by omega, by omega, by omega⟩) (fun g hg => ?_)
        refine br_c (fun c5 => h159 p ?_ hx) (fun c5 => ?_)
        · have c6 : ¬ yp_meet G r (ye G j) := by
            intro q
            rw [yb_e0, hg.mpr q] at c5
            cases c5
          grind
        · have c6 : yp_meet G r (ye G j) := hg.mp (ts_nf (fun q => c5 ((yb_e0 g).mpr q)))
          have z2 := h159 False (by grind) hx
          rw [yq_f id] at z2
          exact z2
      have h76 : ¬ (yk G j ≤ 9 ∧ r = ya G j) → zf_MO_freeBefore_76 K (nI j) (nI r) (yq (ym_f st j r)) (nI (yk G j)) st := by
        intro hx
        unfold zf_MO_freeBefore_76
        rw [hP.2.1, nI_add, nI_clamp (n := b + j) (by omega), c2, c3]
        refine yi_ne (yk G j) 1 (fun k9 => h131 _ (by grind) hx) (fun k9 => ⟨iv, ?_⟩)
        have ha := hok.a hjn (by omega)
        have he := hok.e hjn ⟨by omega, by omega, by omega⟩
        rw [hok.x hjn (by omega), yi_16, nI_clamp (n := 16 * j + ya G j) (by omega), hv _ ha]
        refine yi_ne r (ye G j) (fun c5 => h131 _ (by grind) hx) (fun c5 => And.intro (fun c6 => ?_) (fun c6 => ⟨iv, vp_in_nI (by omega) (by omega), br_c (fun c7 => ?_) (fun c7 => ?_)⟩))
        · have c8 := yq_n0.mp c6
          have z2 := h131 True (by grind) hx
          rw [← yq_T] at z2
          exact z2
        · have c8 := yq_0.mp c6
          have c9 := yq_0.mp c7
          have z2 := h131 False (by grind) hx
          rw [yq_f id] at z2
          exact z2
        · have c9 := yq_n0.mp c7
          have z2 := h131 True (by grind) hx
          rw [← yq_T] at z2
          exact z2
      refine ym_sets1 hok hP hjn ?_
      refine br_c (fun c5 => h76 (fun q => yq_0.mp c5 q.1)) (fun c5 => ?_)
      have c6 := yq_n0.mp c5
      rw [hP.2.1, nI_add, nI_clamp (n := b + j) (by omega), c2]
      refine ⟨iv, yi_ne r (ya G j) (fun c7 => h76 (fun q => c7 q.2)) (fun c7 => ?_)⟩
      have z2 := hend False (by unfold yp_B; grind)
      rw [yq_f id] at z2
      exact z2
    · have e : yp_B G (ym_f st) j r ↔ ym_f st j r := by
        unfold yp_B
        grind
      rw [yq_i e] at hK
      exact hK
/-- the first guess -/
def ym_g0 (G : yp_G) (i r : Nat) : Prop := yp_R G i ∧ (i = yn G ∨ yk G i = 14 → yp_un G r)
def ym_G0 (G : yp_G) (st : zs_T) (m : Nat) (t : zs_T) : Prop := zs_ag 647 647 st t ∧ ∀ i r, r < 16 → 16 * i + r < m → t.1 647 (16 * i + r) = yq (ym_g0 G i r)
theorem ym_free0 {K : zs_T → Prop} (hok : yp_ok G) (hP : ym_P b G st) (hS : ym_S G st) (hR : ∀ p, p < 201 → st.1 643 p = yq (yp_R G p)) (hK : ∀ t, ym_G0 G st (16 * (yn G + 1)) t → ∃ n, zf_MO_findFree_138 K n 1 t) : zf_MO_findFree st K := by
  have hn := hok.n
  have hbb := hP.2.2
  unfold zf_MO_findFree
  refine pk_loop (W := fun m k (t : zs_T) => zf_MO_findFree_2 K m (nI k) t) (fun k t => ym_G0 G st (16 * k) t) (yn G + 1) 0 st (by omega) ⟨zs_ag.refl, fun p r _ h => absurd h (by omega)⟩ ?_ ?_
  · rintro m t h
    exact pk_lt (yn G) (yn G + 1) (fun _ => hK t h) (fun h => by omega) (hP.of (fun x _ _ => h.1.e1 (by omega))).1.1
  · rintro m i t hi h ih
    refine pk_lt (yn G) i (fun h => by omega) (fun _ => ?_) (hP.of (fun x _ _ => h.1.e1 (by omega))).1.1
    refine pk_loop (W := fun m2 r (t : zs_T) => zf_MO_findFree_12 K (zf_MO_findFree_2 K m) m2 (nI i) (nI r) t) (fun r t => ym_G0 G st (16 * i + r) t) 16 0 t (by omega) h ?_ ?_
    · rintro m2 t2 h2
      refine pk_le 16 16 (fun _ => ?_) (fun h => by omega)
      rw [nI_1]
      refine ih t2 ?_
      rw [show 16 * (i + 1) = 16 * i + 16 by omega]
      exact h2
    · rintro m2 r t2 hr ⟨e1, e2⟩ ih2
      have hPt : ym_P b G t2 := hP.of (fun x _ _ => e1.e1 (by omega))
      have hSt : ym_S G t2 := ym_Sof hS (fun x _ _ => e1.e1 (by omega))
      have hr3 : t2.1 643 i = yq (yp_R G i) := by
        rw [e1.e1 (by omega)]
        exact hR i (by omega)
      have h112 : ∀ p : Prop, (p ↔ ym_g0 G i r) → zf_MO_findFree_112 K (zf_MO_findFree_2 K m) (zf_MO_findFree_12 K (zf_MO_findFree_2 K m) m2) (nI i) (nI r) (yq p) t2 := by
        intro p hp
        unfold zf_MO_findFree_112
        rw [yi_16, nI_clamp (n := 16 * i + r) (by omega), yq_nar, nI_1, yq_i hp]
        refine ⟨vp_in_nI (by omega) (by omega), nm_e (ih2 _ ⟨e1.i (by omega) (by omega), fun p r' hr' hl => ?_⟩)⟩
        rw [yi_m]
        by_cases c : 16 * p + r' = 16 * i + r
        · have c1 : p = i := by omega
          have c2 : r' = r := by omega
          rw [if_pos ⟨rfl, c⟩, c1, c2]
        · rw [if_neg (fun q => c q.2)]
          exact e2 p r' hr' (by omega)
      refine pk_le 16 r (fun h => by omega) (fun _ => ⟨vp_in_nI (by omega) (by omega), ?_⟩)
      rw [nI_clamp (n := i) (by omega), hr3, yq_i (show yp_R G i ↔ yp_R G i ∧ (i = yn G ∨ yk G i = 14 → ∀ s, s < 0 → yp_M G r s → ¬ yd G s = 1) from ⟨fun h => ⟨h, fun _ s hs => absurd hs (by omega)⟩, fun h => h.1⟩)]
      refine pk_loop (W := fun m3 k (t : zs_T) => zf_MO_findFree_28 K (zf_MO_findFree_2 K m) (zf_MO_findFree_12 K (zf_MO_findFree_2 K m) m2) m3 (nI i) (nI r) (yq (yp_R G i ∧ (i = yn G ∨ yk G i = 14 → ∀ s, s < k → yp_M G r s → ¬ yd G s = 1))) (nI k) t) (fun _ t => t = t2) (yn G) 0 t2 (by omega) rfl ?_ ?_
      · rintro m3 t3 rfl
        refine pk_le (yn G) (yn G) (fun _ => h112 _ ?_) (fun h => by omega) hPt.1.1
        unfold ym_g0 yp_un
        exact ⟨fun q => ⟨q.1, fun e s hs => q.2 e s (yp_M_s hs).1 hs⟩, fun q => ⟨q.1, fun e s _ hs => q.2 e s hs⟩⟩
      · rintro m3 k t3 hk rfl ih3
        have hk15 := hok.k hk
        have hd15 := hok.d hk
        refine pk_le (yn G) k (fun h => by omega) (fun _ => ?_) hPt.1.1
        refine ym_next (j := 0) hok hPt (by omega) (by omega) ?_
        by_cases ce : i = yn G ∨ yk G i = 14
        · refine And.intro (fun c => absurd (ym_nx_e ce 0) c) (fun _ => ?_)
          have h105 : ∀ p : Prop, (p ↔ yp_R G i ∧ (i = yn G ∨ yk G i = 14 → ∀ s, s < k + 1 → yp_M G r s → ¬ yd G s = 1)) → zf_MO_findFree_105 K (zf_MO_findFree_2 K m) (zf_MO_findFree_12 K (zf_MO_findFree_2 K m) m2) (zf_MO_findFree_28 K (zf_MO_findFree_2 K m) (zf_MO_findFree_12 K (zf_MO_findFree_2 K m) m2) m3) (nI i) (nI r) (nI k) (yq p) t3 := by
            intro p hp
            unfold zf_MO_findFree_105
            rw [nI_1, yq_i hp]
            exact ih3 t3 rfl
          have z0 : ¬ (yp_R G i ∧ (i = yn G ∨ yk G i = 14 → ∀ s, s < k + 1 → yp_M G r s → ¬ yd G s = 1)) → zf_MO_findFree_104 K (zf_MO_findFree_2 K m) (zf_MO_findFree_12 K (zf_MO_findFree_2 K m) m2) (zf_MO_findFree_28 K (zf_MO_findFree_2 K m) (zf_MO_findFree_12 K (zf_MO_findFree_2 K m) m2) m3) (nI i) (nI r) (nI k) t3 := by
            intro h
            have z := h105 False ⟨False.elim, h⟩
            rw [yq_f id] at z
            exact z
          have z1 : (yp_R G i ∧ (i = yn G ∨ yk G i = 14 → ∀ s, s < k + 1 → yp_M G r s → ¬ yd G s = 1)) → zf_MO_findFree_100 K (zf_MO_findFree_2 K m) (zf_MO_findFree_12 K (zf_MO_findFree_2 K m) m2) (zf_MO_findFree_28 K (zf_MO_findFree_2 K m) (zf_MO_findFree_12 K (zf_MO_findFree_2 K m) m2) m3) (nI i) (nI r) (nI k) t3 := by
            intro h
            have z := h105 True ⟨fun _ => h, fun _ => trivial⟩
            rw [← yq_T] at z
            exact z
          obtain ⟨c1, c2, c3, c4⟩ := hPt.1.2 k hk
          have hM := hSt.1 r k hr hk
          have iv : vp_in (nI (b + k)) 400 := vp_in_nI (by omega) (by omega)
          rw [yi_200, nI_clamp (n := 200 * r + k) (by omega), hPt.2.1, nI_add, nI_clamp (n := b + k) (by omega), c1, c4]
          have up : (yp_R G i ∧ (i = yn G ∨ yk G i = 14 → ∀ s, s < k → yp_M G r s → ¬ yd G s = 1)) → (yp_M G r k → ¬ yd G k = 1) → (yp_R G i ∧ (i = yn G ∨ yk G i = 14 → ∀ s, s < k + 1 → yp_M G r s → ¬ yd G s = 1)) := by
            intro q q2
            refine ⟨q.1, fun e s hs hm => ?_⟩
            by_cases c : s = k
            · subst c; exact q2 hm
            · exact q.2 e s (by omega) hm
          refine br_c (fun c => z0 (fun q => yq_0.mp c ⟨q.1, fun e s hs => q.2 e s (by omega)⟩)) (fun c => ⟨vp_in_nI (by omega) (by omega), br_c (fun c5 => z1 (up (yq_n0.mp c) (fun q => absurd c5 (hM.mpr q)))) (fun c5 => ⟨iv, yi_ne (yk G k) 8 (fun c6 => z1 (up (yq_n0.mp c) (fun q => absurd (yp_M_s q).2 c6))) (fun c6 => ⟨iv, pk_eq (yd G k) 1 (fun c7 => z0 (fun q => q.2 ce k (by omega) (hM.mp c5) c7)) (fun c7 => z1 (up (yq_n0.mp c) (fun _ => c7)))⟩)⟩)⟩)
        · refine And.intro (fun c => h112 _ ?_) (fun c => absurd ((ym_nx_0 hok (by omega)).mp c) ce)
          unfold ym_g0
          exact ⟨fun q => ⟨q.1, fun e => absurd e ce⟩, fun q => ⟨q.1, fun e => absurd e ce⟩⟩
end YP
