/-! what comes from a LOAD, a STORE, any instruction, in the reference -/
section YP
variable {G : yp_G} {b : Nat} {st : zs_T}
theorem ym_load {i x y : Nat} {P H : Nat → Nat → Prop} {S : Nat → Prop} {K : zs_T → Prop} (hi : i < 201) (hx : x < 16) (hy : y < 16) (hb : ym_b st i) (h0 : ym_o st 648 P) (h1 : ym_o st 649 H) (h2 : ym_u st S)
    (hK : ∀ t, zs_ag 648 650 st t → ym_o t 648 (fun r s => P r s ∨ (r = x ∧ s ≠ x ∧ ym_F st i 1 y s) ∨ (s = x ∧ r ≠ x ∧ ym_F st i 1 y r)) → ym_o t 649 (fun r s => H r s ∨ (s = x ∧ r ≠ x ∧ (y = r ∨ ym_F st i 0 y r))) → ym_u t (fun r => S r ∨ (r ≠ x ∧ (y = r ∨ ym_F st i 0 y r))) → K t) : zf_MO_passLoad (nI i) (nI x) (nI y) st K := by
  unfold zf_MO_passLoad
  refine pk_loop (W := fun m z (t : zs_T) => zf_MO_passLoad_3 K m (nI i) (nI x) (nI y) (nI z) t) (fun k t => zs_ag 648 650 st t ∧ ym_o t 648 (fun r s => P r s ∨ (r = x ∧ s ≠ x ∧ s < k ∧ ym_F st i 1 y s) ∨ (s = x ∧ r ≠ x ∧ r < k ∧ ym_F st i 1 y r)) ∧ ym_o t 649 (fun r s => H r s ∨ (s = x ∧ r ≠ x ∧ r < k ∧ (y = r ∨ ym_F st i 0 y r))) ∧ ym_u t (fun r => S r ∨ (r ≠ x ∧ r < k ∧ (y = r ∨ ym_F st i 0 y r)))) 16 0 st (by omega) ⟨zs_ag.refl, h0.i (fun r s _ _ => by grind), h1.i (fun r s _ _ => by grind), h2.i (fun r _ => by grind)⟩ ?_ ?_
  · rintro m t ⟨g1, g2, g3, g4⟩
    refine pk_le 16 16 (fun _ => hK t g1 (g2.i (fun r s hr hs => ?_)) (g3.i (fun r s hr hs => ?_)) (g4.i (fun r hr => ?_))) (fun h => by omega)
    · grind
    · grind
    · grind
  · rintro m k t hk ⟨g1, g2, g3, g4⟩ ih
    have u := ym_Fof (a := st) (t := t) (p := i) (fun z _ _ => g1.e1 (by omega))
    refine pk_le 16 k (fun h => by omega) (fun _ => ?_)
    simp only [zf_MO_passLoad_69]
    refine And.intro (fun c => ?_) (fun c => ?_)
    · have ckx : k ≠ x := fun e => c (by rw [e])
      have h51 : ∀ t1, zs_ag 648 650 t t1 → ym_o t1 648 (fun r s => P r s ∨ (r = x ∧ s ≠ x ∧ s < k ∧ ym_F st i 1 y s) ∨ (s = x ∧ r ≠ x ∧ r < k ∧ ym_F st i 1 y r)) → ym_o t1 649 (fun r s => H r s ∨ (s = x ∧ r ≠ x ∧ r < k + 1 ∧ (y = r ∨ ym_F st i 0 y r))) → ym_u t1 (fun r => S r ∨ (r ≠ x ∧ r < k + 1 ∧ (y = r ∨ ym_F st i 0 y r))) → zf_MO_passLoad_51 K (zf_MO_passLoad_3 K m) (nI i) (nI x) (nI y) (nI k) t1 := by
        intro t1 a1 o0 o1 o2
        have u1 := ym_Fof (a := st) (t := t1) (p := i) (fun z _ _ => (a1.e1 (by omega)).trans (g1.e1 (by omega)))
        unfold zf_MO_passLoad_51
        refine ym_held hi hy hk (u1.2 hb) ?_
        rw [u1.1]
        simp only [zf_MO_passLoad_69]
        rw [nI_1]
        refine br_c (fun c2 => ih t1 ⟨g1.trans a1, o0.i (fun r s hr hs => ?_), o1, o2⟩) (fun c2 => ym_tie hx hk o0 (fun t2 a2 o3 => ih t2 ⟨(g1.trans a1).trans (a2.wide (by omega) (by omega)), o3.i (fun r s hr hs => ?_), o1.of (a2.e1 (by omega)), o2.of (a2.e1 (by omega))⟩))
        · have c3 := yq_0.mp c2
          grind
        · have c3 := yq_n0.mp c2
          grind
      refine ym_one hi hy hk ?_
      rw [u.1]
      refine br_c (fun c2 => h51 t zs_ag.refl g2 (g3.i (fun r s hr hs => ?_)) (g4.i (fun r hr => ?_))) (fun c2 => ?_)
      · have c3 := yq_0.mp c2
        grind
      · have c3 := yq_0.mp c2
        grind
      · have c3 := yq_n0.mp c2
        rw [yi_16, nI_clamp (n := 16 * k + x) (by omega), nI_clamp (n := k) (by omega), yb_n1, yq_T]
        refine ⟨vp_in_nI (by omega) (by omega), nm_e ⟨vp_in_nI (by omega) (by omega), nm_e (h51 _ ((zs_ag.refl.i (by omega) (by omega)).i (by omega) (by omega)) (g2.of ?_) ?_ ?_)⟩⟩
        · rw [yi_r _ _ _ _ (by omega), yi_r _ _ _ _ (by omega)]
        · refine ((g3.of (t := zs_i t 650 k (yq True)) (yi_r _ _ _ _ (by omega))).w hk hx).i (fun r s hr hs => ?_)
          grind
        · refine ym_u.of (a := zs_i t 650 k (yq True)) ?_ (yi_r _ _ _ _ (by omega))
          refine g4.w.i (fun r hr => ?_)
          grind
    · have ckx : k = x := (nI_eq (by omega) (by omega)).mp c
      rw [nI_1]
      refine ih t ⟨g1, g2.i (fun r s hr hs => ?_), g3.i (fun r s hr hs => ?_), g4.i (fun r hr => ?_)⟩
      · grind
      · grind
      · grind
theorem ym_store {i x y : Nat} {H : Nat → Nat → Prop} {S : Nat → Prop} {K : zs_T → Prop} (hi : i < 201) (hx : x < 16) (hy : y < 16) (hb : ym_b st i) (h1 : ym_o st 649 H) (h2 : ym_u st S)
    (hK : ∀ t, zs_ag 649 650 st t → ym_o t 649 (fun r s => H r s ∨ ((x = r ∨ ym_F st i 0 x r) ∧ (y = s ∨ ym_F st i 0 y s))) → ym_u t (fun r => S r ∨ (x = r ∨ ym_F st i 0 x r)) → K t) : zf_MO_passStore (nI i) (nI x) (nI y) st K := by
  unfold zf_MO_passStore
  refine pk_loop (W := fun m z (t : zs_T) => zf_MO_passStore_3 K m (nI i) (nI x) (nI y) (nI z) t) (fun k t => zs_ag 649 650 st t ∧ ym_o t 649 (fun r s => H r s ∨ (r < k ∧ (x = r ∨ ym_F st i 0 x r) ∧ (y = s ∨ ym_F st i 0 y s))) ∧ ym_u t (fun r => S r ∨ (r < k ∧ (x = r ∨ ym_F st i 0 x r)))) 16 0 st (by omega) ⟨zs_ag.refl, h1.i (fun r s _ _ => by grind), h2.i (fun r _ => by grind)⟩ ?_ ?_
  · rintro m t ⟨g1, g2, g3⟩
    refine pk_le 16 16 (fun _ => hK t g1 (g2.i (fun r s hr hs => ?_)) (g3.i (fun r hr => ?_))) (fun h => by omega)
    · grind
    · grind
  · rintro m k t hk ⟨g1, g2, g3⟩ ih
    have u := ym_Fof (a := st) (t := t) (p := i) (fun z _ _ => g1.e1 (by omega))
    refine pk_le 16 k (fun h => by omega) (fun _ => ?_)
    refine ym_one hi hx hk ?_
    rw [u.1]
    refine And.intro (fun c2 => ?_) (fun c2 => ?_)
    · have c3 := yq_n0.mp c2
      rw [nI_clamp (n := k) (by omega), yb_n1, yq_T]
      refine ⟨vp_in_nI (by omega) (by omega), nm_e ?_⟩
      refine pk_loop (W := fun m2 w (t : zs_T) => zf_MO_passStore_35 K (zf_MO_passStore_3 K m) m2 (nI i) (nI x) (nI y) (nI k) (nI w) t) (fun j t => zs_ag 649 650 st t ∧ ym_o t 649 (fun r s => H r s ∨ (r < k ∧ (x = r ∨ ym_F st i 0 x r) ∧ (y = s ∨ ym_F st i 0 y s)) ∨ (r = k ∧ s < j ∧ (y = s ∨ ym_F st i 0 y s))) ∧ ym_u t (fun r => S r ∨ (r < k + 1 ∧ (x = r ∨ ym_F st i 0 x r)))) 16 0 (zs_i t 650 k (yq True)) (by omega) ⟨g1.i (by omega) (by omega), (g2.of (yi_r _ _ _ _ (by omega))).i (fun r s _ _ => ?_), g3.w.i (fun r hr => ?_)⟩ ?_ ?_
      · grind
      · grind
      · rintro m2 t2 ⟨e1, e2, e3⟩
        refine pk_le 16 16 (fun _ => ?_) (fun h => by omega)
        unfold zf_MO_passStore_93
        rw [nI_1]
        refine ih t2 ⟨e1, e2.i (fun r s hr hs => ?_), e3⟩
        grind
      · rintro m2 j t2 hj ⟨e1, e2, e3⟩ ih2
        have u2 := ym_Fof (a := st) (t := t2) (p := i) (fun z _ _ => e1.e1 (by omega))
        refine pk_le 16 j (fun h => by omega) (fun _ => ?_)
        have h86 : ∀ p : Prop, (p ↔ H k j ∨ (y = j ∨ ym_F st i 0 y j)) → zf_MO_passStore_86 K (zf_MO_passStore_3 K m) (zf_MO_passStore_35 K (zf_MO_passStore_3 K m) m2) (nI i) (nI x) (nI y) (nI k) (nI j) (yq p) (nI (16 * k + j)) t2 := by
          intro p hp
          unfold zf_MO_passStore_86
          rw [nI_clamp (n := 16 * k + j) (by omega), yq_nar, nI_1]
          refine ⟨vp_in_nI (by omega) (by omega), nm_e (ih2 _ ⟨e1.i (by omega) (by omega), (e2.w hk hj).i (fun r s hr hs => ?_), e3.of (yi_r _ _ _ _ (by omega))⟩)⟩
          grind
        have v := e2 k j hk hj
        rw [yi_16, nI_clamp (n := 16 * k + j) (by omega), v]
        refine ⟨vp_in_nI (by omega) (by omega), And.intro (fun c4 => ?_) (fun c4 => ?_)⟩
        · have c5 := yq_n0.mp c4
          unfold zf_MO_passStore_81
          rw [yq_T]
          exact h86 True (by grind)
        · have c5 := yq_0.mp c4
          refine ym_one hi hy hj ?_
          rw [u2.1]
          refine br_c (fun c6 => ?_) (fun c6 => ?_)
          · have c7 := yq_0.mp c6
            have c8 := h86 False (by grind)
            rw [yq_f id] at c8
            exact c8
          · have c7 := yq_n0.mp c6
            unfold zf_MO_passStore_81
            rw [yq_T]
            exact h86 True (by grind)
    · have c3 := yq_0.mp c2
      unfold zf_MO_passStore_93
      rw [nI_1]
      refine ih t ⟨g1, g2.i (fun r s hr hs => ?_), g3.i (fun r hr => ?_)⟩
      · grind
      · grind
def ym_lo (G : yp_G) (i r s : Nat) : Prop := yk G i ≤ 9 ∧ ¬ (yk G i = 1 ∧ ya G i = ye G i) ∧ (r = ya G i ∨ s = ya G i)
def ym_P0 (G : yp_G) (i : Nat) (F : yp_Q) (r s : Nat) : Prop := F 0 r s ∧ ¬ ym_lo G i r s
def ym_H0 (G : yp_G) (i : Nat) (F : yp_Q) (r s : Nat) : Prop := F 1 r s ∧ ¬ ym_lo G i r s ∧ (yk G i = 10 → yp_meet G r (ya G i) → (s = ye G i ∨ F 0 s (ye G i)))
def ym_S0 (G : yp_G) (i : Nat) (F : yp_Q) (r : Nat) : Prop := F 2 r 0 ∧ ¬ ym_lo G i r r
theorem ym_p105 {i k j : Nat} {l5 : Int32} {K : zs_T → Prop} {B58 : Int32 → Int32 → Int32 → Int32 → Int32 → Int32 → zs_T → Prop} {B68 : Int32 → Int32 → Int32 → Int32 → Int32 → Int32 → Int32 → zs_T → Prop} (hok : yp_ok G) (hP : ym_P b G st) (hS : ym_S G st) (hb : ym_b st i) (hi : i < yn G) (hk : k < 16) (hj : j < 16)
    (hB : B68 (nI i) (nI (yk G i)) (nI (ya G i)) (yx G i) l5 (nI k) (nI (j + 1)) (zs_i (zs_i st 648 (16 * k + j) (yq (ym_P0 G i (ym_F st i) k j))) 649 (16 * k + j) (yq (ym_H0 G i (ym_F st i) k j)))) : zf_MO_pass_105 K B58 B68 (nI i) (nI (yk G i)) (nI (ya G i)) (yx G i) l5 (nI k) (nI j) (yq (ym_lo G i k j)) st := by
  have hn := hok.n
  have hkk := hok.k hi
  have h214 : ∀ v : Int32, v = yq (ym_H0 G i (ym_F st i) k j) → zf_MO_pass_214 K B58 B68 (nI i) (nI (yk G i)) (nI (ya G i)) (yx G i) l5 (nI k) (nI j) v (nI (16 * k + j)) (zs_i st 648 (16 * k + j) (yq (ym_P0 G i (ym_F st i) k j))) := by
    intro v hv
    unfold zf_MO_pass_214
    rw [hv, yq_nar, nI_clamp (n := 16 * k + j) (by omega), nI_1]
    exact ⟨vp_in_nI (by omega) (by omega), nm_e hB⟩
  have h151 : ∀ v : Int32, v = yq (ym_P0 G i (ym_F st i) k j) → zf_MO_pass_151 K B58 B68 (nI i) (nI (yk G i)) (nI (ya G i)) (yx G i) l5 (nI k) (nI j) (yq (ym_lo G i k j)) v (nI (16 * k + j)) st := by
    intro v hv
    unfold zf_MO_pass_151
    rw [hv, yq_nar, nI_clamp (n := 16 * k + j) (by omega), yi_16]
    refine ⟨vp_in_nI (by omega) (by omega), nm_e ?_⟩
    have u := ym_Fof (a := st) (t := zs_i st 648 (16 * k + j) (yq (ym_P0 G i (ym_F st i) k j))) (p := i) (fun z _ _ => yi_r _ _ _ _ (by omega))
    refine ym_held (by omega) hk hj (u.2 hb) ?_
    rw [u.1]
    have z0 : ¬ ym_H0 G i (ym_F st i) k j → zf_MO_pass_213 K B58 B68 (nI i) (nI (yk G i)) (nI (ya G i)) (yx G i) l5 (nI k) (nI j) (nI (16 * k + j)) (zs_i st 648 (16 * k + j) (yq (ym_P0 G i (ym_F st i) k j))) := fun h => h214 0 (yq_f h).symm
    have z1 : ym_H0 G i (ym_F st i) k j → zf_MO_pass_209 K B58 B68 (nI i) (nI (yk G i)) (nI (ya G i)) (yx G i) l5 (nI k) (nI j) (nI (16 * k + j)) (zs_i st 648 (16 * k + j) (yq (ym_P0 G i (ym_F st i) k j))) := fun h => h214 1 (yq_t h).symm
    refine br_c (fun c => z0 (fun q => yq_0.mp c q.1)) (fun c => And.intro (fun c1 => z0 (fun q => q.2.1 (yq_n0.mp c1))) (fun c1 => yi_ne (yk G i) 10 (fun c2 => z1 ⟨yq_n0.mp c, yq_0.mp c1, fun q => absurd q c2⟩) (fun c2 => ?_)))
    have ha := hok.a hi (by omega)
    have he := hok.e hi ⟨by omega, by omega, by omega⟩
    have hx := hok.x hi (by omega)
    have hsz : (zs_i st 648 (16 * k + j) (yq (ym_P0 G i (ym_F st i) k j))).1 635 5 = nI (yn G) := by
      rw [yi_r _ _ _ _ (by omega)]
      exact hP.1.1
    refine ym_meet hok hsz (ym_Sof hS (fun z _ _ => yi_r _ _ _ _ (by omega))) hk ha (fun g hg => ?_)
    refine br_c (fun c3 => z1 ⟨yq_n0.mp c, yq_0.mp c1, fun _ hm => ?_⟩) (fun c3 => ?_)
    · rw [yb_e0] at c3
      rw [hg.mpr hm] at c3
      cases c3
    · have c4 : yp_meet G k (ya G i) := hg.mp (ts_nf (fun q => c3 ((yb_e0 g).mpr q)))
      rw [hx]
      refine ym_one (by omega) hj he ?_
      rw [u.1, ← hx]
      exact br_c (fun c5 => z0 (fun q => yq_0.mp c5 (q.2.2 c2 c4))) (fun c5 => z1 ⟨yq_n0.mp c, yq_0.mp c1, fun _ _ => yq_n0.mp c5⟩)
  unfold zf_MO_pass_105
  rw [yi_256, nI_clamp (n := 256 * i + 16 * k + j) (by omega), ym_v0 hb hk hj, yi_16]
  refine ⟨vp_in_nI (by omega) (by omega), br_c (fun c => ?_) (fun c => And.intro (fun c1 => ?_) (fun c1 => ?_))⟩
  · exact h151 0 (yq_f (fun q => yq_0.mp c q.1)).symm
  · exact h151 0 (yq_f (fun q => q.2 (yq_n0.mp c1))).symm
  · exact h151 1 (yq_t ⟨yq_n0.mp c, yq_0.mp c1⟩).symm
theorem ym_pbase {i : Nat} {K : zs_T → Prop} (hok : yp_ok G) (hP : ym_P b G st) (hS : ym_S G st) (hb : ym_b st i) (hi : i < yn G)
    (hK : ∀ t, zs_ag 648 650 st t → ym_o t 648 (ym_P0 G i (ym_F st i)) → ym_o t 649 (ym_H0 G i (ym_F st i)) → ym_u t (ym_S0 G i (ym_F st i)) → ((¬ nI (yk G i) = 1 → zf_MO_pass_291 K (nI i) (nI (yk G i)) (nI (ya G i)) (yx G i) t) ∧ (nI (yk G i) = 1 → ((¬ yq (yk G i = 1 ∧ ya G i = ye G i) = 0 → zf_MO_pass_291 K (nI i) (nI (yk G i)) (nI (ya G i)) (yx G i) t) ∧ (yq (yk G i = 1 ∧ ya G i = ye G i) = 0 → zf_MO_passMove (nI i) (nI (ya G i)) (yx G i) t (fun u301 => zf_MO_pass_291 K (nI i) (nI (yk G i)) (nI (ya G i)) (yx G i) u301)))))) : zf_MO_pass_53 K (nI i) (nI (yk G i)) (nI (ya G i)) (yx G i) (yq (yk G i = 1 ∧ ya G i = ye G i)) st := by
  have hn := hok.n
  have ha2 := hok.a2 hi
  unfold zf_MO_pass_53
  refine pk_loop (W := fun m r (t : zs_T) => zf_MO_pass_58 K m (nI i) (nI (yk G i)) (nI (ya G i)) (yx G i) (yq (yk G i = 1 ∧ ya G i = ye G i)) (nI r) t) (fun k t => zs_ag 648 650 st t ∧ (∀ r s, r < k → s < 16 → t.1 648 (16 * r + s) = yq (ym_P0 G i (ym_F st i) r s) ∧ t.1 649 (16 * r + s) = yq (ym_H0 G i (ym_F st i) r s)) ∧ ∀ r, r < k → t.1 650 r = yq (ym_S0 G i (ym_F st i) r)) 16 0 st (by omega) ⟨zs_ag.refl, fun r s h => absurd h (by omega), fun r h => absurd h (by omega)⟩ ?_ ?_
  · rintro m t ⟨g1, g2, g3⟩
    exact pk_le 16 16 (fun _ => hK t g1 (fun r s hr hs => (g2 r s hr hs).1) (fun r s hr hs => (g2 r s hr hs).2) g3) (fun h => by omega)
  · rintro m k t hk ⟨g1, g2, g3⟩ ih
    refine pk_le 16 k (fun h => by omega) (fun _ => ?_)
    refine pk_loop (W := fun m2 s (t : zs_T) => zf_MO_pass_68 K (zf_MO_pass_58 K m) m2 (nI i) (nI (yk G i)) (nI (ya G i)) (yx G i) (yq (yk G i = 1 ∧ ya G i = ye G i)) (nI k) (nI s) t) (fun j t => zs_ag 648 650 st t ∧ (∀ r s, (r < k ∧ s < 16) ∨ (r = k ∧ s < j) → t.1 648 (16 * r + s) = yq (ym_P0 G i (ym_F st i) r s) ∧ t.1 649 (16 * r + s) = yq (ym_H0 G i (ym_F st i) r s)) ∧ ∀ r, r < k → t.1 650 r = yq (ym_S0 G i (ym_F st i) r)) 16 0 t (by omega) ⟨g1, fun r s h => g2 r s (by omega) (by omega), g3⟩ ?_ ?_
    · rintro m2 t2 ⟨e1, e2, e3⟩
      have u := ym_Fof (a := st) (t := t2) (p := i) (fun z _ _ => e1.e1 (by omega))
      have hP2 : ym_P b G t2 := hP.of (fun x _ _ => e1.e1 (by omega))
      refine pk_le 16 16 (fun _ => ?_) (fun h => by omega)
      have h266 : ∀ v : Int32, v = yq (ym_S0 G i (ym_F st i) k) → zf_MO_pass_266 K (zf_MO_pass_58 K m) (nI i) (nI (yk G i)) (nI (ya G i)) (yx G i) (yq (yk G i = 1 ∧ ya G i = ye G i)) (nI k) v (nI k) t2 := by
        intro v hv
        unfold zf_MO_pass_266
        rw [hv, yq_nar, nI_clamp (n := k) (by omega), nI_1]
        refine ⟨vp_in_nI (by omega) (by omega), nm_e (ih _ ⟨e1.i (by omega) (by omega), fun r s hr hs => ?_, fun r hr => ?_⟩)⟩
        · rw [yi_r _ _ _ _ (by omega), yi_r _ _ _ _ (by omega)]
          exact e2 r s (by omega)
        · rw [yi_m]
          by_cases c : r = k
          · rw [if_pos ⟨rfl, c⟩, c]
          · rw [if_neg (fun q => c q.2)]
            exact e3 r (by omega)
      have z0 : ¬ ym_S0 G i (ym_F st i) k → zf_MO_pass_265 K (zf_MO_pass_58 K m) (nI i) (nI (yk G i)) (nI (ya G i)) (yx G i) (yq (yk G i = 1 ∧ ya G i = ye G i)) (nI k) (nI k) t2 := fun h => h266 0 (yq_f h).symm
      have z1 : ym_S0 G i (ym_F st i) k → zf_MO_pass_261 K (zf_MO_pass_58 K m) (nI i) (nI (yk G i)) (nI (ya G i)) (yx G i) (yq (yk G i = 1 ∧ ya G i = ye G i)) (nI k) (nI k) t2 := fun h => h266 1 (yq_t h).symm
      rw [yi_16, nI_clamp (n := 16 * i + k) (by omega), ym_v2 (u.2 hb) hk, u.1]
      refine ⟨vp_in_nI (by omega) (by omega), br_c (fun c => z0 (fun q => yq_0.mp c q.1)) (fun c => ym_sets1 hok hP2 hi ?_)⟩
      exact br_c (fun c1 => z1 ⟨yq_n0.mp c, fun q => yq_0.mp c1 q.1⟩) (fun c1 => And.intro (fun c2 => z1 ⟨yq_n0.mp c, fun q => q.2.1 (yq_n0.mp c2)⟩) (fun c2 => pk_eq k (ya G i) (fun c3 => z0 (fun q => q.2 ⟨yq_n0.mp c1, yq_0.mp c2, Or.inl c3⟩)) (fun c3 => z1 ⟨yq_n0.mp c, fun q => q.2.2.elim c3 c3⟩)))
    · rintro m2 j t2 hj ⟨e1, e2, e3⟩ ih2
      have u := ym_Fof (a := st) (t := t2) (p := i) (fun z _ _ => e1.e1 (by omega))
      have hP2 : ym_P b G t2 := hP.of (fun x _ _ => e1.e1 (by omega))
      have hS2 : ym_S G t2 := ym_Sof hS (fun x _ _ => e1.e1 (by omega))
      refine pk_le 16 j (fun h => by omega) (fun _ => ym_sets1 hok hP2 hi ?_)
      have h105 : zf_MO_pass_105 K (zf_MO_pass_58 K m) (zf_MO_pass_68 K (zf_MO_pass_58 K m) m2) (nI i) (nI (yk G i)) (nI (ya G i)) (yx G i) (yq (yk G i = 1 ∧ ya G i = ye G i)) (nI k) (nI j) (yq (ym_lo G i k j)) t2 := by
        refine ym_p105 hok hP2 hS2 (u.2 hb) hi hk hj (ih2 _ ⟨(e1.i (by omega) (by omega)).i (by omega) (by omega), fun r s hrs => ?_, fun r hr => ?_⟩)
        · rw [u.1]
          by_cases c : r = k ∧ s = j
          · rw [c.1, c.2, yi_r _ 649 _ _ (by omega : 648 ≠ 649), yi_s, yi_s]
            exact ⟨rfl, rfl⟩
          · have c2 : 16 * r + s ≠ 16 * k + j := by omega
            rw [yi_r _ 649 _ _ (by omega : 648 ≠ 649), yi_n _ _ _ c2, yi_n _ _ _ c2, yi_r _ 648 _ _ (by omega : 649 ≠ 648)]
            exact e2 r s (by omega)
        · rw [yi_r _ _ _ _ (by omega), yi_r _ _ _ _ (by omega)]
          exact e3 r hr
      have z0 : ¬ ym_lo G i k j → zf_MO_pass_104 K (zf_MO_pass_58 K m) (zf_MO_pass_68 K (zf_MO_pass_58 K m) m2) (nI i) (nI (yk G i)) (nI (ya G i)) (yx G i) (yq (yk G i = 1 ∧ ya G i = ye G i)) (nI k) (nI j) t2 := by
        intro h
        rw [yq_f h] at h105
        exact h105
      have z1 : ym_lo G i k j → zf_MO_pass_100 K (zf_MO_pass_58 K m) (zf_MO_pass_68 K (zf_MO_pass_58 K m) m2) (nI i) (nI (yk G i)) (nI (ya G i)) (yx G i) (yq (yk G i = 1 ∧ ya G i = ye G i)) (nI k) (nI j) t2 := by
        intro h
        rw [yq_t h] at h105
        exact h105
      exact br_c (fun c => z0 (fun q => yq_0.mp c q.1)) (fun c => And.intro (fun c1 => z0 (fun q => q.2.1 (yq_n0.mp c1))) (fun c1 => pk_eq k (ya G i) (fun c2 => z1 ⟨yq_n0.mp c, yq_0.mp c1, Or.inl c2⟩) (fun c2 => yi_ne j (ya G i) (fun c3 => z0 (fun q => q.2.2.elim c2 c3)) (fun c3 => z1 ⟨yq_n0.mp c, yq_0.mp c1, Or.inr c3⟩))))
theorem ym_end {k : Nat} {l1 l3 l4 : Int32} {K : zs_T → Prop} (hk : k ≤ 15) (h : k ≠ 7 ∧ k ≠ 8 ∧ k ≠ 9 ∧ k ≠ 10) (hK : K st) : zf_MO_pass_291 K l1 (nI k) l3 l4 st := by
  unfold zf_MO_pass_291
  refine pk_eq k 7 (fun c => by omega) (fun _ => yi_ne k 8 (fun _ => ?_) (fun c => by omega))
  unfold zf_MO_pass_310
  refine yi_ne k 7 (fun _ => ?_) (fun c => by omega)
  unfold zf_MO_pass_324
  refine yi_ne k 9 (fun _ => ?_) (fun c => by omega)
  unfold zf_MO_pass_338
  exact yi_ne k 10 (fun _ => hK) (fun c => by omega)
theorem ym_pass {i : Nat} {K : zs_T → Prop} (hok : yp_ok G) (hP : ym_P b G st) (hS : ym_S G st) (hb : ym_b st i) (hi : i < yn G)
    (hK : ∀ t, zs_ag 648 650 st t → ym_o t 648 (fun r s => yp_T G i (ym_F st i) 0 r s) → ym_o t 649 (fun r s => yp_T G i (ym_F st i) 1 r s) → ym_u t (fun r => yp_T G i (ym_F st i) 2 r 0) → K t) : zf_MO_pass (nI i) st K := by
  have hn := hok.n
  have hbb := hP.2.2
  have hkk := hok.k hi
  have ha2 := hok.a2 hi
  have main : zf_MO_pass_53 K (nI i) (nI (yk G i)) (nI (ya G i)) (yx G i) (yq (yk G i = 1 ∧ ya G i = ye G i)) st := by
    refine ym_pbase hok hP hS hb hi (fun t g1 o0 o1 o2 => ?_)
    have u := ym_Fof (a := st) (t := t) (p := i) (fun z _ _ => g1.e1 (by omega))
    refine yi_ne (yk G i) 1 (fun k1 => ?_) (fun k1 => And.intro (fun c1 => ?_) (fun c1 => ?_))
    · have h324 : ∀ t', zs_ag 648 650 st t' → ym_o t' 648 (ym_P0 G i (ym_F st i)) → ym_o t' 649 (ym_H0 G i (ym_F st i)) → ym_u t' (fun r => ym_S0 G i (ym_F st i) r ∨ ((yk G i = 7 ∨ yk G i = 8) ∧ r = ya G i) ∨ (yk G i = 7 ∧ r = ye G i)) → zf_MO_pass_324 K (nI i) (nI (yk G i)) (nI (ya G i)) (yx G i) t' := by
        intro t' g p0 p1 p2
        have v := ym_Fof (a := st) (t := t') (p := i) (fun z _ _ => g.e1 (by omega))
        unfold zf_MO_pass_324
        refine yi_ne (yk G i) 9 (fun k9 => ?_) (fun k9 => ?_)
        · unfold zf_MO_pass_338
          refine yi_ne (yk G i) 10 (fun k10 => hK t' g (p0.i (fun r s hr hs => ?_)) (p1.i (fun r s hr hs => ?_)) (p2.i (fun r hr => ?_))) (fun k10 => ?_)
          · simp only [yp_T, ym_P0, ym_lo]
            grind
          · simp only [yp_T, ym_H0, ym_lo]
            grind
          · simp only [yp_T, ym_S0, ym_lo]
            grind
          · rw [hok.x hi (by omega)]
            refine ym_store (by omega) (hok.a hi (by omega)) (hok.e hi ⟨by omega, by omega, by omega⟩) (v.2 hb) p1 p2 (fun t2 a2 q1 q2 => hK t2 (g.trans (a2.wide (by omega) (by omega))) ((p0.of (a2.e1 (by omega))).i (fun r s hr hs => ?_)) (q1.i (fun r s hr hs => ?_)) (q2.i (fun r hr => ?_)))
            · simp only [yp_T, ym_P0, ym_lo]
              grind
            · rw [v.1]
              simp only [yp_T, ym_H0, ym_lo]
              grind
            · rw [v.1]
              simp only [yp_T, ym_S0, ym_lo]
              grind
        · rw [hok.x hi (by omega)]
          refine ym_load (by omega) (hok.a hi (by omega)) (hok.e hi ⟨by omega, by omega, by omega⟩) (v.2 hb) p0 p1 p2 (fun t2 a2 q0 q1 q2 => ?_)
          unfold zf_MO_pass_338
          refine yi_ne (yk G i) 10 (fun k10 => hK t2 (g.trans a2) (q0.i (fun r s hr hs => ?_)) (q1.i (fun r s hr hs => ?_)) (q2.i (fun r hr => ?_))) (fun k10 => by omega)
          · rw [v.1]
            simp only [yp_T, ym_P0, ym_lo]
            grind
          · rw [v.1]
            simp only [yp_T, ym_H0, ym_lo]
            grind
          · rw [v.1]
            simp only [yp_T, ym_S0, ym_lo]
            grind
      have h310 : ∀ t', zs_ag 648 650 st t' → ym_o t' 648 (ym_P0 G i (ym_F st i)) → ym_o t' 649 (ym_H0 G i (ym_F st i)) → ym_u t' (fun r => ym_S0 G i (ym_F st i) r ∨ ((yk G i = 7 ∨ yk G i = 8) ∧ r = ya G i)) → zf_MO_pass_310 K (nI i) (nI (yk G i)) (nI (ya G i)) (yx G i) t' := by
        intro t' g p0 p1 p2
        unfold zf_MO_pass_310
        refine yi_ne (yk G i) 7 (fun k7 => h324 t' g p0 p1 (p2.i (fun r hr => by grind))) (fun k7 => ?_)
        have he := hok.e hi ⟨by omega, by omega, by omega⟩
        rw [hok.x hi (by omega), nI_clamp (n := ye G i) (by omega), yb_n1, yq_T, ← hok.x hi (by omega)]
        refine ⟨?_, nm_e (h324 _ (g.i (by omega) (by omega)) (p0.of (yi_r _ _ _ _ (by omega))) (p1.of (yi_r _ _ _ _ (by omega))) (p2.w.i (fun r hr => by grind)))⟩
        rw [hok.x hi (by omega)]
        exact vp_in_nI (by omega) (by omega)
      have h303 : yk G i = 7 ∨ yk G i = 8 → zf_MO_pass_303 K (nI i) (nI (yk G i)) (nI (ya G i)) (yx G i) t := by
        intro h
        have ha := hok.a hi (by omega)
        unfold zf_MO_pass_303
        rw [nI_clamp (n := ya G i) (by omega), yb_n1, yq_T]
        exact ⟨vp_in_nI (by omega) (by omega), nm_e (h310 _ (g1.i (by omega) (by omega)) (o0.of (yi_r _ _ _ _ (by omega))) (o1.of (yi_r _ _ _ _ (by omega))) (o2.w.i (fun r hr => by grind)))⟩
      unfold zf_MO_pass_291
      exact pk_eq (yk G i) 7 (fun k7 => h303 (Or.inl k7)) (fun k7 => yi_ne (yk G i) 8 (fun k8 => h310 t g1 o0 o1 (o2.i (fun r hr => by grind))) (fun k8 => h303 (Or.inr k8)))
    · have c2 := yq_n0.mp c1
      refine ym_end hkk (by omega) (hK t g1 (o0.i (fun r s hr hs => ?_)) (o1.i (fun r s hr hs => ?_)) (o2.i (fun r hr => ?_)))
      · simp only [yp_T, ym_P0, ym_lo]
        grind
      · simp only [yp_T, ym_H0, ym_lo]
        grind
      · simp only [yp_T, ym_S0, ym_lo]
        grind
    · have c2 : ya G i ≠ ye G i := fun q => yq_0.mp c1 ⟨k1, q⟩
      rw [hok.x hi (by omega)]
      refine ym_move (by omega) (hok.a hi (by omega)) (hok.e hi ⟨by omega, by omega, by omega⟩) (u.2 hb) o0 o1 o2 (fun t2 a2 q0 q1 q2 => ?_)
      refine ym_end hkk (by omega) (hK t2 (g1.trans a2) (q0.i (fun r s hr hs => ?_)) (q1.i (fun r s hr hs => ?_)) (q2.i (fun r hr => ?_)))
      · rw [u.1]
        simp only [yp_T, ym_P0, ym_lo]
        grind
      · rw [u.1]
        simp only [yp_T, ym_H0, ym_lo]
        grind
      · rw [u.1]
        simp only [yp_T, ym_S0, ym_lo]
        grind
  unfold zf_MO_pass
  rw [hP.2.1, nI_add, nI_clamp (n := b + i) (by omega), (hP.1.2 i hi).1, (hP.1.2 i hi).2.1, (hP.1.2 i hi).2.2.1]
  refine ⟨vp_in_nI (by omega) (by omega), vp_in_nI (by omega) (by omega), vp_in_nI (by omega) (by omega), yi_ne (yk G i) 1 (fun k1 => ?_) (fun k1 => ?_)⟩
  · unfold zf_MO_pass_52
    rw [yq_f (fun q => k1 q.1)] at main
    exact main
  · have he := hok.e hi ⟨by omega, by omega, by omega⟩
    have hx := hok.x hi (by omega)
    refine yi_ne (ya G i) (ye G i) (fun k2 => ?_) (fun k2 => ?_) rfl hx
    · unfold zf_MO_pass_52
      rw [yq_f (fun q => k2 q.2)] at main
      exact main
    · rw [yq_t ⟨k1, k2⟩] at main
      exact main
end YP
