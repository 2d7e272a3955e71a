/-! what is free, in the reference: the sweeps; the whole search -/
noncomputable def ym_fc (t : zs_T) : Nat := yp_c (fun x => ¬ t.1 647 x = 0) 3216
def ym_fo (G : yp_G) (t : zs_T) (p r : Nat) : Prop := ∀ j, yp_N G p j → yp_B G (ym_f t) j r
def ym_W (G : yp_G) (u t : zs_T) (g : Bool) : Prop := zs_ag 647 647 u t ∧ ym_fz G t ∧ (∀ B p r, yp_fs G B → r < 16 → B p r → ym_f t p r) ∧ (∀ x, ¬ t.1 647 x = 0 → ¬ u.1 647 x = 0) ∧ (g = false → t.1 647 = u.1 647) ∧ (g = true → ym_fc t < ym_fc u)
def ym_qj (G : yp_G) (t : zs_T) (i r j : Nat) : Prop := ym_f t i r ∧ ∀ j' w, j' < j → w ≤ 200 → ym_nx G i j' = nI w → yp_B G (ym_f t) w r
theorem yi_dn (i : Nat) : nI (i + 1) + (-1) = nI i := by
  rw [← nI_1, Int32.add_assoc, show (1 : Int32) + (-1) = 0 by decide, Int32.add_zero]
section YP
variable {G : yp_G} {b : Nat} {st : zs_T}
theorem ym_Wm {u t : zs_T} {g gm : Bool} {i r : Nat} (hok : yp_ok G) (hi : i ≤ 200) (hr : r < 16) (h : ym_W G u t g) (hz : i ≤ yn G) (hg : gm = true ↔ ym_f t i r ∧ ¬ ym_fo G t i r) : ym_W G u (zs_i t 647 (16 * i + r) (yq (ym_f t i r ∧ ym_fo G t i r))) (g || gm) := by
  obtain ⟨h1, h2, h3, h4, h5, h6⟩ := h
  have le : ∀ x, ¬ (zs_i t 647 (16 * i + r) (yq (ym_f t i r ∧ ym_fo G t i r))).1 647 x = 0 → ¬ t.1 647 x = 0 := by
    intro x z
    rw [yi_m] at z
    by_cases c : x = 16 * i + r
    · rw [if_pos ⟨rfl, c⟩] at z
      rw [c]
      exact (yq_n0.mp z).1
    · rw [if_neg (fun q => c q.2)] at z
      exact z
  refine ⟨h1.i (by omega) (by omega), fun p r' hp hr' => ?_, fun B p r' hB hr' z => ?_, fun x z => h4 x (le x z), fun e => ?_, fun e => ?_⟩
  · rw [yi_m]
    by_cases c : 16 * p + r' = 16 * i + r
    · rw [if_pos ⟨rfl, c⟩]
      exact yq_bz _
    · rw [if_neg (fun q => c q.2)]
      exact h2 p r' hp hr'
  · unfold ym_f
    rw [yi_m]
    by_cases c : 16 * p + r' = 16 * i + r
    · have c1 : p = i := by omega
      have c2 : r' = r := by omega
      subst c1 c2
      rw [if_pos ⟨rfl, rfl⟩, yq_n0]
      refine ⟨h3 B p r' hB hr' z, fun j hN => ?_⟩
      have hj := yp_N_le hN
      exact yp_B_mono (fun z => h3 B j r' hB hr' z) (fun hk hne z => h3 B j (ya G j) hB (hok.a (by omega) (by omega)) z) ((hB p r' z).2.2 j hN)
    · rw [if_neg (fun q => c q.2)]
      exact h3 B p r' hB hr' z
  · rw [Bool.or_eq_false_iff] at e
    rw [← h5 e.1]
    funext x
    rw [yi_m]
    by_cases c : x = 16 * i + r
    · rw [if_pos ⟨rfl, c⟩, c]
      refine (yq_of (h2 i r hz hr) ⟨fun z => ⟨z, ?_⟩, fun z => z.1⟩).symm
      apply Classical.byContradiction
      intro z2
      rw [hg.mpr ⟨z, z2⟩] at e
      cases e.2
    · rw [if_neg (fun q => c q.2)]
  · have l1 : ym_fc t ≤ ym_fc u := yp_c_mono (fun x _ => h4 x)
    have l2 : ym_fc (zs_i t 647 (16 * i + r) (yq (ym_f t i r ∧ ym_fo G t i r))) ≤ ym_fc t := yp_c_mono (fun x _ => le x)
    cases gm with
    | false => have := h6 (by simpa using e); omega
    | true =>
      have z := hg.mp rfl
      have : ym_fc (zs_i t 647 (16 * i + r) (yq (ym_f t i r ∧ ym_fo G t i r))) < ym_fc t := by
        refine yp_c_lt (k := 16 * i + r) (fun x _ => le x) (by omega) (fun q => q ?_) z.1
        rw [yi_s]
        exact yq_f (fun q => z.2 q.2)
      omega
theorem ym_free {K : zs_T → Prop} (hok : yp_ok G) (hP : ym_P b G st) (hS : ym_S G st) (hR : ∀ p, p < 201 → st.1 643 p = yq (yp_R G p)) (hX : ym_X0 G st) (hK : ∀ t, zs_ag 647 647 st t → ym_fz G t → (∀ p r, p ≤ yn G → r < 16 → (ym_f t p r ↔ yp_fr G p r)) → K t) : zf_MO_findFree st K := by
  have hn := hok.n
  refine ym_free0 hok hP hS hR (fun t0 h0 => ?_)
  obtain ⟨e1, e2⟩ := h0
  have e3 : ∀ p r, p ≤ yn G → r < 16 → (ym_f t0 p r ↔ ym_g0 G p r) := by
    intro p r hp hr
    unfold ym_f
    rw [e2 p r hr (by omega), yq_n0]
  refine loop_m (σ := Bool × zs_T) (fun n s => zf_MO_findFree_138 K n (yb s.1) s.2) (fun s => (zs_ag 647 647 st s.2 ∧ ym_fz G s.2 ∧ (∀ B p r, yp_fs G B → r < 16 → B p r → ym_f s.2 p r) ∧ ∀ p r, p ≤ yn G → r < 16 → ym_f s.2 p r → ym_g0 G p r) ∧ (s.1 = false → ∀ p r, p ≤ yn G → r < 16 → ym_f s.2 p r → ym_fo G s.2 p r)) (fun s => ym_fc s.2 + (if s.1 then 1 else 0)) ?_ (true, t0) ⟨⟨e1, fun p r hp hr => ?_, fun B p r hB hr z => (e3 p r (yp_R_le (hB p r z).1) hr).mpr ⟨(hB p r z).1, (hB p r z).2.1⟩, fun p r hp hr => (e3 p r hp hr).mp⟩, fun h => by cases h⟩
  · rintro n ⟨g, u⟩ ⟨⟨u1, u2, u3, u4⟩, u6⟩ ih
    cases g with
    | false =>
      refine ⟨fun _ => hK u u1 u2 (fun p r hp hr => ⟨fun z => ⟨fun p r => p ≤ yn G ∧ r < 16 ∧ ym_f u p r, ?_, ⟨hp, hr, z⟩⟩, fun ⟨B, hB, z⟩ => u3 B p r hB hr z⟩), fun h => absurd rfl h⟩
      rintro p r ⟨hp, hr, z⟩
      refine ⟨(u4 p r hp hr z).1, (u4 p r hp hr z).2, fun j hN => ?_⟩
      have hj := yp_N_le hN
      exact yp_B_mono (fun z => ⟨hj, hr, z⟩) (fun hk hne z => ⟨hj, hok.a (by omega) (by omega), z⟩) (u6 rfl p r hp hr z j hN)
    | true =>
      refine ⟨(fun h => by cases h), fun _ => ?_⟩
      have hPu : ym_P b G u := hP.of (fun x _ _ => u1.e1 (by omega))
      have key := pk_loopD (W := fun m k (s : Bool × zs_T) => zf_MO_findFree_149 K (zf_MO_findFree_138 K n) m (yb s.1) (nI k + (-1)) s.2) (fun k s => k ≤ yn G + 1 ∧ ym_W G u s.2 s.1 ∧ (s.1 = false → ∀ p r, k ≤ p → p ≤ yn G → r < 16 → ym_f u p r → ym_fo G u p r)) ?_ ?_ (yn G + 1) (false, u) ⟨by omega, ⟨zs_ag.refl, u2, u3, fun _ z => z, fun _ => rfl, (fun h => by cases h)⟩, fun _ p r h h2 => by omega⟩
      · rw [yi_dn] at key
        rw [hPu.1.1]
        exact ⟨_, key⟩
      · rintro m ⟨g, w⟩ ⟨_, ⟨w1, w2, w3, w4, w5, w6⟩, w7⟩
        refine ⟨fun _ => ih (g, w) ⟨⟨u1.trans w1, w2, w3, fun p r hp hr z => u4 p r hp hr (w4 _ z)⟩, fun e p r hp hr z => ?_⟩ ?_, fun h => absurd (by decide) h⟩
        · have e' : w.1 647 = u.1 647 := w5 e
          have e4 : ym_f w = ym_f u := by
            funext p r
            unfold ym_f
            rw [e']
          have z' : ym_f w p r := z
          show ym_fo G w p r
          unfold ym_fo
          rw [e4] at z' ⊢
          exact w7 e p r (by omega) hp hr z'
        · show ym_fc w + (if g then 1 else 0) < ym_fc u + (if true then 1 else 0)
          have l : ym_fc w ≤ ym_fc u := yp_c_mono (fun x _ => w4 x)
          cases g with
          | false => simp; omega
          | true => have := w6 rfl; simp; omega
      · rintro m i ⟨g, w⟩ ⟨hi, w1, w7⟩ ih2
        show (nI (i + 1) + (-1) < 0 → _) ∧ (¬ nI (i + 1) + (-1) < 0 → _)
        rw [yi_dn]
        refine ⟨fun h => absurd h (nI_pos (by omega)), fun _ => ?_⟩
        refine pk_loop (W := fun m2 r (s : Bool × zs_T) => zf_MO_findFree_155 K (zf_MO_findFree_138 K n) (zf_MO_findFree_149 K (zf_MO_findFree_138 K n) m) m2 (yb s.1) (nI i) (nI r) s.2) (fun r s => ym_W G u s.2 s.1 ∧ (s.1 = false → ∀ p r', (i + 1 ≤ p ∧ p ≤ yn G ∧ r' < 16) ∨ (p = i ∧ r' < r) → ym_f u p r' → ym_fo G u p r')) 16 0 (g, w) (by omega) ⟨w1, fun e p r' h => w7 e p r' (by omega) (by omega) (by omega)⟩ ?_ ?_
        · rintro m2 ⟨g', w'⟩ ⟨x1, x7⟩
          refine pk_le 16 16 (fun _ => ih2 (g', w') ⟨by omega, x1, fun e p r' h h2 h3 => x7 e p r' (by omega)⟩) (fun h => by omega)
        · rintro m2 r ⟨g', w'⟩ hr ⟨x1, x7⟩ ih3
          have hPw : ym_P b G w' := hPu.of (fun x _ _ => x1.1.e1 (by omega))
          have hSw : ym_S G w' := ym_Sof hS (fun x _ _ => (x1.1.e1 (by omega)).trans (u1.e1 (by omega)))
          have hXw : ym_X0 G w' := by
            intro p hRp
            rw [(ym_Fof (a := st) (t := w') (p := p) (fun x _ _ => (x1.1.e1 (by omega)).trans (u1.e1 (by omega)))).1]
            exact hX p hRp
          have hv : w'.1 647 (16 * i + r) = yq (ym_f w' i r) := yq_of (x1.2.1 i r (by omega) hr) Iff.rfl
          refine pk_le 16 r (fun h => by omega) (fun _ => ?_)
          show vp_in (16 * nI i + nI r) 3216 ∧ _
          rw [yi_16, nI_clamp (n := 16 * i + r) (by omega)]
          refine ⟨vp_in_nI (by omega) (by omega), ?_⟩
          show ∃ n', zf_MO_findFree_177 K (zf_MO_findFree_138 K n) (zf_MO_findFree_149 K (zf_MO_findFree_138 K n) m) (zf_MO_findFree_155 K (zf_MO_findFree_138 K n) (zf_MO_findFree_149 K (zf_MO_findFree_138 K n) m) m2) n' (yb g') (nI i) (nI r) (w'.1 647 (16 * i + r)) 0 w'
          rw [hv, yq_i (show ym_f w' i r ↔ ym_qj G w' i r 0 from ⟨fun h => ⟨h, fun j' w h => absurd h (by omega)⟩, fun h => h.1⟩)]
          refine pk_loop (W := fun m3 j (t : zs_T) => zf_MO_findFree_177 K (zf_MO_findFree_138 K n) (zf_MO_findFree_149 K (zf_MO_findFree_138 K n) m) (zf_MO_findFree_155 K (zf_MO_findFree_138 K n) (zf_MO_findFree_149 K (zf_MO_findFree_138 K n) m) m2) m3 (yb g') (nI i) (nI r) (yq (ym_qj G w' i r j)) (nI j) t) (fun _ t => t = w') 2 0 w' (by omega) rfl ?_ ?_
          · rintro m3 t rfl
            have e5 : ym_qj G t i r 2 ↔ ym_f t i r ∧ ym_fo G t i r := by
              refine ⟨fun z => ⟨z.1, fun j hN => ?_⟩, fun z => ⟨z.1, fun j' w hj' hw e => ?_⟩⟩
              · obtain ⟨j', hj', e'⟩ := ym_N_nx hN
                exact z.2 j' j hj' (Nat.le_trans (yp_N_le hN) hn) e'
              · rcases ym_nx_N (G := G) (i := i) (j := j') (by omega) with e' | ⟨w2, e', hN⟩
                · rw [e'] at e
                  exact absurd e.symm (yi_m1 (by omega))
                · have hw2 := yp_N_le hN
                  rw [e'] at e
                  have c : w2 = w := (nI_eq (by omega) (by omega)).mp e
                  subst c
                  exact z.2 w2 hN
            obtain ⟨gm, hgm⟩ : ∃ gm : Bool, gm = true ↔ ym_f t i r ∧ ¬ ym_fo G t i r := by
              by_cases c : ym_f t i r ∧ ¬ ym_fo G t i r
              · exact ⟨true, ⟨fun _ => c, fun _ => rfl⟩⟩
              · exact ⟨false, ⟨(fun h => by cases h), fun h => absurd h c⟩⟩
            have fin : zf_MO_findFree_252 K (zf_MO_findFree_138 K n) (zf_MO_findFree_149 K (zf_MO_findFree_138 K n) m) (zf_MO_findFree_155 K (zf_MO_findFree_138 K n) (zf_MO_findFree_149 K (zf_MO_findFree_138 K n) m) m2) (nI i) (nI r) (yq (ym_qj G t i r 2)) (yb (g' || gm)) t := by
              unfold zf_MO_findFree_252
              rw [yi_16, nI_clamp (n := 16 * i + r) (by omega), yq_nar, nI_1, yq_i e5]
              refine ⟨vp_in_nI (by omega) (by omega), nm_e (ih3 (g' || gm, zs_i t 647 (16 * i + r) (yq (ym_f t i r ∧ ym_fo G t i r))) ⟨ym_Wm hok (by omega) hr x1 (by omega) hgm, fun e p r' h z => ?_⟩)⟩
              have e' : (g' || gm) = false := e
              rw [Bool.or_eq_false_iff] at e'
              by_cases c : p = i ∧ r' = r
              · obtain ⟨rfl, rfl⟩ := c
                have e6 : ym_f t = ym_f u := by
                  funext p r
                  unfold ym_f
                  rw [x1.2.2.2.2.1 e'.1]
                rw [← e6] at z
                apply Classical.byContradiction
                intro z2
                have e7 : ¬ ym_fo G t p r' := by
                  unfold ym_fo at z2 ⊢
                  rw [e6]
                  exact z2
                rw [hgm.mpr ⟨z, e7⟩] at e'
                cases e'.2
              · exact x7 e'.1 p r' (by omega) z
            refine pk_le 2 2 (fun _ => ?_) (fun h => by omega)
            cases g' with
            | true =>
              rw [Bool.true_or] at fin
              exact ⟨fun _ => fin, fun c => absurd c (by decide)⟩
            | false =>
              rw [Bool.false_or] at fin
              refine ⟨fun c => absurd rfl c, fun _ => ?_⟩
              rw [yi_16, nI_clamp (n := 16 * i + r) (by omega), hv]
              refine ⟨vp_in_nI (by omega) (by omega), And.intro (fun c => ?_) (fun c => ?_)⟩
              · have c2 : gm = false := by
                  cases gm with
                  | false => rfl
                  | true =>
                    have c3 := hgm.mp rfl
                    rw [yq_t c3.1] at c
                    have c4 : ym_qj G t i r 2 := yq_n0.mp (by rw [c]; decide)
                    exact absurd (e5.mp c4).2 c3.2
                rw [c2] at fin
                exact fin
              · have c2 : gm = true := by
                  cases gm with
                  | true => rfl
                  | false =>
                    refine absurd (yq_i ?_) c
                    rw [e5]
                    refine ⟨fun z => z.1, fun z => ⟨z, ?_⟩⟩
                    apply Classical.byContradiction
                    intro z2
                    cases hgm.mpr ⟨z, z2⟩
                rw [c2] at fin
                exact fin
          · rintro m3 j t hj rfl ih4
            have h219 : ∀ p : Prop, (p ↔ ym_qj G t i r (j + 1)) → zf_MO_findFree_219 K (zf_MO_findFree_138 K n) (zf_MO_findFree_149 K (zf_MO_findFree_138 K n) m) (zf_MO_findFree_155 K (zf_MO_findFree_138 K n) (zf_MO_findFree_149 K (zf_MO_findFree_138 K n) m) m2) (zf_MO_findFree_177 K (zf_MO_findFree_138 K n) (zf_MO_findFree_149 K (zf_MO_findFree_138 K n) m) (zf_MO_findFree_155 K (zf_MO_findFree_138 K n) (zf_MO_findFree_149 K (zf_MO_findFree_138 K n) m) m2) m3) (yb g') (nI i) (nI r) (nI j) (yq p) t := by
              intro p hp
              unfold zf_MO_findFree_219
              rw [nI_1, yq_i hp]
              exact ih4 t rfl
            have z0 : ¬ ym_qj G t i r (j + 1) → zf_MO_findFree_218 K (zf_MO_findFree_138 K n) (zf_MO_findFree_149 K (zf_MO_findFree_138 K n) m) (zf_MO_findFree_155 K (zf_MO_findFree_138 K n) (zf_MO_findFree_149 K (zf_MO_findFree_138 K n) m) m2) (zf_MO_findFree_177 K (zf_MO_findFree_138 K n) (zf_MO_findFree_149 K (zf_MO_findFree_138 K n) m) (zf_MO_findFree_155 K (zf_MO_findFree_138 K n) (zf_MO_findFree_149 K (zf_MO_findFree_138 K n) m) m2) m3) (yb g') (nI i) (nI r) (nI j) t := by
              intro h
              have z := h219 False ⟨False.elim, h⟩
              rw [yq_f id] at z
              exact z
            have z1 : ym_qj G t i r (j + 1) → zf_MO_findFree_214 K (zf_MO_findFree_138 K n) (zf_MO_findFree_149 K (zf_MO_findFree_138 K n) m) (zf_MO_findFree_155 K (zf_MO_findFree_138 K n) (zf_MO_findFree_149 K (zf_MO_findFree_138 K n) m) m2) (zf_MO_findFree_177 K (zf_MO_findFree_138 K n) (zf_MO_findFree_149 K (zf_MO_findFree_138 K n) m) (zf_MO_findFree_155 K (zf_MO_findFree_138 K n) (zf_MO_findFree_149 K (zf_MO_findFree_138 K n) m) m2) m3) (yb g') (nI i) (nI r) (nI j) t := by
              intro h
              have z := h219 True ⟨fun _ => h, fun _ => trivial⟩
              rw [← yq_T] at z
              exact z
            have up : ym_qj G t i r j → (∀ w, w ≤ 200 → ym_nx G i j = nI w → yp_B G (ym_f t) w r) → ym_qj G t i r (j + 1) := by
              intro q q2
              refine ⟨q.1, fun j' w hj' hw e => ?_⟩
              by_cases c : j' = j
              · subst c; exact q2 w hw e
              · exact q.2 j' w (by omega) hw e
            refine pk_le 2 j (fun h => by omega) (fun _ => br_c (fun c => z0 (fun q => yq_0.mp c ⟨q.1, fun j' w hj' => q.2 j' w (by omega)⟩)) (fun c => ?_))
            have c' := yq_n0.mp c
            have hRi : yp_R G i := (u4 i r (by omega) hr (x1.2.2.2.1 _ c'.1)).1
            refine ym_next hok hPw (by omega) hj ?_
            rcases ym_nx_N (G := G) (i := i) (j := j) (by omega) with e | ⟨w2, e, hN⟩
            · refine ⟨fun _ => z1 (up c' (fun w hw e' => ?_)), fun h => absurd e h⟩
              rw [e] at e'
              exact absurd e'.symm (yi_m1 (by omega))
            · have hw2 := yp_N_le hN
              rw [e]
              refine ⟨fun h => absurd h (yi_m1 (by omega)), fun _ => ym_next hok hPw (by omega) hj ?_⟩
              rw [e]
              refine ym_before hok hPw hSw hXw (yp_R_s hRi hN) hr x1.2.1 ?_
              refine br_c (fun c5 => z0 (fun q => yq_0.mp c5 (q.2 j w2 (by omega) (by omega) e))) (fun c5 => z1 (up c' (fun w hw e' => ?_)))
              rw [e] at e'
              have c6 : w2 = w := (nI_eq (by omega) (by omega)).mp e'
              subst c6
              exact yq_n0.mp c5
  · show zs_bz (t0.1 647 (16 * p + r))
    rw [e2 p r hr (by omega)]
    exact yq_bz _
/-- all that the reference has found -/
def ym_X (b : Nat) (G : yp_G) (t : zs_T) : Prop := ym_P b G t ∧ ym_S G t ∧ (∀ p, p < 201 → t.1 643 p = yq (yp_R G p)) ∧ (∀ p, p ≤ yn G → ym_b t p) ∧ ym_X0 G t ∧ (∀ p q r s, p ≤ yn G → ym_F t p q r s → yp_R G p) ∧ ym_fz G t ∧ ∀ p r, p ≤ yn G → r < 16 → (ym_f t p r ↔ yp_fr G p r)
theorem ym_find {K : zs_T → Prop} (hok : yp_ok G) (hD : yp_D b G st) (hb : b ≤ 200) (hK : ∀ t, zs_ag 641 650 (zs_i st 635 9 (nI b)) t → ym_X b G t → K t) : zf_MO_find (nI b) st K := by
  unfold zf_MO_find
  refine nm_e ?_
  have hP : ym_P b G (zs_i st 635 9 (nI b)) := by
    refine ⟨⟨?_, fun i hi => ?_⟩, yi_s _ _ _ _, hb⟩
    · rw [yi_n _ _ _ (by omega)]
      exact hD.1
    · rw [yi_r _ _ _ _ (by omega : 636 ≠ 635), yi_r _ _ _ _ (by omega : 637 ≠ 635), yi_r _ _ _ _ (by omega : 638 ≠ 635), yi_r _ _ _ _ (by omega : 639 ≠ 635)]
      exact hD.2 i hi
  refine ym_sets hok hP (fun t1 a1 s1 => ?_)
  have hP1 : ym_P b G t1 := hP.of (fun x _ _ => a1.e1 (by omega))
  refine ym_reached hok hP1 (fun t2 a2 s2 => ?_)
  have hP2 : ym_P b G t2 := hP1.of (fun x _ _ => a2.e1 (by omega))
  have hS2 : ym_S G t2 := ym_Sof s1 (fun x _ _ => a2.e1 (by omega))
  refine ym_facts hok hP2 hS2 s2 (fun t3 a3 b3 x3 r3 => ?_)
  have hP3 : ym_P b G t3 := hP2.of (fun x _ _ => a3.e1 (by omega))
  have hS3 : ym_S G t3 := ym_Sof hS2 (fun x _ _ => a3.e1 (by omega))
  have hR3 : ∀ p, p < 201 → t3.1 643 p = yq (yp_R G p) := by
    rw [a3.e1 (by omega)]
    exact s2
  refine ym_free hok hP3 hS3 hR3 x3 (fun t4 a4 z4 f4 => hK t4 ((((a1.wide (by omega) (by omega)).trans (a2.wide (by omega) (by omega))).trans (a3.wide (by omega) (by omega))).trans (a4.wide (by omega) (by omega))) ⟨hP3.of (fun x _ _ => a4.e1 (by omega)), ym_Sof hS3 (fun x _ _ => a4.e1 (by omega)), ?_, fun p hp => ?_, fun p hRp => ?_, fun p q r s hp => ?_, z4, f4⟩)
  · rw [a4.e1 (by omega)]
    exact hR3
  · exact (ym_Fof (fun x _ _ => a4.e1 (by omega))).2 (b3 p hp)
  · rw [(ym_Fof (a := t3) (t := t4) (p := p) (fun x _ _ => a4.e1 (by omega))).1]
    exact x3 p hRp
  · rw [(ym_Fof (a := t3) (t := t4) (p := p) (fun x _ _ => a4.e1 (by omega))).1]
    exact r3 p q r s hp
end YP
