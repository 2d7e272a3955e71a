/-! what can be reached, in the reference -/
noncomputable def yq (p : Prop) : Int32 := @ite Int32 p (Classical.propDecidable p) 1 0
theorem yq_t {p : Prop} (h : p) : yq p = 1 := if_pos h
theorem yq_f {p : Prop} (h : ¬ p) : yq p = 0 := if_neg h
theorem yq_0 {p : Prop} : yq p = 0 ↔ ¬ p := by
  by_cases h : p
  · rw [yq_t h]; exact ⟨(fun e => by cases e), fun e => absurd h e⟩
  · rw [yq_f h]; exact ⟨fun _ => h, fun _ => rfl⟩
theorem yq_n0 {p : Prop} : ¬ yq p = 0 ↔ p := by rw [yq_0]; exact Classical.not_not
theorem yq_bz (p : Prop) : zs_bz (yq p) := by
  by_cases h : p
  · rw [yq_t h]; exact zs_b1
  · rw [yq_f h]; exact zs_b0
theorem yq_of {v : Int32} {p : Prop} (h : zs_bz v) (hp : ¬ v = 0 ↔ p) : v = yq p := by
  by_cases c : p
  · rw [yq_t c]; exact h.resolve_left (hp.mpr c)
  · rw [yq_f c]; exact Classical.byContradiction (fun e => c (hp.mp e))
theorem yq_i {p q : Prop} (h : p ↔ q) : yq p = yq q := by rw [propext h]
theorem yq_nar (p : Prop) : vp_nar .boolean (yq p) = yq p := zs_nz (yq_bz p)
def ym_nx (G : yp_G) (i j : Nat) : Int32 := if i = yn G ∨ yk G i = 14 then -1 else if j = 0 then (if yk G i = 12 then nI (min (ya G i) (yn G)) else nI (i + 1)) else (if yk G i = 13 then nI (min (ye G i) (yn G)) else -1)
section YO
variable {G : yp_G} {b : Nat} {st : zs_T}
theorem yi_min2 {a n : Nat} {A : Int32 → Prop} (ha : a < 2 ^ 31) (hn : n < 2 ^ 31) (h : A (nI (min a n))) : (nI a ≤ nI n → A (nI a)) ∧ (¬ nI a ≤ nI n → A (nI n)) := by
  refine pk_le a n (fun c => ?_) (fun c => ?_)
  · rw [show min a n = a by omega] at h; exact h
  · rw [show min a n = n by omega] at h; exact h
theorem ym_next {i j : Nat} {K : Int32 → zs_T → Prop} (hok : yp_ok G) (hP : ym_P b G st) (hi : i ≤ yn G) (hj : j < 2) (hK : K (ym_nx G i j) st) : zf_MO_next (nI i) (nI j) st K := by
  have hn := hok.n
  have hb := hP.2.2
  unfold zf_MO_next
  unfold ym_nx at hK
  rw [hP.1.1, hP.2.1, nI_add, nI_clamp (n := b + i) (by omega)]
  refine pk_eq i (yn G) (fun c => ?_) (fun c => ?_)
  · rw [if_pos (Or.inl c)] at hK; exact hK
  · have hin : i < yn G := by omega
    have hk := hok.k hin
    have ha := hok.a2 hin
    obtain ⟨c1, c2, c3, c4⟩ := hP.1.2 i hin
    have iv : vp_in (nI (b + i)) 400 := vp_in_nI (by omega) (by omega)
    rw [c1, c2, c3]
    refine ⟨iv, And.intro (fun c14 => ⟨iv, ?_⟩) (fun c14 => ?_)⟩
    · have d14 : yk G i ≠ 14 := fun e => c14 (by rw [e]; rfl)
      rw [if_neg (by omega)] at hK
      have h84 : ∀ v : Int32, (yk G i = 12 → v = nI (min (ya G i) (yn G))) → (yk G i = 13 → v = nI (min (ye G i) (yn G))) → zf_MO_next_84 K (nI i) (nI j) v st := by
        intro v v1 v2
        unfold zf_MO_next_84
        rw [hP.2.1, nI_add, nI_clamp (n := b + i) (by omega), c1]
        refine And.intro (fun cj => ⟨iv, ?_⟩) (fun cj => ⟨iv, ?_⟩)
        · have dj : j ≠ 0 := fun e => cj (by rw [e]; rfl)
          rw [if_neg dj] at hK
          refine And.intro (fun c13 => ?_) (fun c13 => ?_)
          · have d13 : yk G i ≠ 13 := fun e => c13 (by rw [e]; rfl)
            rw [if_neg d13] at hK; exact hK
          · have d13 : yk G i = 13 := (nI_eq (by omega) (by omega)).mp c13
            rw [if_pos d13] at hK; rw [v2 d13]; exact hK
        · have dj : j = 0 := (nI_eq (a := j) (b := 0) (by omega) (by omega)).mp cj
          rw [if_pos dj] at hK
          refine And.intro (fun c12 => ?_) (fun c12 => ?_)
          · have d12 : yk G i ≠ 12 := fun e => c12 (by rw [e]; rfl)
            rw [if_neg d12] at hK; rw [nI_1]; exact hK
          · have d12 : yk G i = 12 := (nI_eq (by omega) (by omega)).mp c12
            rw [if_pos d12] at hK; rw [v1 d12]; exact hK
      refine And.intro (fun c12 => ⟨iv, ?_⟩) (fun c12 => ⟨iv, ?_⟩)
      · have d12 : yk G i ≠ 12 := fun e => c12 (by rw [e]; rfl)
        unfold zf_MO_next_67
        rw [hP.1.1]
        by_cases d13 : yk G i = 13
        · have he := hok.e2 hin (by omega)
          rw [hok.x hin (by omega)]
          exact yi_min2 (A := fun v => zf_MO_next_84 K (nI i) (nI j) v st) (by omega) (by omega) (h84 _ (fun e => absurd e d12) (fun _ => rfl))
        · exact br_c (fun _ => h84 _ (fun e => absurd e d12) (fun e => absurd e d13)) (fun _ => h84 _ (fun e => absurd e d12) (fun e => absurd e d13))
      · have d12 : yk G i = 12 := (nI_eq (by omega) (by omega)).mp c12
        unfold zf_MO_next_67
        rw [hP.1.1]
        exact yi_min2 (A := fun v => zf_MO_next_84 K (nI i) (nI j) v st) (by omega) (by omega) (h84 _ (fun _ => rfl) (fun e => by omega))
    · have d14 : yk G i = 14 := (nI_eq (by omega) (by omega)).mp c14
      rw [if_pos (Or.inr d14)] at hK; exact hK
theorem ym_nx_N {i j : Nat} (hi : i ≤ yn G) : ym_nx G i j = -1 ∨ ∃ t, ym_nx G i j = nI t ∧ yp_N G i t := by
  unfold ym_nx
  by_cases c : i = yn G ∨ yk G i = 14
  · rw [if_pos c]; exact Or.inl rfl
  · rw [if_neg c]
    by_cases cj : j = 0
    · rw [if_pos cj]
      by_cases c12 : yk G i = 12
      · rw [if_pos c12]; exact Or.inr ⟨_, rfl, by omega, Or.inr (Or.inl ⟨c12, rfl⟩)⟩
      · rw [if_neg c12]; exact Or.inr ⟨_, rfl, by omega, Or.inl ⟨c12, by omega, rfl⟩⟩
    · rw [if_neg cj]
      by_cases c13 : yk G i = 13
      · rw [if_pos c13]; exact Or.inr ⟨_, rfl, by omega, Or.inr (Or.inr ⟨c13, rfl⟩)⟩
      · rw [if_neg c13]; exact Or.inl rfl
theorem ym_N_nx {i t : Nat} (h : yp_N G i t) : ∃ j, j < 2 ∧ ym_nx G i j = nI t := by
  obtain ⟨h1, ⟨h2, h3, h4⟩ | ⟨h2, h4⟩ | ⟨h2, h4⟩⟩ := h
  · exact ⟨0, by omega, by unfold ym_nx; rw [if_neg (by omega), if_pos rfl, if_neg h2, h4]⟩
  · exact ⟨0, by omega, by unfold ym_nx; rw [if_neg (by omega), if_pos rfl, if_pos h2, h4]⟩
  · exact ⟨1, by omega, by unfold ym_nx; rw [if_neg (by omega), if_neg (by omega), if_pos h2, h4]⟩
theorem ym_nx_e {i : Nat} (h : i = yn G ∨ yk G i = 14) (j : Nat) : ym_nx G i j = -1 := by unfold ym_nx; rw [if_pos h]
theorem ym_nx_0 {i : Nat} (hok : yp_ok G) (hi : i ≤ yn G) : ym_nx G i 0 = -1 ↔ i = yn G ∨ yk G i = 14 := by
  have hn := hok.n
  refine ⟨fun h => Classical.byContradiction (fun c => ?_), fun h => ym_nx_e h 0⟩
  unfold ym_nx at h
  rw [if_neg c, if_pos rfl] at h
  by_cases c12 : yk G i = 12
  · rw [if_pos c12] at h; exact yi_m1 (by omega) h
  · rw [if_neg c12] at h; exact yi_m1 (by omega) h
noncomputable def ym_rc (t : zs_T) : Nat := yp_c (fun p => t.1 643 p = 0) 201
def ym_rI (G : yp_G) (t : zs_T) : Prop := (∀ p, p < 201 → zs_bz (t.1 643 p) ∧ (¬ t.1 643 p = 0 → yp_R G p)) ∧ ¬ t.1 643 0 = 0
def ym_rS (G : yp_G) (a t : zs_T) (g : Bool) : Prop := zs_ag 643 643 a t ∧ ym_rI G t ∧ (g = false → t = a) ∧ (g = true → ym_rc t < ym_rc a)
theorem ym_reached {K : zs_T → Prop} (hok : yp_ok G) (hP : ym_P b G st) (hK : ∀ t, zs_ag 643 643 st t → (∀ p, p < 201 → t.1 643 p = yq (yp_R G p)) → K t) : zf_MO_findReached st K := by
  have hn := hok.n
  unfold zf_MO_findReached
  refine pk_loop (W := fun m k (t : zs_T) => zf_MO_findReached_2 K m (nI k) t) (fun k t => zs_ag 643 643 st t ∧ ∀ p, p < k → t.1 643 p = if p = 0 then 1 else 0) 201 0 st (by omega) ⟨zs_ag.refl, fun j h => by omega⟩ ?_ ?_
  · rintro m t ⟨h1, h2⟩
    refine pk_lt 200 201 (fun _ => ?_) (fun h => by omega)
    have hI : ym_rI G t := by
      refine ⟨fun p hp => ?_, ?_⟩
      · rw [h2 p hp]
        by_cases c : p = 0
        · rw [if_pos c, c]; exact ⟨zs_b1, fun _ => yp_R_0 G⟩
        · rw [if_neg c]; exact ⟨zs_b0, fun h => absurd rfl h⟩
      · rw [h2 0 (by omega), if_pos rfl]; decide
    refine loop_m (σ := Bool × zs_T) (fun n s => zf_MO_findReached_32 K n (yb s.1) s.2) (fun s => zs_ag 643 643 st s.2 ∧ ym_rI G s.2 ∧ (s.1 = false → ∀ i u, ¬ s.2.1 643 i = 0 → yp_N G i u → ¬ s.2.1 643 u = 0)) (fun s => ym_rc s.2 + (if s.1 then 1 else 0)) ?_ (true, t) ⟨h1, hI, fun h => by cases h⟩
    rintro n ⟨g, u⟩ ⟨u1, u2, u3⟩ ih
    cases g with
    | false =>
      refine ⟨fun _ => hK u u1 (fun p hp => yq_of (u2.1 p hp).1 ⟨(u2.1 p hp).2, fun h => ?_⟩), fun h => absurd rfl h⟩
      exact h (fun p => ¬ u.1 643 p = 0) u2.2 (fun i j hi hN => u3 rfl i j hi hN)
    | true =>
      refine ⟨(fun h => by cases h), fun _ => ?_⟩
      have hPu : ym_P b G u := hP.of (fun x hx hx' => u1.e1 (by omega))
      refine pk_loop (W := fun m i (t : Bool × zs_T) => zf_MO_findReached_40 K (zf_MO_findReached_32 K n) m (yb t.1) (nI i) t.2) (fun i t => ym_rS G u t.2 t.1 ∧ (t.1 = false → ∀ i' w, i' < i → ¬ u.1 643 i' = 0 → yp_N G i' w → ¬ u.1 643 w = 0)) (yn G) 0 (false, u) (by omega) ⟨⟨zs_ag.refl, u2, fun _ => rfl, fun h => by cases h⟩, fun _ _ _ h => by omega⟩ ?_ ?_
      · rintro m ⟨g, w⟩ ⟨⟨w1, w2, w3, w4⟩, w5⟩
        have hPw : ym_P b G w := hPu.of (fun x hx hx' => w1.e1 (by omega))
        refine pk_le (yn G) (yn G) (fun _ => ?_) (fun h => by omega) hPw.1.1
        refine ih (g, w) ⟨u1.trans w1, w2, fun e i j hi hN => ?_⟩ ?_
        · have e' : w = u := w3 e
          show ¬ w.1 643 j = 0
          have hi' : ¬ w.1 643 i = 0 := hi
          rw [e'] at hi' ⊢
          exact w5 e i j hN.1 hi' hN
        · show ym_rc w + (if g = true then 1 else 0) < ym_rc u + 1
          cases g with
          | false =>
            have e' : w = u := w3 rfl
            rw [e']; simp
          | true =>
            have : ym_rc w < ym_rc u := w4 rfl
            simp; omega
      · rintro m i ⟨g, w⟩ hi ⟨⟨w1, w2, w3, w4⟩, w5⟩ ih'
        have hPw : ym_P b G w := hPu.of (fun x hx hx' => w1.e1 (by omega))
        refine pk_le (yn G) i (fun h => by omega) (fun _ => ?_) hPw.1.1
        refine pk_loop (W := fun m' j (t : Bool × zs_T) => zf_MO_findReached_50 K (zf_MO_findReached_32 K n) (zf_MO_findReached_40 K (zf_MO_findReached_32 K n) m) m' (yb t.1) (nI i) (nI j) t.2) (fun j t => ym_rS G u t.2 t.1 ∧ (t.1 = false → (∀ i' w, i' < i → ¬ u.1 643 i' = 0 → yp_N G i' w → ¬ u.1 643 w = 0) ∧ ∀ j' w, j' < j → ¬ u.1 643 i = 0 → ym_nx G i j' = nI w → w < 201 → ¬ u.1 643 w = 0)) 2 0 (g, w) (by omega) ⟨⟨w1, w2, w3, w4⟩, fun e => ⟨w5 e, fun _ _ h => by omega⟩⟩ ?_ ?_
        · rintro m' ⟨g', v⟩ ⟨v1, v2⟩
          refine pk_le 2 2 (fun _ => ?_) (fun h => by omega)
          rw [nI_1]
          refine ih' (g', v) ⟨v1, fun e i' x hi' hR hN => ?_⟩
          by_cases c : i' = i
          · subst c
            obtain ⟨j, hj, ej⟩ := ym_N_nx hN
            have := yp_N_le hN
            exact (v2 e).2 j x hj hR ej (by omega)
          · exact (v2 e).1 i' x (by omega) hR hN
        · rintro m' j ⟨g', v⟩ hj ⟨⟨v1, v2, v3, v4⟩, v5⟩ ih2
          have hPv : ym_P b G v := hPu.of (fun x hx hx' => v1.e1 (by omega))
          refine pk_le 2 j (fun h => by omega) (fun _ => ?_)
          simp only [zf_MO_findReached_98]
          refine ym_next hok hPv (by omega) hj ?_
          rw [nI_1, nI_clamp (n := i) (by omega)]
          refine ⟨vp_in_nI (by omega) (by omega), br_c (fun c => ih2 (g', v) ⟨⟨v1, v2, v3, v4⟩, fun e => ⟨(v5 e).1, fun j' x hj' hR ex hx => ?_⟩⟩) (fun c => ?_)⟩
          · by_cases cj : j' = j
            · have e' : v = u := v3 e
              rw [← e'] at hR
              exact absurd c hR
            · exact (v5 e).2 j' x (by omega) hR ex hx
          · rcases ym_nx_N (G := G) (i := i) (j := j) (by omega) with ez | ⟨x, ex, hN⟩
            · refine br_t ez (ih2 (g', v) ⟨⟨v1, v2, v3, v4⟩, fun e => ⟨(v5 e).1, fun j' y hj' hR ey hy => ?_⟩⟩)
              by_cases cj : j' = j
              · rw [cj, ez] at ey
                exact absurd ey.symm (yi_m1 (by omega))
              · exact (v5 e).2 j' y (by omega) hR ey hy
            · have hx := yp_N_le hN
              have ix : vp_in (nI x) 201 := vp_in_nI (by omega) (by omega)
              rw [ex, nI_clamp (n := x) (by omega)]
              refine br_f (yi_m1 (by omega)) ⟨ix, And.intro (fun c2 => ih2 (g', v) ⟨⟨v1, v2, v3, v4⟩, fun e => ⟨(v5 e).1, fun j' y hj' hR ey hy => ?_⟩⟩) (fun c2 => ⟨ix, nm_e ?_⟩)⟩
              · by_cases cj : j' = j
                · rw [cj, ex] at ey
                  have e2 := (nI_eq (by omega) (by omega)).mp ey
                  have e' : v = u := v3 e
                  rw [← e2, ← e']; exact c2
                · exact (v5 e).2 j' y (by omega) hR ey hy
              · rw [yb_n1]
                have hc : ym_rc (zs_i v 643 x 1) < ym_rc v := by
                  refine yp_c_lt (k := x) (fun p hp h => ?_) (by omega) ?_ c2
                  · rw [yi_m] at h
                    by_cases e : p = x
                    · rw [if_pos ⟨rfl, e⟩] at h; cases h
                    · rw [if_neg (fun q => e q.2)] at h; exact h
                  · rw [yi_s]; decide
                have hI' : ym_rI G (zs_i v 643 x 1) := by
                  refine ⟨fun p hp => ?_, ?_⟩
                  · rw [yi_m]
                    by_cases e : p = x
                    · rw [if_pos ⟨rfl, e⟩, e]; exact ⟨zs_b1, fun _ => yp_R_s ((v2.1 i (by omega)).2 c) hN⟩
                    · rw [if_neg (fun q => e q.2)]; exact v2.1 p hp
                  · rw [yi_m]
                    by_cases e : 0 = x
                    · rw [if_pos ⟨rfl, e⟩]; decide
                    · rw [if_neg (fun q => e q.2)]; exact v2.2
                refine ih2 (true, zs_i v 643 x 1) ⟨⟨v1.i (by omega) (by omega), hI', (fun e => by cases e), fun _ => ?_⟩, fun e => by cases e⟩
                show ym_rc (zs_i v 643 x 1) < ym_rc u
                cases g' with
                | false =>
                  have e' : v = u := v3 rfl
                  rw [← e']; exact hc
                | true =>
                  have : ym_rc v < ym_rc u := v4 rfl
                  omega
  · rintro m k t hk ⟨h1, h2⟩ ih
    refine pk_lt 200 k (fun h => by omega) (fun _ => ?_)
    have h23 : ∀ v : Int32, zs_bz v → v = (if k = 0 then 1 else 0) → zf_MO_findReached_23 K (zf_MO_findReached_2 K m) (nI k) v (nI k) t := by
      intro v hz hv
      unfold zf_MO_findReached_23
      refine ⟨vp_in_nI (by omega) (by omega), nm_e ?_⟩
      rw [zs_nz hz, nI_1, nI_clamp (n := k) (by omega)]
      refine ih _ ⟨h1.i (by omega) (by omega), fun p hp => ?_⟩
      rw [yi_m]
      by_cases c : p = k
      · rw [if_pos ⟨rfl, c⟩, c, hv]
      · rw [if_neg (fun q => c q.2)]; exact h2 p (by omega)
    refine And.intro (fun c => h23 0 zs_b0 ?_) (fun c => h23 1 zs_b1 ?_)
    · rw [if_neg (fun e => c (by rw [e]; rfl))]
    · rw [if_pos ((nI_eq (a := k) (b := 0) (by omega) (by omega)).mp c)]
end YO
