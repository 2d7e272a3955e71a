/-! the class's program, fills, and what addresses may be -/
theorem yi_4 (r w : Nat) : nI r * 4 + nI w = nI (r * 4 + w) := by rw [show (4 : Int32) = nI 4 from rfl, pk_mul, nI_add]
theorem yi_200 (r s : Nat) : (200 * nI r) + nI s = nI (200 * r + s) := by rw [show (200 : Int32) = nI 200 from rfl, pk_mul, nI_add]
theorem yi_16 (r s : Nat) : (16 * nI r) + nI s = nI (16 * r + s) := by rw [show (16 : Int32) = nI 16 from rfl, pk_mul, nI_add]
theorem yi_256 (i r s : Nat) : ((256 * nI i) + (16 * nI r)) + nI s = nI (256 * i + 16 * r + s) := by rw [show (256 : Int32) = nI 256 from rfl, show (16 : Int32) = nI 16 from rfl, pk_mul, pk_mul, nI_add, nI_add]
theorem yi_m1 {n : Nat} (h : n < 2 ^ 31) : ¬ nI n = -1 := by
  intro e
  have h1 := nI_pos h
  rw [e] at h1
  exact h1 (by decide)
def yp_fo (G : yp_G) (i : Nat) : Int32 := if yk G i = 12 ∨ yk G i = 14 then -1 else nI (i + 1)
def yp_ta (G : yp_G) (i : Nat) : Int32 := if yk G i = 12 then nI (min (ya G i) (yn G)) else if yk G i = 13 then nI (min (ye G i) (yn G)) else -1
section YA
variable {G : yp_G} {d i : Nat} {st : zs_T} {K : Int32 → zs_T → Prop}
theorem yc_sets (hok : yp_ok G) (h : yp_C d G st) (hi : i < yn G) (hk : K (yb (decide (yk G i ≤ 9))) st) : zf_PR_setsFirst d (nI i) st K := by
  have hn := hok.n
  have hkk := hok.k hi
  unfold zf_PR_setsFirst
  refine ⟨pk_in i 200 (by omega), ?_⟩
  rw [nI_clamp (by omega), (h.2 i hi).1]
  refine pk_lt 9 (yk G i) (fun h => ?_) (fun h => ?_)
  · rw [decide_eq_false (by omega)] at hk; exact hk
  · rw [decide_eq_true (by omega)] at hk; exact hk
theorem yc_fol (hok : yp_ok G) (h : yp_C d G st) (hi : i < yn G) (hk : K (yp_fo G i) st) : zf_PR_follower d (nI i) st K := by
  have hn := hok.n
  have hkk := hok.k hi
  unfold zf_PR_follower
  unfold yp_fo at hk
  refine ⟨pk_in i 200 (by omega), ?_⟩
  rw [nI_clamp (by omega), (h.2 i hi).1]
  refine pk_eq (yk G i) 12 (fun h => ?_) (fun h => ⟨pk_in i 200 (by omega), ?_⟩)
  · rw [if_pos (Or.inl h)] at hk; exact hk
  · refine And.intro (fun h2 => ?_) (fun h2 => ?_)
    · have h3 : yk G i ≠ 14 := fun e => h2 (by rw [e]; rfl)
      rw [if_neg (by omega)] at hk
      rw [nI_1]; exact hk
    · have h3 : yk G i = 14 := (nI_eq (by omega) (by omega)).mp h2
      rw [if_pos (Or.inr h3)] at hk; exact hk
theorem yi_min {a b : Nat} (ha : a < 2 ^ 31) (hb : b < 2 ^ 31) : (if nI a < nI b then nI a else nI b) = nI (min b a) := by
  by_cases h : a < b
  · rw [if_pos ((nI_ltI ha hb).mpr h)]
    congr 1
    omega
  · rw [if_neg (fun e => h ((nI_ltI ha hb).mp e))]
    congr 1
    omega
theorem yc_tar (hok : yp_ok G) (h : yp_C d G st) (hi : i < yn G) (hk : K (yp_ta G i) st) : zf_PR_target d (nI i) st K := by
  have hn := hok.n
  have hkk := hok.k hi
  have ha := hok.a2 hi
  unfold zf_PR_target
  unfold yp_ta at hk
  refine ⟨pk_in i 200 (by omega), ?_⟩
  rw [nI_clamp (by omega), (h.2 i hi).1, h.1]
  refine And.intro (fun h1 => ⟨pk_in i 200 (by omega), ?_⟩) (fun h1 => ⟨pk_in i 200 (by omega), ?_⟩)
  · have h1' : yk G i ≠ 12 := fun e => h1 (by rw [e]; rfl)
    rw [if_neg h1'] at hk
    refine And.intro (fun h2 => ?_) (fun h2 => ⟨pk_in i 200 (by omega), ?_⟩)
    · have h2' : yk G i ≠ 13 := fun e => h2 (by rw [e]; rfl)
      rw [if_neg h2'] at hk
      exact hk
    · have h2' : yk G i = 13 := (nI_eq (by omega) (by omega)).mp h2
      rw [if_pos h2'] at hk
      have hx := hok.x hi (by omega)
      have he := hok.e2 hi (by omega)
      rw [(h.2 i hi).2.2.1, hx, yi_min (by omega) (by omega)]
      exact hk
  · have h1' : yk G i = 12 := (nI_eq (by omega) (by omega)).mp h1
    rw [if_pos h1'] at hk
    rw [(h.2 i hi).2.1, yi_min (by omega) (by omega)]
    exact hk
end YA
theorem yc_fillL {d n : Nat} {v : Int64} {st : zs_T} {K : zs_T → Prop} (hn : n < 2 ^ 31) (hk : ∀ st', st'.1 = st.1 → (∀ d', d' ≠ d → st'.2 d' = st.2 d') → (∀ j, j < n → st'.2 d j = v) → K st') : zf_AR_fill_AJJV d n v st K := by
  unfold zf_AR_fill_AJJV
  refine pk_loop (W := fun m i (t : zs_T) => zf_AR_fill_AJJV_6 d n K m v (nI i) (nI n) t) (fun i t => t.1 = st.1 ∧ (∀ d', d' ≠ d → t.2 d' = st.2 d') ∧ ∀ j, j < i → t.2 d j = v) n 0 st (by omega) ⟨rfl, fun _ _ => rfl, fun _ h => by omega⟩ ?_ ?_
  · rintro m t ⟨h1, h2, h3⟩
    exact pk_le n n (fun _ => hk t h1 h2 h3) (fun h => by omega)
  · rintro m i t hi ⟨h1, h2, h3⟩ ih
    refine pk_le n i (fun h => by omega) (fun _ => ⟨pk_in i n hi, nm_e ?_⟩)
    rw [nI_1, nI_clamp (by omega)]
    refine ih _ ⟨h1, fun d' hd => ?_, fun j hj => ?_⟩
    · rw [yl_r _ _ _ _ hd, h2 d' hd]
    · rw [yl_m]
      by_cases e : j = i
      · simp [e]
      · rw [if_neg (fun h => e h.2)]; exact h3 j (by omega)
theorem yc_fillI {d n : Nat} {v : Int32} {st : zs_T} {K : zs_T → Prop} (hn : n < 2 ^ 31) (hk : ∀ st', st'.2 = st.2 → (∀ d', d' ≠ d → st'.1 d' = st.1 d') → (∀ j, j < n → st'.1 d j = v) → K st') : zf_AR_fill_AIIV d n v st K := by
  unfold zf_AR_fill_AIIV
  refine pk_loop (W := fun m i (t : zs_T) => zf_AR_fill_AIIV_5 d n K m v (nI i) (nI n) t) (fun i t => t.2 = st.2 ∧ (∀ d', d' ≠ d → t.1 d' = st.1 d') ∧ ∀ j, j < i → t.1 d j = v) n 0 st (by omega) ⟨rfl, fun _ _ => rfl, fun _ h => by omega⟩ ?_ ?_
  · rintro m t ⟨h1, h2, h3⟩
    exact pk_le n n (fun _ => hk t h1 h2 h3) (fun h => by omega)
  · rintro m i t hi ⟨h1, h2, h3⟩ ih
    refine pk_le n i (fun h => by omega) (fun _ => ⟨pk_in i n hi, nm_e ?_⟩)
    rw [nI_1, nI_clamp (by omega)]
    refine ih _ ⟨h1, fun d' hd => ?_, fun j hj => ?_⟩
    · rw [yi_r _ _ _ _ hd, h2 d' hd]
    · rw [yi_m]
      by_cases e : j = i
      · simp [e]
      · rw [if_neg (fun h => e h.2)]; exact h3 j (by omega)
/-- a bit of a set -/
def yc_b (st : zs_T) (d r s : Nat) : Bool := bl (st.2 d (r * 4 + s / 64)) (s % 64)
theorem yc_has {d n r s : Nat} {st : zs_T} {K : Int32 → zs_T → Prop} (hs : s < 256) (hr : r * 4 + 4 ≤ n) (hn : n ≤ 800) (hk : K (yb (yc_b st d r s)) st) : zf_AD_has d n (nI r) (nI s) st K := by
  unfold zf_AD_has
  rw [bl_d s hs, yi_4, bl_m s hs, nI_clamp (n := r * 4 + s / 64) (by omega)]
  refine ⟨pk_in (r * 4 + s / 64) n (by omega), ?_⟩
  rw [bl_tst _ (Nat.mod_lt _ (by omega))]
  unfold yc_b at hk
  refine br_c (fun h => ?_) (fun h => ?_)
  · rw [h] at hk; exact hk
  · rw [ts_nf h] at hk; exact hk
theorem yc_join {d0 n0 d2 n2 r q : Nat} {st : zs_T} {K : Int32 → zs_T → Prop} (h0 : r * 4 + 4 ≤ n0) (h2 : q * 4 + 4 ≤ n2) (hn0 : n0 ≤ 800) (hn2 : n2 ≤ 800)
    (hK : ∀ (g : Bool) (st' : zs_T), st'.1 = st.1 → (∀ d', d' ≠ d0 → st'.2 d' = st.2 d') → (∀ j, st'.2 d0 j = if r * 4 ≤ j ∧ j < r * 4 + 4 then st.2 d0 j ||| st.2 d2 (q * 4 + (j - r * 4)) else st.2 d0 j) → (g = false → st' = st) → (g = true → ∃ s, s < 256 ∧ yc_b st d0 r s = false ∧ yc_b st d2 q s = true) → K (yb g) st') : zf_AD_join d0 n0 (nI r) d2 n2 (nI q) st K := by
  unfold zf_AD_join
  refine pk_loop (W := fun m w (t : Bool × zs_T) => zf_AD_join_6 d0 n0 d2 n2 K m (nI r) (nI q) (yb t.1) (nI w) t.2) (fun w t => t.2.1 = st.1 ∧ (∀ d', d' ≠ d0 → t.2.2 d' = st.2 d') ∧ (∀ j, t.2.2 d0 j = if r * 4 ≤ j ∧ j < r * 4 + w then st.2 d0 j ||| st.2 d2 (q * 4 + (j - r * 4)) else st.2 d0 j) ∧ (t.1 = false → t.2 = st) ∧ (t.1 = true → ∃ s, s < 256 ∧ yc_b st d0 r s = false ∧ yc_b st d2 q s = true)) 4 0 (false, st) (by omega) ⟨rfl, fun _ _ => rfl, fun j => ?_, fun _ => rfl, fun h => by cases h⟩ ?_ ?_
  · rw [if_neg (by omega)]
  · rintro m ⟨g, t⟩ ⟨h1, h2, h3, h4, h5⟩
    exact pk_le 4 4 (fun _ => ⟨yb_bz _, hK g t h1 h2 h3 h4 h5⟩) (fun h => by omega)
  · rintro m w ⟨g, t⟩ hw ⟨h1, h2', h3, h4, h5⟩ ih
    refine pk_le 4 w (fun h => by omega) (fun _ => ?_)
    simp only [zf_AD_join_56]
    rw [yi_4, yi_4, nI_1, nI_clamp (n := r * 4 + w) (by omega), nI_clamp (n := q * 4 + w) (by omega)]
    refine ⟨vp_in_nI (by omega) (by omega), vp_in_nI (by omega) (by omega), ?_⟩
    have e0 : t.2 d0 (r * 4 + w) = st.2 d0 (r * 4 + w) := by have := h3 (r * 4 + w); rw [if_neg (by omega)] at this; exact this
    have e2 : t.2 d2 (q * 4 + w) = st.2 d2 (q * 4 + w) := by
      by_cases e : d2 = d0
      · subst e
        have := h3 (q * 4 + w)
        rw [if_neg (by omega)] at this
        exact this
      · have := h2' d2 e
        exact congrFun this _
    rw [e0, e2, lg_cmp_eq]
    refine br_c (fun h => ih (g, t) ⟨h1, h2', fun j => ?_, h4, h5⟩) (fun h => ⟨vp_in_nI (by omega) (by omega), nm_e (ih (true, _) ⟨h1, fun d' hd => ?_, fun j => ?_, (fun h => by cases h), fun _ => ?_⟩)⟩)
    · rw [h3 j]
      by_cases e : j = r * 4 + w
      · subst e
        rw [if_neg (by omega), if_pos (by omega), show r * 4 + w - r * 4 = w by omega, h]
      · by_cases c : r * 4 ≤ j ∧ j < r * 4 + w
        · rw [if_pos c, if_pos (by omega)]
        · rw [if_neg c, if_neg (by omega)]
    · exact (yl_r t d0 (r * 4 + w) _ hd).trans (h2' d' hd)
    · show (zs_l t d0 (r * 4 + w) _).2 d0 j = _
      rw [yl_m]
      by_cases e : j = r * 4 + w
      · subst e
        rw [if_pos ⟨rfl, rfl⟩, if_pos (by omega), show r * 4 + w - r * 4 = w by omega]
      · rw [if_neg (fun c => e c.2), h3 j]
        by_cases c : r * 4 ≤ j ∧ j < r * 4 + w
        · rw [if_pos c, if_pos (by omega)]
        · rw [if_neg c, if_neg (by omega)]
    · apply Classical.byContradiction
      intro hc
      apply h
      apply bl_ext
      intro k hk
      rw [bl_or]
      cases ha : bl (st.2 d0 (r * 4 + w)) k with
      | true => rfl
      | false =>
        cases hb : bl (st.2 d2 (q * 4 + w)) k with
        | false => rfl
        | true =>
          refine absurd ⟨w * 64 + k, by omega, ?_, ?_⟩ hc
          · unfold yc_b; rw [show (w * 64 + k) / 64 = w by omega, show (w * 64 + k) % 64 = k by omega]; exact ha
          · unfold yc_b; rw [show (w * 64 + k) / 64 = w by omega, show (w * 64 + k) % 64 = k by omega]; exact hb
/-- joined, by bits -/
theorem yc_joinb {d0 d2 r q : Nat} {st st' : zs_T} (h : ∀ j, st'.2 d0 j = if r * 4 ≤ j ∧ j < r * 4 + 4 then st.2 d0 j ||| st.2 d2 (q * 4 + (j - r * 4)) else st.2 d0 j) {r' s : Nat} (hs : s < 256) : yc_b st' d0 r' s = (yc_b st d0 r' s || (decide (r' = r) && yc_b st d2 q s)) := by
  unfold yc_b
  rw [h]
  by_cases e : r' = r
  · subst e
    rw [if_pos (by omega), bl_or, show r' * 4 + s / 64 - r' * 4 = s / 64 by omega]
    simp
  · rw [if_neg (by omega)]
    simp [e]
