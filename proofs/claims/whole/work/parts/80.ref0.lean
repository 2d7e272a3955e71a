/-! what addresses may be, in the reference: by program (wip/whole/gen) -/
theorem ym_moreMay {st : zs_T} {K : Int32 → zs_T → Prop} {n p q : Nat} (hn : n ≤ 200) (hsz : st.1 635 5 = nI n) (hp : 200 * p + 200 ≤ 3200) (hq : 200 * q + 200 ≤ 3200)
    (hK : ∀ (g : Bool) (t : zs_T), t.2 = st.2 → (∀ x, x ≠ 641 → t.1 x = st.1 x) → (∀ j, j < 200 * q ∨ 200 * q + n ≤ j → t.1 641 j = st.1 641 j) → (∀ s, s < n → (¬ t.1 641 (200 * q + s) = 0 ↔ ¬ st.1 641 (200 * q + s) = 0 ∨ ¬ st.1 641 (200 * p + s) = 0)) → (g = true ↔ ∃ s, s < n ∧ ¬ st.1 641 (200 * p + s) = 0 ∧ st.1 641 (200 * q + s) = 0) → K (yb g) t) : zf_MO_moreMay (nI p) (nI q) st K := by
  unfold zf_MO_moreMay
  refine pk_loop (W := fun m k (t : Bool × zs_T) => zf_MO_moreMay_5 K m (nI p) (nI q) (yb t.1) (nI k) t.2) (fun k t => t.2.2 = st.2 ∧ (∀ x, x ≠ 641 → t.2.1 x = st.1 x) ∧ (∀ j, j < 200 * q ∨ 200 * q + k ≤ j → t.2.1 641 j = st.1 641 j) ∧ (∀ s, s < k → (¬ t.2.1 641 (200 * q + s) = 0 ↔ ¬ st.1 641 (200 * q + s) = 0 ∨ ¬ st.1 641 (200 * p + s) = 0)) ∧ (t.1 = true ↔ ∃ s, s < k ∧ ¬ st.1 641 (200 * p + s) = 0 ∧ st.1 641 (200 * q + s) = 0)) n 0 (false, st) (by omega) ⟨rfl, fun _ _ => rfl, fun _ _ => rfl, fun s h => by omega, ⟨(fun h => by cases h), fun ⟨s, h, _⟩ => by omega⟩⟩ ?_ ?_
  · rintro m ⟨g, t⟩ ⟨h1, h2, h3, h4, h5⟩
    exact pk_le n n (fun _ => ⟨yb_bz _, hK g t h1 h2 h3 h4 h5⟩) (fun h => by omega) ((congrFun (h2 635 (by omega)) 5).trans hsz)
  · rintro m k ⟨g, t⟩ hk ⟨h1, h2, h3, h4, h5⟩ ih
    have eD : t.1 641 (200 * q + k) = st.1 641 (200 * q + k) := h3 _ (by omega)
    have eS : t.1 641 (200 * p + k) = st.1 641 (200 * p + k) := h3 _ (by omega)
    refine pk_le n k (fun h => by omega) (fun _ => ?_) ((congrFun (h2 635 (by omega)) 5).trans hsz)
    have iS : vp_in (nI (200 * p + k)) 3200 := vp_in_nI (by omega) (by omega)
    have iD : vp_in (nI (200 * q + k)) 3200 := vp_in_nI (by omega) (by omega)
    have hgo : ∀ (g' v : Bool), (g' = true ↔ ∃ s, s < k + 1 ∧ ¬ st.1 641 (200 * p + s) = 0 ∧ st.1 641 (200 * q + s) = 0) → (v = true ↔ ¬ st.1 641 (200 * q + k) = 0 ∨ ¬ st.1 641 (200 * p + k) = 0) → zf_MO_moreMay_105 K (zf_MO_moreMay_5 K m) (nI p) (nI q) (yb g') (nI k) (yb v) (nI (200 * q + k)) t := by
      intro g' v hg hv
      unfold zf_MO_moreMay_105
      refine ⟨iD, nm_e ?_⟩
      rw [yb_nar, nI_1, nI_clamp (n := 200 * q + k) (by omega)]
      refine ih (g', zs_i t 641 (200 * q + k) (yb v)) ⟨h1, fun x hx => (yi_r _ _ _ _ hx).trans (h2 x hx), fun j hj => ?_, fun s hs => ?_, hg⟩
      · exact (yi_n _ _ _ (by omega)).trans (h3 j (by omega))
      · show ¬ (zs_i t 641 (200 * q + k) (yb v)).1 641 (200 * q + s) = 0 ↔ _
        by_cases c : s = k
        · subst c
          rw [yi_s, yb_e0, Bool.not_eq_false]
          exact hv
        · rw [yi_n _ _ _ (by omega)]
          exact h4 s (by omega)
    have h55 : ∀ g' : Bool, (g' = true ↔ ∃ s, s < k + 1 ∧ ¬ st.1 641 (200 * p + s) = 0 ∧ st.1 641 (200 * q + s) = 0) → zf_MO_moreMay_55 K (zf_MO_moreMay_5 K m) (nI p) (nI q) (nI k) (yb g') t := by
      intro g' hg
      unfold zf_MO_moreMay_55
      rw [yi_200, yi_200, nI_clamp (n := 200 * q + k) (by omega), nI_clamp (n := 200 * p + k) (by omega), eD, eS]
      refine ⟨iD, And.intro (fun c => hgo g' true hg ⟨fun _ => Or.inl c, fun _ => rfl⟩) (fun c => ⟨iS, br_c (fun c2 => hgo g' false hg ⟨(fun h => by cases h), fun h => ?_⟩) (fun c2 => hgo g' true hg ⟨fun _ => Or.inr c2, fun _ => rfl⟩)⟩)⟩
      rcases h with h | h
      · exact absurd c h
      · exact absurd c2 h
    simp only [zf_MO_moreMay_50, zf_MO_moreMay_54]
    have hold : ∀ s, s < k → ¬ st.1 641 (200 * p + s) = 0 ∧ st.1 641 (200 * q + s) = 0 → g = true := fun s hs h => h5.mpr ⟨s, hs, h⟩
    cases g with
    | true =>
      refine ⟨fun _ => h55 true ⟨fun _ => ?_, fun _ => rfl⟩, fun h => by cases h⟩
      obtain ⟨s, s1, s2⟩ := h5.mp rfl
      exact ⟨s, by omega, s2⟩
    | false =>
      refine ⟨fun h => absurd rfl h, fun _ => ?_⟩
      rw [yi_200, yi_200, nI_clamp (n := 200 * q + k) (by omega), nI_clamp (n := 200 * p + k) (by omega), eD, eS]
      have hno : st.1 641 (200 * p + k) = 0 ∨ ¬ st.1 641 (200 * q + k) = 0 → zf_MO_moreMay_55 K (zf_MO_moreMay_5 K m) (nI p) (nI q) (nI k) 0 t := by
        intro hc
        refine h55 false ⟨(fun h => by cases h), fun ⟨s, s1, s2, s3⟩ => ?_⟩
        by_cases c : s = k
        · subst c
          rcases hc with hc | hc
          · exact absurd hc s2
          · exact absurd s3 hc
        · exact hold s (by omega) ⟨s2, s3⟩
      refine ⟨iS, br_c (fun c => hno (Or.inl c)) (fun c => ⟨iD, And.intro (fun c2 => hno (Or.inr c2)) (fun c2 => h55 true ⟨fun _ => ⟨k, by omega, c, c2⟩, fun _ => rfl⟩)⟩)⟩
theorem ym_moreFromCells {st : zs_T} {K : Int32 → zs_T → Prop} {n p q : Nat} (hn : n ≤ 200) (hsz : st.1 635 5 = nI n) (hp : 200 * p + 200 ≤ 40000) (hq : 200 * q + 200 ≤ 3200)
    (hK : ∀ (g : Bool) (t : zs_T), t.2 = st.2 → (∀ x, x ≠ 641 → t.1 x = st.1 x) → (∀ j, j < 200 * q ∨ 200 * q + n ≤ j → t.1 641 j = st.1 641 j) → (∀ s, s < n → (¬ t.1 641 (200 * q + s) = 0 ↔ ¬ st.1 641 (200 * q + s) = 0 ∨ ¬ st.1 642 (200 * p + s) = 0)) → (g = true ↔ ∃ s, s < n ∧ ¬ st.1 642 (200 * p + s) = 0 ∧ st.1 641 (200 * q + s) = 0) → K (yb g) t) : zf_MO_moreFromCells (nI p) (nI q) st K := by
  unfold zf_MO_moreFromCells
  refine pk_loop (W := fun m k (t : Bool × zs_T) => zf_MO_moreFromCells_5 K m (nI p) (nI q) (yb t.1) (nI k) t.2) (fun k t => t.2.2 = st.2 ∧ (∀ x, x ≠ 641 → t.2.1 x = st.1 x) ∧ (∀ j, j < 200 * q ∨ 200 * q + k ≤ j → t.2.1 641 j = st.1 641 j) ∧ (∀ s, s < k → (¬ t.2.1 641 (200 * q + s) = 0 ↔ ¬ st.1 641 (200 * q + s) = 0 ∨ ¬ st.1 642 (200 * p + s) = 0)) ∧ (t.1 = true ↔ ∃ s, s < k ∧ ¬ st.1 642 (200 * p + s) = 0 ∧ st.1 641 (200 * q + s) = 0)) n 0 (false, st) (by omega) ⟨rfl, fun _ _ => rfl, fun _ _ => rfl, fun s h => by omega, ⟨(fun h => by cases h), fun ⟨s, h, _⟩ => by omega⟩⟩ ?_ ?_
  · rintro m ⟨g, t⟩ ⟨h1, h2, h3, h4, h5⟩
    exact pk_le n n (fun _ => ⟨yb_bz _, hK g t h1 h2 h3 h4 h5⟩) (fun h => by omega) ((congrFun (h2 635 (by omega)) 5).trans hsz)
  · rintro m k ⟨g, t⟩ hk ⟨h1, h2, h3, h4, h5⟩ ih
    have eD : t.1 641 (200 * q + k) = st.1 641 (200 * q + k) := h3 _ (by omega)
    have eS : t.1 642 (200 * p + k) = st.1 642 (200 * p + k) := congrFun (h2 642 (by omega)) _
    refine pk_le n k (fun h => by omega) (fun _ => ?_) ((congrFun (h2 635 (by omega)) 5).trans hsz)
    have iS : vp_in (nI (200 * p + k)) 40000 := vp_in_nI (by omega) (by omega)
    have iD : vp_in (nI (200 * q + k)) 3200 := vp_in_nI (by omega) (by omega)
    have hgo : ∀ (g' v : Bool), (g' = true ↔ ∃ s, s < k + 1 ∧ ¬ st.1 642 (200 * p + s) = 0 ∧ st.1 641 (200 * q + s) = 0) → (v = true ↔ ¬ st.1 641 (200 * q + k) = 0 ∨ ¬ st.1 642 (200 * p + k) = 0) → zf_MO_moreFromCells_105 K (zf_MO_moreFromCells_5 K m) (nI p) (nI q) (yb g') (nI k) (yb v) (nI (200 * q + k)) t := by
      intro g' v hg hv
      unfold zf_MO_moreFromCells_105
      refine ⟨iD, nm_e ?_⟩
      rw [yb_nar, nI_1, nI_clamp (n := 200 * q + k) (by omega)]
      refine ih (g', zs_i t 641 (200 * q + k) (yb v)) ⟨h1, fun x hx => (yi_r _ _ _ _ hx).trans (h2 x hx), fun j hj => ?_, fun s hs => ?_, hg⟩
      · exact (yi_n _ _ _ (by omega)).trans (h3 j (by omega))
      · show ¬ (zs_i t 641 (200 * q + k) (yb v)).1 641 (200 * q + s) = 0 ↔ _
        by_cases c : s = k
        · subst c
          rw [yi_s, yb_e0, Bool.not_eq_false]
          exact hv
        · rw [yi_n _ _ _ (by omega)]
          exact h4 s (by omega)
    have h55 : ∀ g' : Bool, (g' = true ↔ ∃ s, s < k + 1 ∧ ¬ st.1 642 (200 * p + s) = 0 ∧ st.1 641 (200 * q + s) = 0) → zf_MO_moreFromCells_55 K (zf_MO_moreFromCells_5 K m) (nI p) (nI q) (nI k) (yb g') t := by
      intro g' hg
      unfold zf_MO_moreFromCells_55
      rw [yi_200, yi_200, nI_clamp (n := 200 * q + k) (by omega), nI_clamp (n := 200 * p + k) (by omega), eD, eS]
      refine ⟨iD, And.intro (fun c => hgo g' true hg ⟨fun _ => Or.inl c, fun _ => rfl⟩) (fun c => ⟨iS, br_c (fun c2 => hgo g' false hg ⟨(fun h => by cases h), fun h => ?_⟩) (fun c2 => hgo g' true hg ⟨fun _ => Or.inr c2, fun _ => rfl⟩)⟩)⟩
      rcases h with h | h
      · exact absurd c h
      · exact absurd c2 h
    simp only [zf_MO_moreFromCells_50, zf_MO_moreFromCells_54]
    have hold : ∀ s, s < k → ¬ st.1 642 (200 * p + s) = 0 ∧ st.1 641 (200 * q + s) = 0 → g = true := fun s hs h => h5.mpr ⟨s, hs, h⟩
    cases g with
    | true =>
      refine ⟨fun _ => h55 true ⟨fun _ => ?_, fun _ => rfl⟩, fun h => by cases h⟩
      obtain ⟨s, s1, s2⟩ := h5.mp rfl
      exact ⟨s, by omega, s2⟩
    | false =>
      refine ⟨fun h => absurd rfl h, fun _ => ?_⟩
      rw [yi_200, yi_200, nI_clamp (n := 200 * q + k) (by omega), nI_clamp (n := 200 * p + k) (by omega), eD, eS]
      have hno : st.1 642 (200 * p + k) = 0 ∨ ¬ st.1 641 (200 * q + k) = 0 → zf_MO_moreFromCells_55 K (zf_MO_moreFromCells_5 K m) (nI p) (nI q) (nI k) 0 t := by
        intro hc
        refine h55 false ⟨(fun h => by cases h), fun ⟨s, s1, s2, s3⟩ => ?_⟩
        by_cases c : s = k
        · subst c
          rcases hc with hc | hc
          · exact absurd hc s2
          · exact absurd s3 hc
        · exact hold s (by omega) ⟨s2, s3⟩
      refine ⟨iS, br_c (fun c => hno (Or.inl c)) (fun c => ⟨iD, And.intro (fun c2 => hno (Or.inr c2)) (fun c2 => h55 true ⟨fun _ => ⟨k, by omega, c, c2⟩, fun _ => rfl⟩)⟩)⟩
theorem ym_moreToCells {st : zs_T} {K : Int32 → zs_T → Prop} {n p q : Nat} (hn : n ≤ 200) (hsz : st.1 635 5 = nI n) (hp : 200 * p + 200 ≤ 3200) (hq : 200 * q + 200 ≤ 40000)
    (hK : ∀ (g : Bool) (t : zs_T), t.2 = st.2 → (∀ x, x ≠ 642 → t.1 x = st.1 x) → (∀ j, j < 200 * q ∨ 200 * q + n ≤ j → t.1 642 j = st.1 642 j) → (∀ s, s < n → (¬ t.1 642 (200 * q + s) = 0 ↔ ¬ st.1 642 (200 * q + s) = 0 ∨ ¬ st.1 641 (200 * p + s) = 0)) → (g = true ↔ ∃ s, s < n ∧ ¬ st.1 641 (200 * p + s) = 0 ∧ st.1 642 (200 * q + s) = 0) → K (yb g) t) : zf_MO_moreToCells (nI p) (nI q) st K := by
  unfold zf_MO_moreToCells
  refine pk_loop (W := fun m k (t : Bool × zs_T) => zf_MO_moreToCells_5 K m (nI p) (nI q) (yb t.1) (nI k) t.2) (fun k t => t.2.2 = st.2 ∧ (∀ x, x ≠ 642 → t.2.1 x = st.1 x) ∧ (∀ j, j < 200 * q ∨ 200 * q + k ≤ j → t.2.1 642 j = st.1 642 j) ∧ (∀ s, s < k → (¬ t.2.1 642 (200 * q + s) = 0 ↔ ¬ st.1 642 (200 * q + s) = 0 ∨ ¬ st.1 641 (200 * p + s) = 0)) ∧ (t.1 = true ↔ ∃ s, s < k ∧ ¬ st.1 641 (200 * p + s) = 0 ∧ st.1 642 (200 * q + s) = 0)) n 0 (false, st) (by omega) ⟨rfl, fun _ _ => rfl, fun _ _ => rfl, fun s h => by omega, ⟨(fun h => by cases h), fun ⟨s, h, _⟩ => by omega⟩⟩ ?_ ?_
  · rintro m ⟨g, t⟩ ⟨h1, h2, h3, h4, h5⟩
    exact pk_le n n (fun _ => ⟨yb_bz _, hK g t h1 h2 h3 h4 h5⟩) (fun h => by omega) ((congrFun (h2 635 (by omega)) 5).trans hsz)
  · rintro m k ⟨g, t⟩ hk ⟨h1, h2, h3, h4, h5⟩ ih
    have eD : t.1 642 (200 * q + k) = st.1 642 (200 * q + k) := h3 _ (by omega)
    have eS : t.1 641 (200 * p + k) = st.1 641 (200 * p + k) := congrFun (h2 641 (by omega)) _
    refine pk_le n k (fun h => by omega) (fun _ => ?_) ((congrFun (h2 635 (by omega)) 5).trans hsz)
    have iS : vp_in (nI (200 * p + k)) 3200 := vp_in_nI (by omega) (by omega)
    have iD : vp_in (nI (200 * q + k)) 40000 := vp_in_nI (by omega) (by omega)
    have hgo : ∀ (g' v : Bool), (g' = true ↔ ∃ s, s < k + 1 ∧ ¬ st.1 641 (200 * p + s) = 0 ∧ st.1 642 (200 * q + s) = 0) → (v = true ↔ ¬ st.1 642 (200 * q + k) = 0 ∨ ¬ st.1 641 (200 * p + k) = 0) → zf_MO_moreToCells_105 K (zf_MO_moreToCells_5 K m) (nI p) (nI q) (yb g') (nI k) (yb v) (nI (200 * q + k)) t := by
      intro g' v hg hv
      unfold zf_MO_moreToCells_105
      refine ⟨iD, nm_e ?_⟩
      rw [yb_nar, nI_1, nI_clamp (n := 200 * q + k) (by omega)]
      refine ih (g', zs_i t 642 (200 * q + k) (yb v)) ⟨h1, fun x hx => (yi_r _ _ _ _ hx).trans (h2 x hx), fun j hj => ?_, fun s hs => ?_, hg⟩
      · exact (yi_n _ _ _ (by omega)).trans (h3 j (by omega))
      · show ¬ (zs_i t 642 (200 * q + k) (yb v)).1 642 (200 * q + s) = 0 ↔ _
        by_cases c : s = k
        · subst c
          rw [yi_s, yb_e0, Bool.not_eq_false]
          exact hv
        · rw [yi_n _ _ _ (by omega)]
          exact h4 s (by omega)
    have h55 : ∀ g' : Bool, (g' = true ↔ ∃ s, s < k + 1 ∧ ¬ st.1 641 (200 * p + s) = 0 ∧ st.1 642 (200 * q + s) = 0) → zf_MO_moreToCells_55 K (zf_MO_moreToCells_5 K m) (nI p) (nI q) (nI k) (yb g') t := by
      intro g' hg
      unfold zf_MO_moreToCells_55
      rw [yi_200, yi_200, nI_clamp (n := 200 * q + k) (by omega), nI_clamp (n := 200 * p + k) (by omega), eD, eS]
      refine ⟨iD, And.intro (fun c => hgo g' true hg ⟨fun _ => Or.inl c, fun _ => rfl⟩) (fun c => ⟨iS, br_c (fun c2 => hgo g' false hg ⟨(fun h => by cases h), fun h => ?_⟩) (fun c2 => hgo g' true hg ⟨fun _ => Or.inr c2, fun _ => rfl⟩)⟩)⟩
      rcases h with h | h
      · exact absurd c h
      · exact absurd c2 h
    simp only [zf_MO_moreToCells_50, zf_MO_moreToCells_54]
    have hold : ∀ s, s < k → ¬ st.1 641 (200 * p + s) = 0 ∧ st.1 642 (200 * q + s) = 0 → g = true := fun s hs h => h5.mpr ⟨s, hs, h⟩
    cases g with
    | true =>
      refine ⟨fun _ => h55 true ⟨fun _ => ?_, fun _ => rfl⟩, fun h => by cases h⟩
      obtain ⟨s, s1, s2⟩ := h5.mp rfl
      exact ⟨s, by omega, s2⟩
    | false =>
      refine ⟨fun h => absurd rfl h, fun _ => ?_⟩
      rw [yi_200, yi_200, nI_clamp (n := 200 * q + k) (by omega), nI_clamp (n := 200 * p + k) (by omega), eD, eS]
      have hno : st.1 641 (200 * p + k) = 0 ∨ ¬ st.1 642 (200 * q + k) = 0 → zf_MO_moreToCells_55 K (zf_MO_moreToCells_5 K m) (nI p) (nI q) (nI k) 0 t := by
        intro hc
        refine h55 false ⟨(fun h => by cases h), fun ⟨s, s1, s2, s3⟩ => ?_⟩
        by_cases c : s = k
        · subst c
          rcases hc with hc | hc
          · exact absurd hc s2
          · exact absurd s3 hc
        · exact hold s (by omega) ⟨s2, s3⟩
      refine ⟨iS, br_c (fun c => hno (Or.inl c)) (fun c => ⟨iD, And.intro (fun c2 => hno (Or.inr c2)) (fun c2 => h55 true ⟨fun _ => ⟨k, by omega, c, c2⟩, fun _ => rfl⟩)⟩)⟩
