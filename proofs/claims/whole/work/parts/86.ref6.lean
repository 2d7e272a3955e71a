/-! what stays at a place, in the reference -/
theorem yi_256b (p k : Nat) : (256 * nI p) + nI k = nI (256 * p + k) := by rw [show (256 : Int32) = nI 256 from rfl, pk_mul, nI_add]
theorem ym_Fsame {a t : zs_T} {p : Nat} (h : ∀ r s, r < 16 → s < 16 → t.1 644 (256 * p + 16 * r + s) = a.1 644 (256 * p + 16 * r + s) ∧ t.1 645 (256 * p + 16 * r + s) = a.1 645 (256 * p + 16 * r + s) ∧ t.1 646 (16 * p + r) = a.1 646 (16 * p + r)) : ym_F t p = ym_F a p ∧ (ym_b a p → ym_b t p) := by
  refine ⟨?_, fun h2 r s hr hs => ?_⟩
  · funext q r s
    apply propext
    by_cases hr : r < 16
    · by_cases hs : s < 16
      · obtain ⟨e1, e2, e3⟩ := h r s hr hs
        unfold ym_F
        rw [e1, e2, e3]
      · exact ⟨fun q => absurd q.2.2.1 hs, fun q => absurd q.2.2.1 hs⟩
    · exact ⟨fun q => absurd q.2.1 hr, fun q => absurd q.2.1 hr⟩
  · obtain ⟨e1, e2, e3⟩ := h r s hr hs
    rw [e1, e2, e3]
    exact h2 r s hr hs
def ym_L (p : Nat) (st : zs_T) (x : Nat) : Prop := (¬ st.1 644 (256 * p + x) = 0 ∧ st.1 648 x = 0) ∨ (¬ st.1 645 (256 * p + x) = 0 ∧ st.1 649 x = 0)
def ym_L2 (p : Nat) (st : zs_T) (x : Nat) : Prop := ¬ st.1 646 (16 * p + x) = 0 ∧ st.1 650 x = 0
def ym_J (p : Nat) (st : zs_T) (k : Nat) (g : Bool) (t : zs_T) : Prop := zs_ag 644 646 st t ∧ (∀ j, t.1 644 j = @ite Int32 (256 * p ≤ j ∧ j < 256 * p + k) (Classical.propDecidable _) (yq (¬ st.1 644 j = 0 ∧ ¬ st.1 648 (j - 256 * p) = 0)) (st.1 644 j)) ∧ (∀ j, t.1 645 j = @ite Int32 (256 * p ≤ j ∧ j < 256 * p + k) (Classical.propDecidable _) (yq (¬ st.1 645 j = 0 ∧ ¬ st.1 649 (j - 256 * p) = 0)) (st.1 645 j)) ∧ t.1 646 = st.1 646 ∧ (g = true ↔ ∃ x, x < k ∧ ym_L p st x)
def ym_J2 (p : Nat) (st t0 : zs_T) (g0 : Bool) (k : Nat) (g : Bool) (t : zs_T) : Prop := zs_ag 644 646 st t ∧ t.1 644 = t0.1 644 ∧ t.1 645 = t0.1 645 ∧ (∀ j, t.1 646 j = @ite Int32 (16 * p ≤ j ∧ j < 16 * p + k) (Classical.propDecidable _) (yq (¬ st.1 646 j = 0 ∧ ¬ st.1 650 (j - 16 * p) = 0)) (st.1 646 j)) ∧ (g = true ↔ g0 = true ∨ ∃ x, x < k ∧ ym_L2 p st x)
theorem ym_ex {k : Nat} {L : Nat → Prop} : (∃ x, x < k + 1 ∧ L x) ↔ (∃ x, x < k ∧ L x) ∨ L k := by
  constructor
  · rintro ⟨x, h, h2⟩
    by_cases c : x = k
    · rw [c] at h2; exact Or.inr h2
    · exact Or.inl ⟨x, by omega, h2⟩
  · rintro (⟨x, h, h2⟩ | h)
    · exact ⟨x, by omega, h2⟩
    · exact ⟨k, by omega, h⟩
section YP
variable {G : yp_G} {b : Nat} {st : zs_T}
theorem ym_meets1 {p : Nat} {K : Int32 → zs_T → Prop} (hp : p < 201) (hK : ∀ (g : Bool) t, ym_J p st 256 g t → ∃ n, zf_MO_meets_159 K n (nI p) (yb g) 0 t) : zf_MO_meets (nI p) st K := by
  unfold zf_MO_meets
  refine pk_loop (W := fun m k (s : Bool × zs_T) => zf_MO_meets_4 K m (nI p) (yb s.1) (nI k) s.2) (fun k s => ym_J p st k s.1 s.2) 256 0 (false, st) (by omega) ⟨zs_ag.refl, fun j => (if_neg (by omega)).symm, fun j => (if_neg (by omega)).symm, rfl, ⟨(fun h => by cases h), fun ⟨x, h, _⟩ => absurd h (by omega)⟩⟩ ?_ ?_
  · rintro m ⟨g, t⟩ h
    exact pk_le 256 256 (fun _ => hK g t h) (fun h => by omega)
  · rintro m k ⟨g, t⟩ hk ⟨g1, g2, g3, g4, g5⟩ ih
    have v4 : t.1 644 (256 * p + k) = st.1 644 (256 * p + k) := (g2 _).trans (if_neg (by omega))
    have v5 : t.1 645 (256 * p + k) = st.1 645 (256 * p + k) := (g3 _).trans (if_neg (by omega))
    have v8 : t.1 648 = st.1 648 := g1.e1 (by omega)
    have v9 : t.1 649 = st.1 649 := g1.e1 (by omega)
    have h150 : ∀ (g' : Bool) (v : Int32), (g' = true ↔ g = true ∨ ym_L p st k) → v = yq (¬ st.1 645 (256 * p + k) = 0 ∧ ¬ st.1 649 k = 0) → zf_MO_meets_150 K (zf_MO_meets_4 K m) (nI p) (yb g') (nI k) v (nI (256 * p + k)) (zs_i t 644 (256 * p + k) (yq (¬ st.1 644 (256 * p + k) = 0 ∧ ¬ st.1 648 k = 0))) := by
      intro g' v hg hv
      unfold zf_MO_meets_150
      rw [hv, yq_nar, nI_clamp (n := 256 * p + k) (by omega), nI_1]
      refine ⟨vp_in_nI (by omega) (by omega), nm_e (ih (g', zs_i (zs_i t 644 (256 * p + k) (yq (¬ st.1 644 (256 * p + k) = 0 ∧ ¬ st.1 648 k = 0))) 645 (256 * p + k) (yq (¬ st.1 645 (256 * p + k) = 0 ∧ ¬ st.1 649 k = 0))) ⟨(g1.i (by omega) (by omega)).i (by omega) (by omega), fun j => ?_, fun j => ?_, ?_, ?_⟩)⟩
      · show (zs_i (zs_i t 644 (256 * p + k) _) 645 (256 * p + k) _).1 644 j = _
        rw [yi_r _ 645 _ _ (by omega : 644 ≠ 645), yi_m]
        by_cases c : j = 256 * p + k
        · subst c
          rw [if_pos ⟨rfl, rfl⟩, if_pos ⟨by omega, by omega⟩, show 256 * p + k - 256 * p = k by omega]
        · rw [if_neg (fun q => c q.2), g2 j]
          by_cases c2 : 256 * p ≤ j ∧ j < 256 * p + k
          · rw [if_pos c2, if_pos ⟨c2.1, by omega⟩]
          · rw [if_neg c2, if_neg (by omega)]
      · show (zs_i (zs_i t 644 (256 * p + k) _) 645 (256 * p + k) _).1 645 j = _
        rw [yi_m]
        by_cases c : j = 256 * p + k
        · subst c
          rw [if_pos ⟨rfl, rfl⟩, if_pos ⟨by omega, by omega⟩, show 256 * p + k - 256 * p = k by omega]
        · rw [if_neg (fun q => c q.2), yi_r _ 644 _ _ (by omega : 645 ≠ 644), g3 j]
          by_cases c2 : 256 * p ≤ j ∧ j < 256 * p + k
          · rw [if_pos c2, if_pos ⟨c2.1, by omega⟩]
          · rw [if_neg c2, if_neg (by omega)]
      · show (zs_i (zs_i t 644 (256 * p + k) _) 645 (256 * p + k) _).1 646 = _
        rw [yi_r _ 645 _ _ (by omega : 646 ≠ 645), yi_r _ 644 _ _ (by omega : 646 ≠ 644), g4]
      · rw [ym_ex, ← g5]
        exact hg
    have h109 : ∀ (g' : Bool) (v : Int32), (g' = true ↔ g = true ∨ ym_L p st k) → v = yq (¬ st.1 644 (256 * p + k) = 0 ∧ ¬ st.1 648 k = 0) → zf_MO_meets_109 K (zf_MO_meets_4 K m) (nI p) (yb g') (nI k) v (nI (256 * p + k)) t := by
      intro g' v hg hv
      unfold zf_MO_meets_109
      rw [hv, yq_nar, yi_256b, nI_clamp (n := 256 * p + k) (by omega), nI_clamp (n := k) (by omega)]
      refine ⟨vp_in_nI (by omega) (by omega), nm_e ⟨vp_in_nI (by omega) (by omega), ?_⟩⟩
      rw [yi_r _ 644 _ _ (by omega : 645 ≠ 644), v5, yi_r _ 644 _ _ (by omega : 649 ≠ 644), v9]
      exact br_c (fun c => h150 g' 0 hg (yq_f (fun q => q.1 c)).symm) (fun c => ⟨vp_in_nI (by omega) (by omega), br_c (fun c2 => h150 g' 0 hg (yq_f (fun q => q.2 c2)).symm) (fun c2 => h150 g' 1 hg (yq_t ⟨c, c2⟩).symm)⟩)
    have h68 : ∀ g' : Bool, (g' = true ↔ g = true ∨ ym_L p st k) → zf_MO_meets_68 K (zf_MO_meets_4 K m) (nI p) (nI k) (yb g') t := by
      intro g' hg
      unfold zf_MO_meets_68
      rw [yi_256b, nI_clamp (n := 256 * p + k) (by omega), nI_clamp (n := k) (by omega), v4, v8]
      exact ⟨vp_in_nI (by omega) (by omega), br_c (fun c => h109 g' 0 hg (yq_f (fun q => q.1 c)).symm) (fun c => ⟨vp_in_nI (by omega) (by omega), br_c (fun c2 => h109 g' 0 hg (yq_f (fun q => q.2 c2)).symm) (fun c2 => h109 g' 1 hg (yq_t ⟨c, c2⟩).symm)⟩)⟩
    have z1 : (g = true ∨ ym_L p st k) → zf_MO_meets_63 K (zf_MO_meets_4 K m) (nI p) (nI k) t := fun h => h68 true ⟨fun _ => h, fun _ => rfl⟩
    have z0 : ¬ (g = true ∨ ym_L p st k) → zf_MO_meets_67 K (zf_MO_meets_4 K m) (nI p) (nI k) t := fun h => h68 false ⟨(fun h => by cases h), fun q => absurd q h⟩
    have z39 : g = false → ¬ (¬ st.1 644 (256 * p + k) = 0 ∧ st.1 648 k = 0) → zf_MO_meets_39 K (zf_MO_meets_4 K m) (nI p) (nI k) t := by
      intro hg hx
      unfold zf_MO_meets_39
      rw [yi_256b, nI_clamp (n := 256 * p + k) (by omega), nI_clamp (n := k) (by omega), v5, v9]
      refine ⟨vp_in_nI (by omega) (by omega), br_c (fun c => z0 ?_) (fun c => ⟨vp_in_nI (by omega) (by omega), And.intro (fun c2 => z0 ?_) (fun c2 => z1 (Or.inr (Or.inr ⟨c, c2⟩)))⟩)⟩
      · rintro (h | h | h)
        · rw [hg] at h; cases h
        · exact hx h
        · exact h.1 c
      · rintro (h | h | h)
        · rw [hg] at h; cases h
        · exact hx h
        · exact c2 h.2
    refine pk_le 256 k (fun h => by omega) (fun _ => And.intro (fun c => z1 (Or.inl (ts_nf (fun q => c ((yb_e0 g).mpr q))))) (fun c => ?_))
    have hg := (yb_e0 g).mp c
    show vp_in (256 * nI p + nI k) 51456 ∧ _
    rw [yi_256b, nI_clamp (n := 256 * p + k) (by omega), nI_clamp (n := k) (by omega)]
    show vp_in _ _ ∧ ((t.1 644 (256 * p + k) = 0 → _) ∧ (¬ t.1 644 (256 * p + k) = 0 → (_ ∧ ((t.1 648 k = 0 → _) ∧ (¬ t.1 648 k = 0 → _)))))
    rw [v4, v8]
    exact ⟨vp_in_nI (by omega) (by omega), br_c (fun c1 => z39 hg (fun q => q.1 c1)) (fun c1 => ⟨vp_in_nI (by omega) (by omega), br_c (fun c2 => z1 (Or.inr (Or.inl ⟨c1, c2⟩))) (fun c2 => z39 hg (fun q => c2 q.2))⟩)⟩
theorem ym_meets2 {p : Nat} {g0 : Bool} {t0 : zs_T} {K : Int32 → zs_T → Prop} (hp : p < 201) (hJ : ym_J p st 256 g0 t0) (hK : ∀ (g : Bool) t, ym_J2 p st t0 g0 16 g t → K (yb g) t) : ∃ n, zf_MO_meets_159 K n (nI p) (yb g0) 0 t0 := by
  refine pk_loop (W := fun m k (s : Bool × zs_T) => zf_MO_meets_159 K m (nI p) (yb s.1) (nI k) s.2) (fun k s => ym_J2 p st t0 g0 k s.1 s.2) 16 0 (g0, t0) (by omega) ⟨hJ.1, rfl, rfl, fun j => ?_, ⟨Or.inl, fun h => h.elim id (fun ⟨x, h, _⟩ => absurd h (by omega))⟩⟩ ?_ ?_
  · show t0.1 646 j = _
    rw [hJ.2.2.2.1, if_neg (by omega)]
  · rintro m ⟨g, t⟩ h
    exact pk_le 16 16 (fun _ => ⟨yb_bz g, hK g t h⟩) (fun h => by omega)
  · rintro m k ⟨g, t⟩ hk ⟨g1, g2, g3, g4, g5⟩ ih
    have v6 : t.1 646 (16 * p + k) = st.1 646 (16 * p + k) := (g4 _).trans (if_neg (by omega))
    have v0 : t.1 650 = st.1 650 := g1.e1 (by omega)
    have h236 : ∀ (g' : Bool) (v : Int32), (g' = true ↔ g = true ∨ ym_L2 p st k) → v = yq (¬ st.1 646 (16 * p + k) = 0 ∧ ¬ st.1 650 k = 0) → zf_MO_meets_236 K (zf_MO_meets_159 K m) (nI p) (yb g') (nI k) v (nI (16 * p + k)) t := by
      intro g' v hg hv
      unfold zf_MO_meets_236
      rw [hv, yq_nar, nI_clamp (n := 16 * p + k) (by omega), nI_1]
      refine ⟨vp_in_nI (by omega) (by omega), nm_e (ih (g', zs_i t 646 (16 * p + k) (yq (¬ st.1 646 (16 * p + k) = 0 ∧ ¬ st.1 650 k = 0))) ⟨g1.i (by omega) (by omega), ?_, ?_, fun j => ?_, ?_⟩)⟩
      · show (zs_i t 646 (16 * p + k) _).1 644 = _
        rw [yi_r _ 646 _ _ (by omega : 644 ≠ 646)]
        exact g2
      · show (zs_i t 646 (16 * p + k) _).1 645 = _
        rw [yi_r _ 646 _ _ (by omega : 645 ≠ 646)]
        exact g3
      · show (zs_i t 646 (16 * p + k) _).1 646 j = _
        rw [yi_m]
        by_cases c : j = 16 * p + k
        · subst c
          rw [if_pos ⟨rfl, rfl⟩, if_pos ⟨by omega, by omega⟩, show 16 * p + k - 16 * p = k by omega]
        · rw [if_neg (fun q => c q.2), g4 j]
          by_cases c2 : 16 * p ≤ j ∧ j < 16 * p + k
          · rw [if_pos c2, if_pos ⟨c2.1, by omega⟩]
          · rw [if_neg c2, if_neg (by omega)]
      · rw [ym_ex, ← or_assoc, ← g5]
        exact hg
    have h197 : ∀ g' : Bool, (g' = true ↔ g = true ∨ ym_L2 p st k) → zf_MO_meets_197 K (zf_MO_meets_159 K m) (nI p) (nI k) (yb g') t := by
      intro g' hg
      unfold zf_MO_meets_197
      rw [yi_16, nI_clamp (n := 16 * p + k) (by omega), nI_clamp (n := k) (by omega), v6, v0]
      exact ⟨vp_in_nI (by omega) (by omega), br_c (fun c => h236 g' 0 hg (yq_f (fun q => q.1 c)).symm) (fun c => ⟨vp_in_nI (by omega) (by omega), br_c (fun c2 => h236 g' 0 hg (yq_f (fun q => q.2 c2)).symm) (fun c2 => h236 g' 1 hg (yq_t ⟨c, c2⟩).symm)⟩)⟩
    have z1 : (g = true ∨ ym_L2 p st k) → zf_MO_meets_192 K (zf_MO_meets_159 K m) (nI p) (nI k) t := fun h => h197 true ⟨fun _ => h, fun _ => rfl⟩
    have z0 : ¬ (g = true ∨ ym_L2 p st k) → zf_MO_meets_196 K (zf_MO_meets_159 K m) (nI p) (nI k) t := fun h => h197 false ⟨(fun h => by cases h), fun q => absurd q h⟩
    refine pk_le 16 k (fun h => by omega) (fun _ => And.intro (fun c => z1 (Or.inl (ts_nf (fun q => c ((yb_e0 g).mpr q))))) (fun c => ?_))
    have hg := (yb_e0 g).mp c
    show vp_in (16 * nI p + nI k) 3216 ∧ _
    rw [yi_16, nI_clamp (n := 16 * p + k) (by omega), nI_clamp (n := k) (by omega)]
    show vp_in _ _ ∧ ((t.1 646 (16 * p + k) = 0 → _) ∧ (¬ t.1 646 (16 * p + k) = 0 → (_ ∧ ((¬ t.1 650 k = 0 → _) ∧ (t.1 650 k = 0 → _)))))
    rw [v6, v0]
    refine ⟨vp_in_nI (by omega) (by omega), br_c (fun c1 => z0 ?_) (fun c1 => ⟨vp_in_nI (by omega) (by omega), And.intro (fun c2 => z0 ?_) (fun c2 => z1 (Or.inr ⟨c1, c2⟩))⟩)⟩
    · rintro (h | h)
      · rw [hg] at h; cases h
      · exact h.1 c1
    · rintro (h | h)
      · rw [hg] at h; cases h
      · exact c2 h.2
theorem ym_meets {p : Nat} {O : yp_Q} {K : Int32 → zs_T → Prop} (hp : p < 201) (hO : ∀ r s, O 2 r s ↔ O 2 r 0) (h0 : ym_o st 648 (O 0)) (h1 : ym_o st 649 (O 1)) (h2 : ym_u st (fun r => O 2 r 0))
    (hK : ∀ (g : Bool) t, zs_ag 644 646 st t → ym_b t p → (∀ p', p' ≠ p → ym_F t p' = ym_F st p' ∧ (ym_b st p' → ym_b t p')) → (∀ q r s, ym_F t p q r s ↔ ym_F st p q r s ∧ O q r s) → (g = false → ∀ q r s, ym_F st p q r s → O q r s) → (g = true → ∃ q r s, q < 3 ∧ r < 16 ∧ s < 16 ∧ ym_F st p q r s ∧ ¬ O q r s) → K (yb g) t) : zf_MO_meets (nI p) st K := by
  refine ym_meets1 hp (fun g0 t0 hJ => ym_meets2 hp hJ (fun g t hJ2 => ?_))
  obtain ⟨a1, a2, a3, a4, a5⟩ := hJ
  obtain ⟨c1, c2, c3, c4, c5⟩ := hJ2
  have e0 : ∀ r s, r < 16 → s < 16 → t.1 644 (256 * p + 16 * r + s) = yq (ym_F st p 0 r s ∧ O 0 r s) := by
    intro r s hr hs
    rw [c2, a2, if_pos ⟨by omega, by omega⟩, show 256 * p + 16 * r + s - 256 * p = 16 * r + s by omega, h0 r s hr hs]
    exact yq_i (by rw [ym_F0 hr hs, yq_n0])
  have e1 : ∀ r s, r < 16 → s < 16 → t.1 645 (256 * p + 16 * r + s) = yq (ym_F st p 1 r s ∧ O 1 r s) := by
    intro r s hr hs
    rw [c3, a3, if_pos ⟨by omega, by omega⟩, show 256 * p + 16 * r + s - 256 * p = 16 * r + s by omega, h1 r s hr hs]
    exact yq_i (by rw [ym_F1 hr hs, yq_n0])
  have e2 : ∀ r s, r < 16 → s < 16 → t.1 646 (16 * p + r) = yq (ym_F st p 2 r s ∧ O 2 r s) := by
    intro r s hr hs
    rw [c4, if_pos ⟨by omega, by omega⟩, show 16 * p + r - 16 * p = r by omega, h2 r hr]
    exact yq_i (by rw [ym_F2 hr hs, yq_n0, hO])
  have e3 : g = true ↔ ∃ q r s, q < 3 ∧ r < 16 ∧ s < 16 ∧ ym_F st p q r s ∧ ¬ O q r s := by
    rw [c5, a5]
    constructor
    · rintro (⟨x, hx, h | h⟩ | ⟨x, hx, h⟩)
      · refine ⟨0, x / 16, x % 16, by omega, by omega, by omega, (ym_F0 (by omega) (by omega)).mpr ?_, ?_⟩
        · rw [show 256 * p + 16 * (x / 16) + x % 16 = 256 * p + x by omega]
          exact h.1
        · have z := h0 (x / 16) (x % 16) (by omega) (by omega)
          rw [show 16 * (x / 16) + x % 16 = x by omega, h.2] at z
          exact yq_0.mp z.symm
      · refine ⟨1, x / 16, x % 16, by omega, by omega, by omega, (ym_F1 (by omega) (by omega)).mpr ?_, ?_⟩
        · rw [show 256 * p + 16 * (x / 16) + x % 16 = 256 * p + x by omega]
          exact h.1
        · have z := h1 (x / 16) (x % 16) (by omega) (by omega)
          rw [show 16 * (x / 16) + x % 16 = x by omega, h.2] at z
          exact yq_0.mp z.symm
      · refine ⟨2, x, 0, by omega, by omega, by omega, (ym_F2 (by omega) (by omega)).mpr h.1, ?_⟩
        have z := h2 x hx
        rw [h.2] at z
        exact yq_0.mp z.symm
    · rintro ⟨q, r, s, hq, hr, hs, h, h'⟩
      match q, hq with
      | 0, _ =>
        refine Or.inl ⟨16 * r + s, by omega, Or.inl ⟨?_, ?_⟩⟩
        · rw [← Nat.add_assoc]
          exact (ym_F0 hr hs).mp h
        · rw [h0 r s hr hs]
          exact yq_f h'
      | 1, _ =>
        refine Or.inl ⟨16 * r + s, by omega, Or.inr ⟨?_, ?_⟩⟩
        · rw [← Nat.add_assoc]
          exact (ym_F1 hr hs).mp h
        · rw [h1 r s hr hs]
          exact yq_f h'
      | 2, _ =>
        refine Or.inr ⟨r, hr, (ym_F2 hr hs).mp h, ?_⟩
        rw [h2 r hr]
        exact yq_f (fun z => h' ((hO r s).mpr z))
  have hF : ∀ q r s, ym_F t p q r s ↔ ym_F st p q r s ∧ O q r s := by
    intro q r s
    by_cases hq : q < 3
    · by_cases hr : r < 16
      · by_cases hs : s < 16
        · match q, hq with
          | 0, _ => rw [ym_F0 hr hs, e0 r s hr hs, yq_n0]
          | 1, _ => rw [ym_F1 hr hs, e1 r s hr hs, yq_n0]
          | 2, _ => rw [ym_F2 hr hs, e2 r s hr hs, yq_n0]
        · exact ⟨fun z => absurd z.2.2.1 hs, fun z => absurd z.1.2.2.1 hs⟩
      · exact ⟨fun z => absurd z.2.1 hr, fun z => absurd z.1.2.1 hr⟩
    · exact ⟨fun z => absurd z.1 hq, fun z => absurd z.1.1 hq⟩
  refine hK g t c1 (fun r s hr hs => ?_) (fun p' hp' => ?_) hF (fun hg q r s h => ?_) e3.mp
  · rw [e0 r s hr hs, e1 r s hr hs, e2 r s hr hs]
    exact ⟨yq_bz _, yq_bz _, yq_bz _⟩
  · refine ym_Fsame (fun r s hr hs => ⟨?_, ?_, ?_⟩)
    · rw [c2, a2, if_neg (by omega)]
    · rw [c3, a3, if_neg (by omega)]
    · rw [c4, if_neg (by omega)]
  · apply Classical.byContradiction
    intro z
    rw [e3.mpr ⟨q, r, s, h.1, h.2.1, h.2.2.1, h, z⟩] at hg
    cases hg
end YP
