/-! what addresses may be, in the class: the whole search -/
section YC
variable {G : yp_G} {d : Nat} {st : zs_T} {K : zs_T → Prop}
theorem yp_C.of {a b : zs_T} (h : yp_C d G a) (e : ∀ x, d ≤ x → x ≤ d + 4 → b.1 x = a.1 x) : yp_C d G b := by
  unfold yp_C
  rw [e d (by omega) (by omega), e (d + 1) (by omega) (by omega), e (d + 2) (by omega) (by omega), e (d + 3) (by omega) (by omega), e (d + 4) (by omega) (by omega)]
  exact h
theorem yc_list (hok : yp_ok G) (hC : yp_C d G st) (hd : d + 4 < 12) (hK : ∀ m st', st'.2 = st.2 → (∀ x, x ≠ 12 → x ≠ 15 → st'.1 x = st.1 x) → yc_L G m st' → K st') : zf_AD_listSites d st K := by
  have hn := hok.n
  unfold zf_AD_listSites
  refine nm_e ?_
  refine pk_loop (W := fun n i (t : zs_T) => zf_AD_listSites_7 d K n (nI i) t) (fun i t => t.2 = st.2 ∧ (∀ x, x ≠ 12 → x ≠ 15 → t.1 x = st.1 x) ∧ ∃ m, m ≤ i ∧ t.1 12 3 = nI m ∧ (∀ k, k < m → ∃ s, t.1 15 k = nI s ∧ s < yn G ∧ yk G s = 8) ∧ ∀ s, s < i → yk G s = 8 → ∃ k, k < m ∧ t.1 15 k = nI s) (yn G) 0 _ (by omega) ⟨rfl, fun x hx _ => yi_r _ _ _ _ hx, 0, by omega, yi_s _ _ _ _, fun k h => by omega, fun s h => by omega⟩ ?_ ?_
  · rintro n t ⟨h1, h2, m, hm, h3, h4, h5⟩
    have hC' : yp_C d G t := hC.of (fun x h h' => h2 x (by omega) (by omega))
    exact pk_le (yn G) (yn G) (fun _ => hK m t h1 h2 ⟨h3, by omega, h4, h5⟩) (fun h => by omega) hC'.1
  · rintro n i t hi ⟨h1, h2, m, hm, h3, h4, h5⟩ ih
    have hC' : yp_C d G t := hC.of (fun x h h' => h2 x (by omega) (by omega))
    have hk := hok.k hi
    refine pk_le (yn G) i (fun h => by omega) (fun _ => ⟨vp_in_nI (by omega) (by omega), ?_⟩) hC'.1
    simp only [zf_AD_listSites_46]
    rw [nI_clamp (n := i) (by omega), (hC'.2 i hi).1, nI_1]
    refine And.intro (fun h => ih t ⟨h1, h2, m, by omega, h3, h4, fun s hs hk' => ?_⟩) (fun h => ?_)
    · have e : s ≠ i := by rintro rfl; exact h (by rw [hk']; rfl)
      exact h5 s (by omega) hk'
    · have h8 : yk G i = 8 := (nI_eq (by omega) (by omega)).mp h
      rw [h3, nI_clamp (n := m) (by omega)]
      refine ⟨vp_in_nI (by omega) (by omega), nm_e (nm_e ?_)⟩
      rw [show (zs_i t 15 m (nI i)).1 12 3 = nI m by rw [yi_r _ _ _ _ (by omega)]; exact h3, nI_1]
      refine ih _ ⟨h1, fun x hx hx' => ?_, m + 1, by omega, yi_s _ _ _ _, fun k hk' => ?_, fun s hs hk' => ?_⟩
      · rw [yi_r _ _ _ _ hx, yi_r _ _ _ _ hx']; exact h2 x hx hx'
      · rw [yi_r _ _ _ _ (by omega), yi_m]
        by_cases e : k = m
        · exact ⟨i, by rw [if_pos ⟨rfl, e⟩], hi, h8⟩
        · rw [if_neg (fun c => e c.2)]; exact h4 k (by omega)
      · rw [yi_r _ _ _ _ (by omega)]
        by_cases e : s = i
        · exact ⟨m, by omega, by rw [yi_m, if_pos ⟨rfl, rfl⟩, e]⟩
        · obtain ⟨k, k1, k2⟩ := h5 s (by omega) hk'
          exact ⟨k, by omega, by rw [yi_m, if_neg (by omega)]; exact k2⟩
noncomputable def yc_c (t : zs_T) : Nat := yp_c (fun q => ¬ yc_M t (q / 256) (q % 256)) 4096 + yp_c (fun q => ¬ yc_I t (q / 256) (q % 256)) 51200
theorem yc_c_le (t : zs_T) : yc_c t ≤ 55296 := by
  have h1 := yp_c_le (fun q => ¬ yc_M t (q / 256) (q % 256)) 4096
  have h2 := yp_c_le (fun q => ¬ yc_I t (q / 256) (q % 256)) 51200
  unfold yc_c
  omega
theorem yc_c_lt {a b : zs_T} (hU : yc_U a b) (hZ : yc_Z a b) : yc_c b < yc_c a := by
  have h1 : yp_c (fun q => ¬ yc_M b (q / 256) (q % 256)) 4096 ≤ yp_c (fun q => ¬ yc_M a (q / 256) (q % 256)) 4096 := yp_c_mono (fun q _ h h' => h (hU.1 _ _ h'))
  have h2 : yp_c (fun q => ¬ yc_I b (q / 256) (q % 256)) 51200 ≤ yp_c (fun q => ¬ yc_I a (q / 256) (q % 256)) 51200 := yp_c_mono (fun q _ h h' => h (hU.2 _ _ h'))
  unfold yc_c
  rcases hZ with ⟨r, s, e1, e2⟩ | ⟨s, t, e1, e2⟩
  · have hr := e2.1
    have hs := e2.2.1
    have h3 : yp_c (fun q => ¬ yc_M b (q / 256) (q % 256)) 4096 < yp_c (fun q => ¬ yc_M a (q / 256) (q % 256)) 4096 := by
      refine yp_c_lt (k := r * 256 + s) (fun q _ h h' => h (hU.1 _ _ h')) (by omega) ?_ ?_
      · rw [show (r * 256 + s) / 256 = r by omega, show (r * 256 + s) % 256 = s by omega]; exact fun h => h e2
      · rw [show (r * 256 + s) / 256 = r by omega, show (r * 256 + s) % 256 = s by omega]; exact e1
    omega
  · have hr := e2.1
    have hs := e2.2.1
    have h3 : yp_c (fun q => ¬ yc_I b (q / 256) (q % 256)) 51200 < yp_c (fun q => ¬ yc_I a (q / 256) (q % 256)) 51200 := by
      refine yp_c_lt (k := s * 256 + t) (fun q _ h h' => h (hU.2 _ _ h')) (by omega) ?_ ?_
      · rw [show (s * 256 + t) / 256 = s by omega, show (s * 256 + t) % 256 = t by omega]; exact fun h => h e2
      · rw [show (s * 256 + t) / 256 = s by omega, show (s * 256 + t) % 256 = t by omega]; exact e1
    omega
theorem yc_sweep {B : Int32 → Int32 → zs_T → Prop} {m : Nat} {x : Int32} (hok : yp_ok G) (hC : yp_C d G st) (hV : yc_V G st) (hL : yc_L G m st)
    (hB : ∀ (g : Bool) (t : zs_T), yc_st G st t g → (g = false → yp_cls G (yc_M st) (yc_I st)) → B (yb g) (x + 1) t) : ∃ n, zf_AD_find_40 d K B n 0 x 0 st := by
  have hn := hok.n
  refine pk_loop (W := fun n i (t : Bool × zs_T) => zf_AD_find_40 d K B n (yb t.1) x (nI i) t.2) (fun i t => yc_st G st t.2 t.1 ∧ (t.1 = false → ∀ j, j < i → yp_cl G j (yc_M st) (yc_I st))) (yn G) 0 (false, st) (by omega) ⟨yc_st.refl hV, fun _ j h => by omega⟩ ?_ ?_
  · rintro n ⟨g, t⟩ ⟨h1, h2⟩
    have hC' : yp_C d G t := hC.of (fun x _ _ => by rw [h1.1])
    exact pk_le (yn G) (yn G) (fun _ => hB g t h1 h2) (fun h => by omega) hC'.1
  · rintro n i ⟨g, t⟩ hi ⟨h1, h2⟩ ih
    have hC' : yp_C d G t := hC.of (fun x _ _ => by rw [h1.1])
    refine pk_le (yn G) i (fun h => by omega) (fun _ => ?_) hC'.1
    simp only [zf_AD_find_61]
    rw [nI_1]
    refine yc_follow hok hC' h1.2.2.1 (hL.of h1.1) hi (fun g' t' h3 h4 => ?_)
    have h5 := h1.trans h3
    cases g' with
    | true =>
      rw [Bool.or_true] at h5
      exact ⟨(fun h => by cases h), fun _ => ih (true, t') ⟨h5, fun h => by cases h⟩⟩
    | false =>
      rw [Bool.or_false] at h5
      refine ⟨fun _ => ih (g, t') ⟨h5, fun e j hj => ?_⟩, fun h => absurd rfl h⟩
      by_cases ej : j = i
      · subst ej
        have h6 : t = st := h1.2.2.2.2.1 e
        have h7 := h4 rfl
        rw [h6] at h7
        exact h7
      · exact h2 e j (by omega)
theorem yc_sweeps {m : Nat} (hok : yp_ok G) (hC : yp_C d G st) (hV : yc_V G st) (hL : yc_L G m st)
    (hK : ∀ t, t.1 = st.1 → (∀ x, x ≠ 13 → x ≠ 14 → t.2 x = st.2 x) → (∀ r s, yc_M t r s ↔ r < 16 ∧ yp_M G r s) → (∀ a b, yc_I t a b ↔ a < 200 ∧ yp_I G a b) → zf_AD_find_73 d K t) : ∃ n, zf_AD_find_25 d K n 1 0 st := by
  have hn := hok.n
  refine loop_m (σ := Bool × Nat × zs_T) (fun n s => zf_AD_find_25 d K n (yb s.1) (nI s.2.1) s.2.2) (fun s => s.2.2.1 = st.1 ∧ (∀ x, x ≠ 13 → x ≠ 14 → s.2.2.2 x = st.2 x) ∧ yc_V G s.2.2 ∧ (s.1 = false → yp_cls G (yc_M s.2.2) (yc_I s.2.2)) ∧ (s.1 = true → s.2.1 + yc_c s.2.2 ≤ 55296)) (fun s => yc_c s.2.2 + (if s.1 then 1 else 0)) ?_ (true, 0, st) ⟨rfl, fun _ _ _ => rfl, hV, (fun h => by cases h), fun _ => by have := yc_c_le st; simpa using this⟩
  rintro n ⟨g, k, t⟩ ⟨h1, h2, h3, h4, h5⟩ ih
  cases g with
  | false =>
    refine ⟨fun _ => hK t h1 h2 (fun r s => ⟨fun h => ⟨h.1, h3.1 r s h⟩, fun h => ?_⟩) (fun r s => ⟨fun h => ⟨h.1, h3.2 r s h⟩, fun h => ?_⟩), fun h => absurd rfl h⟩
    · exact h.2 _ _ (h4 rfl)
    · exact h.2 _ _ (h4 rfl)
  | true =>
    have h6 := h5 rfl
    simp only at h6
    refine ⟨(fun h => by cases h), fun _ => ?_⟩
    refine pk_le 1000000 k (fun h => by omega) (fun _ => ?_)
    have hC' : yp_C d G t := hC.of (fun x _ _ => by rw [h1])
    refine yc_sweep hok hC' h3 (hL.of h1) (fun g' t' k1 k2 => ?_)
    rw [nI_1]
    refine ih (g', k + 1, t') ⟨k1.1.trans h1, fun x hx hx' => (k1.2.1 x hx hx').trans (h2 x hx hx'), k1.2.2.1, fun e => ?_, fun e => ?_⟩ ?_
    · have e' : g' = false := e
      have k3 : t' = t := k1.2.2.2.2.1 e'
      have := k2 e'
      rw [← k3] at this
      exact this
    · have e' : g' = true := e
      have k3 : yc_c t' < yc_c t := yc_c_lt k1.2.2.2.1 (k1.2.2.2.2.2 e')
      show k + 1 + yc_c t' ≤ 55296
      omega
    · show yc_c t' + (if g' = true then 1 else 0) < yc_c t + 1
      cases g' with
      | false =>
        have k3 : t' = t := k1.2.2.2.2.1 rfl
        rw [k3]; simp
      | true =>
        have k3 : yc_c t' < yc_c t := yc_c_lt k1.2.2.2.1 (k1.2.2.2.2.2 rfl)
        simp; omega
end YC
