/-! who meets whom, who is unkept, in the class; the search's end -/
def yc_A (G : yp_G) (st : zs_T) : Prop := (∀ r s, yc_M st r s ↔ r < 16 ∧ yp_M G r s) ∧ (∀ s t, yc_I st s t ↔ s < 200 ∧ yp_I G s t) ∧ (∀ r s, r < 16 → s < 32 → (bt (st.1 16 r) s = true ↔ s < 16 ∧ yp_meet G r s)) ∧ ∀ r, r < 32 → (bt (st.1 12 5) r = true ↔ r < 16 ∧ yp_un G r)
section YD
variable {G : yp_G} {d : Nat} {st : zs_T}
theorem yc_comm {r s : Nat} {K : Int32 → zs_T → Prop} (hr : r < 16) (hs : s < 16) (hK : ∀ g : Bool, (g = true ↔ ∃ x, yc_M st r x ∧ yc_M st s x) → K (yb g) st) : zf_AD_haveCommonSite (nI r) (nI s) st K := by
  unfold zf_AD_haveCommonSite
  refine pk_loop (W := fun n w (t : Bool) => zf_AD_haveCommonSite_5 K n (nI r) (nI s) (yb t) (nI w) st) (fun w t => (t = true ↔ ∃ x, x < w * 64 ∧ yc_M st r x ∧ yc_M st s x)) 4 0 false (by omega) ⟨(fun h => by cases h), fun ⟨x, h, _⟩ => by omega⟩ ?_ ?_
  · rintro n g h
    refine pk_le 4 4 (fun _ => ⟨yb_bz _, hK g (h.trans ⟨fun ⟨x, _, h1⟩ => ⟨x, h1⟩, fun ⟨x, h1⟩ => ⟨x, h1.1.2.1, h1⟩⟩)⟩) (fun h => by omega)
  · rintro n w g hw h ih
    refine pk_le 4 w (fun h => by omega) (fun _ => ?_)
    simp only [zf_AD_haveCommonSite_41]
    rw [yi_4, yi_4, nI_1, nI_clamp (n := r * 4 + w) (by omega), nI_clamp (n := s * 4 + w) (by omega), lg_cmp_eq]
    refine ⟨vp_in_nI (by omega) (by omega), vp_in_nI (by omega) (by omega), br_c (fun e => ih g ⟨fun hg => ?_, fun ⟨x, x1, x2, x3⟩ => ?_⟩) (fun e => ih true ⟨fun _ => ?_, fun _ => rfl⟩)⟩
    · obtain ⟨x, x1, x2⟩ := h.mp hg
      exact ⟨x, by omega, x2⟩
    · by_cases ex : x < w * 64
      · exact h.mpr ⟨x, ex, x2, x3⟩
      · have e1 : x / 64 = w := by omega
        have e2 := x2.2.2
        have e3 := x3.2.2
        unfold yc_b at e2 e3
        rw [e1] at e2 e3
        have e4 := bl_z.mp e (x % 64) (Nat.mod_lt _ (by omega))
        rw [bl_and, e2, e3] at e4
        cases e4
    · apply Classical.byContradiction
      intro hc
      apply e
      apply bl_z.mpr
      intro k hk
      rw [bl_and]
      cases e2 : bl (st.2 13 (r * 4 + w)) k with
      | false => rfl
      | true =>
        cases e3 : bl (st.2 13 (s * 4 + w)) k with
        | false => rfl
        | true =>
          refine absurd ⟨w * 64 + k, by omega, ⟨hr, by omega, ?_⟩, ⟨hs, by omega, ?_⟩⟩ hc
          · unfold yc_b; rw [show (w * 64 + k) / 64 = w by omega, show (w * 64 + k) % 64 = k by omega]; exact e2
          · unfold yc_b; rw [show (w * 64 + k) / 64 = w by omega, show (w * 64 + k) % 64 = k by omega]; exact e3
theorem yc_meet_iff {a b : zs_T} (hM : ∀ r s, yc_M a r s ↔ r < 16 ∧ yp_M G r s) (e : b.2 = a.2) {r s : Nat} (hr : r < 16) (hs : s < 16) : (∃ x, yc_M b r x ∧ yc_M b s x) ↔ yp_meet G r s := by
  have h : ∀ r s, yc_M b r s ↔ r < 16 ∧ yp_M G r s := by unfold yc_M yc_b; rw [e]; exact hM
  constructor
  · rintro ⟨x, h1, h2⟩
    exact ⟨x, ((h r x).mp h1).2, ((h s x).mp h2).2⟩
  · rintro ⟨x, h1, h2⟩
    exact ⟨x, (h r x).mpr ⟨hr, h1⟩, (h s x).mpr ⟨hs, h2⟩⟩
theorem yc_meeting {K : zs_T → Prop} (hM : ∀ r s, yc_M st r s ↔ r < 16 ∧ yp_M G r s) (hK : ∀ t, t.2 = st.2 → (∀ x, x ≠ 16 → t.1 x = st.1 x) → (∀ r s, r < 16 → s < 32 → (bt (t.1 16 r) s = true ↔ s < 16 ∧ yp_meet G r s)) → K t) : zf_AD_findMeeting st K := by
  unfold zf_AD_findMeeting
  refine pk_loop (W := fun n r (t : zs_T) => zf_AD_findMeeting_2 K n (nI r) t) (fun r t => t.2 = st.2 ∧ (∀ x, x ≠ 16 → t.1 x = st.1 x) ∧ ∀ r' s, r' < r → s < 32 → (bt (t.1 16 r') s = true ↔ s < 16 ∧ yp_meet G r' s)) 16 0 st (by omega) ⟨rfl, fun _ _ => rfl, fun r' s h => by omega⟩ ?_ ?_
  · rintro n t ⟨h1, h2, h3⟩
    exact pk_le 16 16 (fun _ => hK t h1 h2 h3) (fun h => by omega)
  · rintro n r t hr ⟨h1, h2, h3⟩ ih
    refine pk_le 16 r (fun h => by omega) (fun _ => ⟨vp_in_nI (by omega) (by omega), nm_e ?_⟩)
    rw [nI_clamp (n := r) (by omega)]
    refine pk_loop (W := fun n' s (u : zs_T) => zf_AD_findMeeting_17 K (zf_AD_findMeeting_2 K n) n' (nI r) (nI s) u) (fun s u => u.2 = st.2 ∧ (∀ x, x ≠ 16 → u.1 x = st.1 x) ∧ (∀ r' s, r' < r → s < 32 → (bt (u.1 16 r') s = true ↔ s < 16 ∧ yp_meet G r' s)) ∧ ∀ x, x < 32 → (bt (u.1 16 r) x = true ↔ x < s ∧ yp_meet G r x)) 16 0 _ (by omega) ⟨h1, fun x hx => (yi_r _ _ _ _ hx).trans (h2 x hx), fun r' s hr' hs => ?_, fun x hx => ?_⟩ ?_ ?_
    · rw [yi_n _ _ _ (by omega)]; exact h3 r' s hr' hs
    · rw [yi_s, b_0]
      exact ⟨(fun h => by cases h), fun h => by omega⟩
    · rintro n' u ⟨k1, k2, k3, k4⟩
      refine pk_le 16 16 (fun _ => ?_) (fun h => by omega)
      rw [nI_1]
      refine ih u ⟨k1, k2, fun r' s hr' hs => ?_⟩
      by_cases e : r' = r
      · rw [e]; exact k4 s hs
      · exact k3 r' s (by omega) hs
    · rintro n' s u hs ⟨k1, k2, k3, k4⟩ ih'
      refine pk_le 16 s (fun h => by omega) (fun _ => ?_)
      simp only [zf_AD_findMeeting_44]
      refine yc_comm hr hs (fun g hg => ?_)
      have hg' := hg.trans (yc_meet_iff hM k1 hr hs)
      cases g with
      | false =>
        refine ⟨fun _ => ?_, fun h => absurd rfl h⟩
        rw [nI_1]
        refine ih' u ⟨k1, k2, k3, fun x hx => (k4 x hx).trans ⟨fun h => ⟨by omega, h.2⟩, fun h => ⟨?_, h.2⟩⟩⟩
        have : x ≠ s := by rintro rfl; exact absurd (hg'.mpr h.2) (by simp)
        omega
      | true =>
        refine ⟨(fun h => by cases h), fun _ => ⟨vp_in_nI (by omega) (by omega), vp_in_nI (by omega) (by omega), nm_e ?_⟩⟩
        rw [nI_1, nI_clamp (n := r) (by omega)]
        refine ih' _ ⟨k1, fun x hx => (yi_r _ _ _ _ hx).trans (k2 x hx), fun r' x hr' hx => ?_, fun x hx => ?_⟩
        · rw [yi_n _ _ _ (by omega)]; exact k3 r' x hr' hx
        · rw [yi_s, b_or, Bool.or_eq_true, k4 x hx, yb_one (by omega) hx, decide_eq_true_eq]
          constructor
          · rintro (h | h)
            · exact ⟨by omega, h.2⟩
            · subst h; exact ⟨by omega, hg'.mp rfl⟩
          · intro h
            by_cases e : x = s
            · exact Or.inr e
            · exact Or.inl ⟨by omega, h.2⟩
theorem yi_ii (st : zs_T) (d j : Nat) (v w : Int32) : zs_i (zs_i st d j v) d j w = zs_i st d j w := by
  refine Prod.ext (funext fun d' => funext fun j' => ?_) rfl
  rw [yi_m, yi_m, yi_m]
  split <;> rfl
theorem yc_take {s : Nat} {v : Int32} {K : zs_T → Prop} (hM : ∀ r s, yc_M st r s ↔ r < 16 ∧ yp_M G r s) (hs : s < 200) (hK : ∀ w, (∀ r, r < 32 → (bt w r = true ↔ bt v r = true ∧ ¬ yp_M G r s ∨ bt v r = true ∧ ¬ r < 16)) → K (zs_i st 12 5 w)) : zf_AD_takeHolders (nI s) (zs_i st 12 5 v) K := by
  unfold zf_AD_takeHolders
  refine pk_loop (W := fun n r (t : zs_T) => zf_AD_takeHolders_2 K n (nI s) (nI r) t) (fun r t => ∃ w, t = zs_i st 12 5 w ∧ ∀ x, x < 32 → (bt w x = true ↔ bt v x = true ∧ ¬ (x < r ∧ yp_M G x s))) 16 0 _ (by omega) ⟨v, rfl, fun x _ => ⟨fun h => ⟨h, fun h => by omega⟩, fun h => h.1⟩⟩ ?_ ?_
  · rintro n t ⟨w, e, h⟩
    subst e
    refine pk_le 16 16 (fun _ => hK w (fun r hr => (h r hr).trans ⟨fun k => ?_, fun k => ?_⟩)) (fun h => by omega)
    · by_cases c : r < 16
      · exact Or.inl ⟨k.1, fun m => k.2 ⟨c, m⟩⟩
      · exact Or.inr ⟨k.1, c⟩
    · rcases k with k | k
      · exact ⟨k.1, fun m => k.2 m.2⟩
      · exact ⟨k.1, fun m => k.2 m.1⟩
  · rintro n r t hr ⟨w, e, h⟩ ih
    subst e
    refine pk_le 16 r (fun h => by omega) (fun _ => ?_)
    simp only [zf_AD_takeHolders_34]
    rw [nI_1]
    refine yc_has (by omega) (by omega) (by omega) ?_
    have hb : yc_b (zs_i st 12 5 w) 13 r s = true ↔ yp_M G r s := by
      have := hM r s
      unfold yc_M at this
      constructor
      · intro hb; exact (this.mp ⟨hr, by omega, hb⟩).2
      · intro hb; exact (this.mpr ⟨hr, hb⟩).2.2
    cases e : yc_b (zs_i st 12 5 w) 13 r s with
    | false =>
      rw [e] at hb
      refine ⟨fun _ => ih _ ⟨w, rfl, fun x hx => (h x hx).trans ⟨fun k => ⟨k.1, fun m => ?_⟩, fun k => ⟨k.1, fun m => k.2 ⟨by omega, m.2⟩⟩⟩⟩, fun h => absurd rfl h⟩
      by_cases ex : x = r
      · subst ex; exact absurd (hb.mpr m.2) (by simp)
      · exact k.2 ⟨by omega, m.2⟩
    | true =>
      rw [e] at hb
      refine ⟨(fun h => by cases h), fun _ => nm_e ?_⟩
      rw [yi_ii, yi_s]
      refine ih _ ⟨_, rfl, fun x hx => ?_⟩
      rw [b_and, Bool.and_eq_true, h x hx, yb_not _ hx, yb_one (by omega) hx]
      simp only [Bool.not_eq_true', decide_eq_false_iff_not]
      constructor
      · rintro ⟨⟨k1, k2⟩, k3⟩
        exact ⟨k1, fun m => k2 ⟨by omega, m.2⟩⟩
      · rintro ⟨k1, k2⟩
        refine ⟨⟨k1, fun m => k2 ⟨by omega, m.2⟩⟩, fun ex => ?_⟩
        subst ex
        exact k2 ⟨by omega, hb.mp rfl⟩
theorem yc_unk {m : Nat} {K : zs_T → Prop} (hok : yp_ok G) (hC : yp_C d G st) (hd : d + 4 < 12) (hM : ∀ r s, yc_M st r s ↔ r < 16 ∧ yp_M G r s) (hL : yc_L G m st) (hK : ∀ w, (∀ r, r < 32 → (bt w r = true ↔ r < 16 ∧ yp_un G r)) → K (zs_i st 12 5 w)) : zf_AD_findUnkept d st K := by
  have hn := hok.n
  unfold zf_AD_findUnkept
  refine nm_e ?_
  refine pk_loop (W := fun n k (t : zs_T) => zf_AD_findUnkept_8 d K n (nI k) t) (fun k t => ∃ w, t = zs_i st 12 5 w ∧ ∀ r, r < 32 → (bt w r = true ↔ r < 16 ∧ ∀ j s, j < k → st.1 15 j = nI s → s < yn G → yp_M G r s → ¬ yd G s = 1)) m 0 _ (by omega) ⟨65535, rfl, fun r _ => ?_⟩ ?_ ?_
  · rw [b_65535, decide_eq_true_eq]
    exact ⟨fun h => ⟨h, fun j s h => by omega⟩, fun h => h.1⟩
  · rintro n t ⟨w, e, h⟩
    subst e
    have e3 : (zs_i st 12 5 w).1 12 3 = nI m := by rw [yi_n _ _ _ (by omega)]; exact hL.1
    have hm := hL.2.1
    refine pk_le m m (fun _ => hK w (fun r hr => (h r hr).trans ⟨fun k => ⟨k.1, fun s hs => ?_⟩, fun k => ⟨k.1, fun j s _ _ _ hs => k.2 s hs⟩⟩)) (fun h => by omega) e3
    have hs' := yp_M_s hs
    obtain ⟨j, j1, j2⟩ := hL.2.2.2 s hs'.1 hs'.2
    exact k.2 j s j1 j2 hs'.1 hs
  · rintro n k t hk ⟨w, e, h⟩ ih
    subst e
    have e3 : (zs_i st 12 5 w).1 12 3 = nI m := by rw [yi_n _ _ _ (by omega)]; exact hL.1
    have hm := hL.2.1
    obtain ⟨s, s1, s2, s3⟩ := hL.2.2.1 k hk
    have s1' : (zs_i st 12 5 w).1 15 k = nI s := by rw [yi_r _ _ _ _ (by omega)]; exact s1
    have hdd := hok.d s2
    refine pk_le m k (fun h => by omega) (fun _ => ⟨vp_in_nI (by omega) (by omega), ?_⟩) e3
    simp only [zf_AD_findUnkept_41]
    rw [nI_clamp (n := k) (by omega), s1', nI_clamp (n := s) (by omega), nI_1, yi_r _ _ _ _ (show d + 4 ≠ 12 by omega), (hC.2 s s2).2.2.2]
    refine ⟨vp_in_nI (by omega) (by omega), And.intro (fun e => ih _ ⟨w, rfl, fun r hr => (h r hr).trans ⟨fun q => ⟨q.1, fun j s' hj j1 j2 hs => ?_⟩, fun q => ⟨q.1, fun j s' hj => q.2 j s' (by omega)⟩⟩⟩) (fun e => ⟨vp_in_nI (by omega) (by omega), ?_⟩)⟩
    · by_cases ej : j = k
      · subst ej
        have : s' = s := (nI_eq (by omega) (by omega)).mp (j1.symm.trans s1)
        subst this
        intro e1
        exact e (by rw [e1]; rfl)
      · exact q.2 j s' (by omega) j1 j2 hs
    · have e1 : yd G s = 1 := (nI_eq (by omega) (by omega)).mp e
      refine yc_take hM (by omega) (fun w' hw' => ih _ ⟨w', rfl, fun r hr => (hw' r hr).trans ⟨fun q => ?_, fun q => ?_⟩⟩)
      · rcases q with ⟨q1, q2⟩ | ⟨q1, q2⟩
        · have q3 := (h r hr).mp q1
          refine ⟨q3.1, fun j s' hj j1 j2 hs => ?_⟩
          by_cases ej : j = k
          · subst ej
            have : s' = s := (nI_eq (by omega) (by omega)).mp (j1.symm.trans s1)
            subst this
            exact absurd hs q2
          · exact q3.2 j s' (by omega) j1 j2 hs
        · exact absurd ((h r hr).mp q1).1 q2
      · refine Or.inl ⟨(h r hr).mpr ⟨q.1, fun j s' hj => q.2 j s' (by omega)⟩, fun hs => ?_⟩
        exact q.2 k s (by omega) s1 s2 hs e1
/-- the whole search: the cells 12 .. 16 hold what is to be found -/
theorem yc_find {K : zs_T → Prop} (hok : yp_ok G) (hC : yp_C d G st) (hd : d + 4 < 12) (hK : ∀ t, zs_ag 12 16 st t → yc_A G t → K t) : zf_AD_find d st K := by
  unfold zf_AD_find
  refine yc_fillL (by omega) (fun t1 a1 a2 a3 => ?_)
  refine yc_fillL (by omega) (fun t2 b1 b2 b3 => ?_)
  have hC2 : yp_C d G t2 := hC.of (fun x _ _ => by rw [b1, a1])
  refine yc_list hok hC2 hd (fun m t3 c1 c2 c3 => ?_)
  have hC3 : yp_C d G t3 := hC2.of (fun x _ _ => c2 x (by omega) (by omega))
  have hV : yc_V G t3 := by
    refine ⟨fun r s h => ?_, fun r s h => ?_⟩
    · have := h.2.2
      have h1 := h.1
      have h2 := h.2.1
      unfold yc_b at this
      rw [c1, b2 13 (by omega), a3 _ (by omega), bl_0] at this
      cases this
    · have := h.2.2
      have h1 := h.1
      have h2 := h.2.1
      unfold yc_b at this
      rw [c1, b3 _ (by omega), bl_0] at this
      cases this
  refine yc_sweeps hok hC3 hV c3 (fun t4 d1 d2 d3 d4 => ?_)
  unfold zf_AD_find_73
  refine yc_meeting d3 (fun t5 e1 e2 e3 => ?_)
  have hC5 : yp_C d G t5 := hC3.of (fun x _ _ => by rw [e2 x (by omega), d1])
  have hM5 : ∀ r s, yc_M t5 r s ↔ r < 16 ∧ yp_M G r s := by
    have h := d3
    unfold yc_M yc_b at h ⊢
    rw [e1]; exact h
  have hI5 : ∀ r s, yc_I t5 r s ↔ r < 200 ∧ yp_I G r s := by
    have h := d4
    unfold yc_I yc_b at h ⊢
    rw [e1]; exact h
  have hL5 : yc_L G m t5 := by
    have h := c3
    unfold yc_L at h ⊢
    rw [e2 12 (by omega), e2 15 (by omega), d1]; exact h
  refine yc_unk hok hC5 hd hM5 hL5 (fun w hw => hK _ (fun x hx => ⟨?_, ?_⟩) ⟨hM5, hI5, fun r s hr hs => ?_, fun r hr => ?_⟩)
  · rw [yi_r _ _ _ _ (by omega), e2 x (by omega), d1, c2 x (by omega) (by omega), b1, a1]
  · show t5.2 x = st.2 x
    rw [e1, d2 x (by omega) (by omega), c1, b2 x (by omega), a2 x (by omega)]
  · rw [yi_r _ _ _ _ (by omega)]; exact e3 r s hr hs
  · rw [yi_s]; exact hw r hr
end YD
