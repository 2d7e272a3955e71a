/-! what addresses may be, in the class: one turn for one instruction -/
def yc_M (st : zs_T) (r s : Nat) : Prop := r < 16 ∧ s < 256 ∧ yc_b st 13 r s = true
def yc_I (st : zs_T) (s t : Nat) : Prop := s < 200 ∧ t < 256 ∧ yc_b st 14 s t = true
def yc_V (G : yp_G) (st : zs_T) : Prop := (∀ r s, yc_M st r s → yp_M G r s) ∧ ∀ s t, yc_I st s t → yp_I G s t
def yc_U (a b : zs_T) : Prop := (∀ r s, yc_M a r s → yc_M b r s) ∧ ∀ s t, yc_I a s t → yc_I b s t
def yc_Z (a b : zs_T) : Prop := (∃ r s, ¬ yc_M a r s ∧ yc_M b r s) ∨ ∃ s t, ¬ yc_I a s t ∧ yc_I b s t
def yc_st (G : yp_G) (a b : zs_T) (g : Bool) : Prop := b.1 = a.1 ∧ (∀ d, d ≠ 13 → d ≠ 14 → b.2 d = a.2 d) ∧ yc_V G b ∧ yc_U a b ∧ (g = false → b = a) ∧ (g = true → yc_Z a b)
theorem yc_st.refl {G : yp_G} {a : zs_T} (h : yc_V G a) : yc_st G a a false := ⟨rfl, fun _ _ _ => rfl, h, ⟨fun _ _ h => h, fun _ _ h => h⟩, fun _ => rfl, fun h => by cases h⟩
theorem yc_st.trans {G : yp_G} {a b c : zs_T} {g g' : Bool} (h : yc_st G a b g) (h' : yc_st G b c g') : yc_st G a c (g || g') := by
  obtain ⟨h1, h2, h3, h4, h5, h6⟩ := h
  obtain ⟨k1, k2, k3, k4, k5, k6⟩ := h'
  refine ⟨k1.trans h1, fun d hd hd' => (k2 d hd hd').trans (h2 d hd hd'), k3, ⟨fun r s h => k4.1 r s (h4.1 r s h), fun r s h => k4.2 r s (h4.2 r s h)⟩, fun e => ?_, fun e => ?_⟩
  · rw [Bool.or_eq_false_iff] at e
    rw [k5 e.2, h5 e.1]
  · rw [Bool.or_eq_true] at e
    rcases e with e | e
    · rcases h6 e with ⟨r, s, e1, e2⟩ | ⟨r, s, e1, e2⟩
      · exact Or.inl ⟨r, s, e1, k4.1 r s e2⟩
      · exact Or.inr ⟨r, s, e1, k4.2 r s e2⟩
    · rcases k6 e with ⟨r, s, e1, e2⟩ | ⟨r, s, e1, e2⟩
      · exact Or.inl ⟨r, s, fun q => e1 (h4.1 r s q), e2⟩
      · exact Or.inr ⟨r, s, fun q => e1 (h4.2 r s q), e2⟩
/-- the sites are listed -/
def yc_L (G : yp_G) (m : Nat) (st : zs_T) : Prop := st.1 12 3 = nI m ∧ m ≤ 200 ∧ (∀ k, k < m → ∃ s, st.1 15 k = nI s ∧ s < yn G ∧ yk G s = 8) ∧ ∀ s, s < yn G → yk G s = 8 → ∃ k, k < m ∧ st.1 15 k = nI s
theorem yc_L.of {G : yp_G} {m : Nat} {a b : zs_T} (h : yc_L G m a) (e : b.1 = a.1) : yc_L G m b := by unfold yc_L; rw [e]; exact h
section YB
variable {G : yp_G} {st : zs_T} {K : Int32 → zs_T → Prop}
theorem yc_addM {a : Nat} {p : Nat → Bool} {st' : zs_T} {g : Bool} (hV : yc_V G st) (ha : a < 16) (hs : ∀ s, s < 256 → p s = true → yp_M G a s) (h1 : st'.1 = st.1) (h2 : ∀ d', d' ≠ 13 → st'.2 d' = st.2 d') (hb : ∀ r s, s < 256 → yc_b st' 13 r s = (yc_b st 13 r s || (decide (r = a) && p s))) (h4 : g = false → st' = st) (h5 : g = true → ∃ s, s < 256 ∧ yc_b st 13 a s = false ∧ p s = true) : yc_st G st st' g ∧ (g = false → ∀ s, s < 256 → p s = true → yc_M st a s) ∧ ∀ s, s < 256 → p s = true → yc_M st' a s := by
  have e14 : ∀ s t, yc_b st' 14 s t = yc_b st 14 s t := fun s t => by unfold yc_b; rw [h2 14 (by omega)]
  have hc : ∀ s, s < 256 → p s = true → yc_M st' a s := fun s hs' h => ⟨ha, hs', by rw [hb a s hs', h]; simp⟩
  refine ⟨⟨h1, fun d hd _ => h2 d hd, ⟨fun r s h => ?_, fun s t h => hV.2 s t ⟨h.1, h.2.1, by rw [← e14]; exact h.2.2⟩⟩, ⟨fun r s h => ⟨h.1, h.2.1, by rw [hb r s h.2.1, h.2.2]; rfl⟩, fun s t h => ⟨h.1, h.2.1, by rw [e14]; exact h.2.2⟩⟩, h4, fun e => ?_⟩, fun e s hs' h => ?_, hc⟩
  · obtain ⟨h6, h7, h8⟩ := h
    rw [hb r s h7, Bool.or_eq_true, Bool.and_eq_true] at h8
    rcases h8 with h8 | ⟨h8, h9⟩
    · exact hV.1 r s ⟨h6, h7, h8⟩
    · rw [of_decide_eq_true h8]; exact hs s h7 h9
  · obtain ⟨s, s1, s2, s3⟩ := h5 e
    exact Or.inl ⟨a, s, (fun h => by rw [h.2.2] at s2; cases s2), hc s s1 s3⟩
  · have := hc s hs' h
    rw [h4 e] at this
    exact this
theorem yc_joinM {a q d2 n2 : Nat} (hV : yc_V G st) (ha : a < 16) (hq : q * 4 + 4 ≤ n2) (hd : d2 = 13 ∧ n2 = 64 ∨ d2 = 14 ∧ n2 = 800) (hs : ∀ s, s < 256 → yc_b st d2 q s = true → yp_M G a s)
    (hK : ∀ (g : Bool) (st' : zs_T), yc_st G st st' g → (g = false → ∀ s, s < 256 → yc_b st d2 q s = true → yc_M st a s) → K (yb g) st') : zf_AD_join 13 64 (nI a) d2 n2 (nI q) st K := by
  refine yc_join (by omega) hq (by omega) (by omega) (fun g st' h1 h2 h3 h4 h5 => ?_)
  have := yc_addM hV ha hs h1 h2 (fun r s hs => yc_joinb h3 hs) h4 h5
  exact hK g st' this.1 this.2.1
theorem yc_joinI {s b : Nat} (hV : yc_V G st) (hs : s < 200) (hb' : b < 16) (hc : ∀ t, yp_M G b t → yp_I G s t)
    (hK : ∀ (g : Bool) (st' : zs_T), yc_st G st st' g → (g = false → ∀ t, yc_M st b t → yc_I st s t) → K (yb g) st') : zf_AD_join 14 800 (nI s) 13 64 (nI b) st K := by
  refine yc_join (by omega) (by omega) (by omega) (by omega) (fun g st' h1 h2 h3 h4 h5 => ?_)
  have hb : ∀ r t, t < 256 → yc_b st' 14 r t = (yc_b st 14 r t || (decide (r = s) && yc_b st 13 b t)) := fun r t ht => yc_joinb h3 ht
  have e13 : ∀ s t, yc_b st' 13 s t = yc_b st 13 s t := fun s t => by unfold yc_b; rw [h2 13 (by omega)]
  have hn : ∀ t, yc_M st b t → yc_I st' s t := fun t h => ⟨hs, h.2.1, by rw [hb s t h.2.1, h.2.2]; simp⟩
  refine hK g st' ⟨h1, fun d _ hd => h2 d hd, ⟨fun r t h => hV.1 r t ⟨h.1, h.2.1, by rw [← e13]; exact h.2.2⟩, fun r t h => ?_⟩, ⟨fun r t h => ⟨h.1, h.2.1, by rw [e13]; exact h.2.2⟩, fun r t h => ⟨h.1, h.2.1, by rw [hb r t h.2.1, h.2.2]; rfl⟩⟩, h4, fun e => ?_⟩ (fun e t h => ?_)
  · obtain ⟨h6, h7, h8⟩ := h
    rw [hb r t h7, Bool.or_eq_true, Bool.and_eq_true] at h8
    rcases h8 with h8 | ⟨h8, h9⟩
    · exact hV.2 r t ⟨h6, h7, h8⟩
    · rw [of_decide_eq_true h8]; exact hc t (hV.1 b t ⟨hb', h7, h9⟩)
  · obtain ⟨t, s1, s2, s3⟩ := h5 e
    exact Or.inr ⟨s, t, (fun h => by rw [h.2.2] at s2; cases s2), hn t ⟨hb', s1, s3⟩⟩
  · have := hn t h
    rw [h4 e] at this
    exact this
theorem yc_enter {a i : Nat} (hV : yc_V G st) (ha : a < 16) (hi : i < 200) (hm : yp_M G a i) (hK : ∀ (g : Bool) (st' : zs_T), yc_st G st st' g → yc_M st' a i → K (yb g) st') : zf_AD_enter (nI a) (nI i) st K := by
  unfold zf_AD_enter
  refine yc_has (by omega) (by omega) (by omega) ?_
  cases hb : yc_b st 13 a i with
  | true => exact ⟨(fun h => by cases h), fun _ => hK false st (yc_st.refl hV) ⟨ha, by omega, hb⟩⟩
  | false =>
    refine ⟨fun _ => ?_, fun h => absurd rfl h⟩
    rw [bl_d i (by omega), yi_4, bl_m i (by omega), nI_clamp (n := a * 4 + i / 64) (by omega)]
    refine ⟨vp_in_nI (by omega) (by omega), vp_in_nI (by omega) (by omega), nm_e ?_⟩
    have e1 : ∀ r s, s < 256 → yc_b (zs_l st 13 (a * 4 + i / 64) (st.2 13 (a * 4 + i / 64) ||| ((1 : Int64) <<< ((nI (i % 64)).toInt64 &&& 63)))) 13 r s = (yc_b st 13 r s || (decide (r = a) && decide (s = i))) := by
      intro r s hs
      unfold yc_b
      rw [yl_m]
      by_cases e : r * 4 + s / 64 = a * 4 + i / 64
      · have e2 : r = a := by omega
        have e3 : s / 64 = i / 64 := by omega
        subst e2
        rw [if_pos ⟨rfl, e⟩, bl_or, bl_one (Nat.mod_lt _ (by omega)) (Nat.mod_lt _ (by omega)), e3]
        have e4 : decide (s % 64 = i % 64) = decide (s = i) := by
          by_cases e5 : s = i
          · simp [e5]
          · have : ¬ s % 64 = i % 64 := by omega
            simp [e5, this]
        rw [e4]; simp
      · rw [if_neg (fun h => e h.2)]
        have : ¬ (r = a ∧ s = i) := by rintro ⟨rfl, rfl⟩; exact e rfl
        by_cases e2 : r = a
        · by_cases e3 : s = i
          · exact absurd ⟨e2, e3⟩ this
          · simp [e3]
        · simp [e2]
    have := yc_addM (st' := zs_l st 13 (a * 4 + i / 64) (st.2 13 (a * 4 + i / 64) ||| ((1 : Int64) <<< ((nI (i % 64)).toInt64 &&& 63)))) (p := fun s => decide (s = i)) (g := true) hV ha (fun s _ h => by rw [of_decide_eq_true h]; exact hm) rfl (fun d' hd => yl_r st 13 _ _ hd) e1 (fun h => by cases h) (fun _ => ⟨i, by omega, hb, by simp⟩)
    exact hK true _ this.1 (this.2.2 i (by omega) (by simp))
theorem yc_fload {m a b : Nat} (hok : yp_ok G) (hV : yc_V G st) (hL : yc_L G m st) (ha : a < 16) (hb : b < 16) (hc : ∀ s t, yp_M G b s → yp_I G s t → yp_M G a t)
    (hK : ∀ (g : Bool) (st' : zs_T), yc_st G st st' g → (g = false → ∀ s t, yc_M st b s → yc_I st s t → yc_M st a t) → K (yb g) st') : zf_AD_followLoad (nI a) (nI b) st K := by
  have hn := hok.n
  unfold zf_AD_followLoad
  refine pk_loop (W := fun n k (t : Bool × zs_T) => zf_AD_followLoad_5 K n (nI a) (nI b) (yb t.1) (nI k) t.2) (fun k t => yc_st G st t.2 t.1 ∧ (t.1 = false → ∀ j s t, j < k → st.1 15 j = nI s → s < yn G → yc_M st b s → yc_I st s t → yc_M st a t)) m 0 (false, st) (by omega) ⟨yc_st.refl hV, fun _ _ _ _ h => by omega⟩ ?_ ?_
  · rintro n ⟨g, t⟩ ⟨h1, h2⟩
    have hL' := hL.of h1.1
    have e : t.1 12 3 = nI m := hL'.1
    have hm := hL.2.1
    refine pk_le m m (fun _ => ⟨yb_bz _, hK g t h1 (fun e s x h3 h4 => ?_)⟩) (fun h => by omega) e
    have h5 := yp_M_s (hV.1 b s h3)
    obtain ⟨k, k1, k2⟩ := hL.2.2.2 s h5.1 h5.2
    exact h2 e k s x k1 k2 h5.1 h3 h4
  · rintro n k ⟨g, t⟩ hk ⟨h1, h2⟩ ih
    have hL' := hL.of h1.1
    have e : t.1 12 3 = nI m := hL'.1
    have hm := hL.2.1
    refine pk_le m k (fun h => by omega) (fun _ => ⟨vp_in_nI (by omega) (by omega), ?_⟩) e
    simp only [zf_AD_followLoad_56]
    obtain ⟨s, s1, s2, s3⟩ := hL.2.2.1 k hk
    have s1' : t.1 15 k = nI s := by rw [h1.1]; exact s1
    rw [nI_clamp (n := k) (by omega), s1', nI_1]
    refine yc_has (by omega) (by omega) (by omega) ?_
    cases hbit : yc_b t 13 b s with
    | false =>
      refine ⟨fun _ => ih (g, t) ⟨h1, fun e' j s' x hj j1 j2 h3 h4 => ?_⟩, fun h => absurd rfl h⟩
      by_cases ej : j = k
      · subst ej
        have : s' = s := (nI_eq (by omega) (by omega)).mp (j1.symm.trans s1)
        subst this
        have h5 : t = st := h1.2.2.2.2.1 e'
        rw [h5, h3.2.2] at hbit
        cases hbit
      · exact h2 e' j s' x (by omega) j1 j2 h3 h4
    | true =>
      refine ⟨(fun h => by cases h), fun _ => ⟨vp_in_nI (by omega) (by omega), ?_⟩⟩
      rw [s1']
      have hVt := h1.2.2.1
      refine yc_joinM hVt ha (by omega) (Or.inr ⟨rfl, rfl⟩) (fun x hx h3 => hc s x (hVt.1 b s ⟨hb, by omega, hbit⟩) (hVt.2 s x ⟨by omega, hx, h3⟩)) (fun g' t' h3 h4 => ?_)
      cases g' with
      | true =>
        refine ⟨(fun h => by cases h), fun _ => ih (true, t') ⟨?_, fun h => by cases h⟩⟩
        have := h1.trans h3
        rw [Bool.or_true] at this
        exact this
      | false =>
        refine ⟨fun _ => ih (g, t') ⟨?_, fun e' j s' x hj j1 j2 h5 h6 => ?_⟩, fun h => absurd rfl h⟩
        · have := h1.trans h3
          rw [Bool.or_false] at this
          exact this
        · by_cases ej : j = k
          · subst ej
            have : s' = s := (nI_eq (by omega) (by omega)).mp (j1.symm.trans s1)
            subst this
            have h7 : t = st := h1.2.2.2.2.1 e'
            have h8 := h4 rfl x h6.2.1
            rw [h7] at h8
            exact h8 h6.2.2
          · exact h2 e' j s' x (by omega) j1 j2 h5 h6
theorem yc_fstore {m a b : Nat} (hok : yp_ok G) (hV : yc_V G st) (hL : yc_L G m st) (ha : a < 16) (hb : b < 16) (hc : ∀ s t, yp_M G a s → yp_M G b t → yp_I G s t)
    (hK : ∀ (g : Bool) (st' : zs_T), yc_st G st st' g → (g = false → ∀ s t, yc_M st a s → yc_M st b t → yc_I st s t) → K (yb g) st') : zf_AD_followStore (nI a) (nI b) st K := by
  have hn := hok.n
  unfold zf_AD_followStore
  refine pk_loop (W := fun n k (t : Bool × zs_T) => zf_AD_followStore_5 K n (nI a) (nI b) (yb t.1) (nI k) t.2) (fun k t => yc_st G st t.2 t.1 ∧ (t.1 = false → ∀ j s t, j < k → st.1 15 j = nI s → s < yn G → yc_M st a s → yc_M st b t → yc_I st s t)) m 0 (false, st) (by omega) ⟨yc_st.refl hV, fun _ _ _ _ h => by omega⟩ ?_ ?_
  · rintro n ⟨g, t⟩ ⟨h1, h2⟩
    have hL' := hL.of h1.1
    have e : t.1 12 3 = nI m := hL'.1
    have hm := hL.2.1
    refine pk_le m m (fun _ => ⟨yb_bz _, hK g t h1 (fun e s x h3 h4 => ?_)⟩) (fun h => by omega) e
    have h5 := yp_M_s (hV.1 a s h3)
    obtain ⟨k, k1, k2⟩ := hL.2.2.2 s h5.1 h5.2
    exact h2 e k s x k1 k2 h5.1 h3 h4
  · rintro n k ⟨g, t⟩ hk ⟨h1, h2⟩ ih
    have hL' := hL.of h1.1
    have e : t.1 12 3 = nI m := hL'.1
    have hm := hL.2.1
    refine pk_le m k (fun h => by omega) (fun _ => ⟨vp_in_nI (by omega) (by omega), ?_⟩) e
    simp only [zf_AD_followStore_56]
    obtain ⟨s, s1, s2, s3⟩ := hL.2.2.1 k hk
    have s1' : t.1 15 k = nI s := by rw [h1.1]; exact s1
    rw [nI_clamp (n := k) (by omega), s1', nI_1]
    refine yc_has (by omega) (by omega) (by omega) ?_
    cases hbit : yc_b t 13 a s with
    | false =>
      refine ⟨fun _ => ih (g, t) ⟨h1, fun e' j s' x hj j1 j2 h3 h4 => ?_⟩, fun h => absurd rfl h⟩
      by_cases ej : j = k
      · subst ej
        have : s' = s := (nI_eq (by omega) (by omega)).mp (j1.symm.trans s1)
        subst this
        have h5 : t = st := h1.2.2.2.2.1 e'
        rw [h5, h3.2.2] at hbit
        cases hbit
      · exact h2 e' j s' x (by omega) j1 j2 h3 h4
    | true =>
      refine ⟨(fun h => by cases h), fun _ => ⟨vp_in_nI (by omega) (by omega), ?_⟩⟩
      rw [s1']
      have hVt := h1.2.2.1
      refine yc_joinI hVt (by omega) hb (fun x hx => hc s x (hVt.1 a s ⟨ha, by omega, hbit⟩) hx) (fun g' t' h3 h4 => ?_)
      cases g' with
      | true =>
        refine ⟨(fun h => by cases h), fun _ => ih (true, t') ⟨?_, fun h => by cases h⟩⟩
        have := h1.trans h3
        rw [Bool.or_true] at this
        exact this
      | false =>
        refine ⟨fun _ => ih (g, t') ⟨?_, fun e' j s' x hj j1 j2 h5 h6 => ?_⟩, fun h => absurd rfl h⟩
        · have := h1.trans h3
          rw [Bool.or_false] at this
          exact this
        · by_cases ej : j = k
          · subst ej
            have : s' = s := (nI_eq (by omega) (by omega)).mp (j1.symm.trans s1)
            subst this
            have h7 : t = st := h1.2.2.2.2.1 e'
            have h8 := h4 rfl x
            rw [h7] at h8
            exact h8 h6
          · exact h2 e' j s' x (by omega) j1 j2 h5 h6
theorem yc_follow {m d i : Nat} (hok : yp_ok G) (hC : yp_C d G st) (hV : yc_V G st) (hL : yc_L G m st) (hi : i < yn G)
    (hK : ∀ (g : Bool) (st' : zs_T), yc_st G st st' g → (g = false → yp_cl G i (yc_M st) (yc_I st)) → K (yb g) st') : zf_AD_follow d (nI i) st K := by
  have hn := hok.n
  have hk := hok.k hi
  obtain ⟨c1, c2, c3, c4⟩ := hC.2 i hi
  have hMI := yp_MI G i hi
  unfold zf_AD_follow
  rw [nI_clamp (n := i) (by omega), c1, c2, c3]
  refine ⟨vp_in_nI (by omega) (by omega), vp_in_nI (by omega) (by omega), vp_in_nI (by omega) (by omega), ?_⟩
  have hno : yk G i ≠ 1 → yk G i ≠ 7 → yk G i ≠ 8 → yk G i ≠ 9 → yk G i ≠ 10 → K 0 st := fun h1 h7 h8 h9 h10 => hK false st (yc_st.refl hV) (fun _ => ⟨fun h => absurd h h8, fun h => by omega, fun h => absurd h h9, fun h => absurd h h10⟩)
  have hmv : yk G i = 1 ∨ yk G i = 7 → zf_AD_follow_83 d K (nI (ya G i)) (yx G i) st := by
    intro h
    have ha := hok.a hi (by omega)
    have he := hok.e hi (by omega)
    unfold zf_AD_follow_83
    rw [hok.x hi (by omega)]
    refine yc_joinM hV ha (by omega) (Or.inl ⟨rfl, rfl⟩) (fun s hs h2 => hMI.2.1 h s (hV.1 _ s ⟨he, hs, h2⟩)) (fun g st' h1 h2 => ⟨yb_bz _, hK g st' h1 (fun e => ⟨fun h => by omega, fun _ s h3 => h2 e s h3.2.1 h3.2.2, fun h => by omega, fun h => by omega⟩)⟩)
  refine pk_eq (yk G i) 1 (fun h => hmv (by omega)) (fun h1 => ?_)
  refine pk_eq (yk G i) 2 (fun h => hno (by omega) (by omega) (by omega) (by omega) (by omega)) (fun h2 => ?_)
  refine pk_eq (yk G i) 3 (fun h => hno (by omega) (by omega) (by omega) (by omega) (by omega)) (fun h3 => ?_)
  refine pk_eq (yk G i) 4 (fun h => hno (by omega) (by omega) (by omega) (by omega) (by omega)) (fun h4 => ?_)
  refine pk_eq (yk G i) 5 (fun h => hno (by omega) (by omega) (by omega) (by omega) (by omega)) (fun h5 => ?_)
  refine pk_eq (yk G i) 6 (fun h => hno (by omega) (by omega) (by omega) (by omega) (by omega)) (fun h6 => ?_)
  refine pk_eq (yk G i) 7 (fun h => hmv (by omega)) (fun h7 => ?_)
  refine pk_eq (yk G i) 8 (fun h => ?_) (fun h8 => ?_)
  · refine yc_enter hV (hok.a hi (by omega)) (by omega) (hMI.1 h) (fun g st' k1 k2 => ⟨yb_bz _, hK g st' k1 (fun e => ⟨fun _ => ?_, fun h => by omega, fun h => by omega, fun h => by omega⟩)⟩)
    rw [k1.2.2.2.2.1 e] at k2
    exact k2
  refine pk_eq (yk G i) 9 (fun h => ?_) (fun h9 => ?_)
  · rw [hok.x hi (by omega)]
    exact yc_fload hok hV hL (hok.a hi (by omega)) (hok.e hi (by omega)) (hMI.2.2.1 h) (fun g st' k1 k2 => ⟨yb_bz _, hK g st' k1 (fun e => ⟨fun h => by omega, fun h => by omega, fun _ => k2 e, fun h => by omega⟩)⟩)
  refine pk_eq (yk G i) 10 (fun h => ?_) (fun h10 => ?_)
  · rw [hok.x hi (by omega)]
    exact yc_fstore hok hV hL (hok.a hi (by omega)) (hok.e hi (by omega)) (hMI.2.2.2 h) (fun g st' k1 k2 => ⟨yb_bz _, hK g st' k1 (fun e => ⟨fun h => by omega, fun h => by omega, fun h => by omega, fun _ => k2 e⟩)⟩)
  exact hno h1 h7 h8 h9 h10
end YB
