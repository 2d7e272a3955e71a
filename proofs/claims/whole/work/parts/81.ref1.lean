/-! what addresses may be, in the reference: one instruction, the whole search -/
def ym_P (b : Nat) (G : yp_G) (t : zs_T) : Prop := yp_D b G t ∧ t.1 635 9 = nI b ∧ b ≤ 200
theorem ym_P.of {b : Nat} {G : yp_G} {s t : zs_T} (h : ym_P b G s) (e : ∀ x, 635 ≤ x → x ≤ 639 → t.1 x = s.1 x) : ym_P b G t := by
  unfold ym_P yp_D
  rw [e 635 (by omega) (by omega), e 636 (by omega) (by omega), e 637 (by omega) (by omega), e 638 (by omega) (by omega), e 639 (by omega) (by omega)]
  exact h
def ym_M (G : yp_G) (t : zs_T) (r s : Nat) : Prop := r < 16 ∧ s < yn G ∧ ¬ t.1 641 (200 * r + s) = 0
def ym_I (G : yp_G) (t : zs_T) (s u : Nat) : Prop := s < yn G ∧ u < yn G ∧ ¬ t.1 642 (200 * s + u) = 0
def ym_V (G : yp_G) (t : zs_T) : Prop := (∀ r s, ym_M G t r s → yp_M G r s) ∧ ∀ s u, ym_I G t s u → yp_I G s u
def ym_U (G : yp_G) (a b : zs_T) : Prop := (∀ r s, ym_M G a r s → ym_M G b r s) ∧ ∀ s u, ym_I G a s u → ym_I G b s u
def ym_Z (G : yp_G) (a b : zs_T) : Prop := (∃ r s, ¬ ym_M G a r s ∧ ym_M G b r s) ∨ ∃ s u, ¬ ym_I G a s u ∧ ym_I G b s u
def ym_st (G : yp_G) (a b : zs_T) (g : Bool) : Prop := b.2 = a.2 ∧ (∀ x, x ≠ 641 → x ≠ 642 → b.1 x = a.1 x) ∧ ym_V G b ∧ ym_U G a b ∧ (g = false → ym_U G b a) ∧ (g = true → ym_Z G a b)
theorem ym_st.refl {G : yp_G} {a : zs_T} (h : ym_V G a) : ym_st G a a false := ⟨rfl, fun _ _ _ => rfl, h, ⟨fun _ _ h => h, fun _ _ h => h⟩, fun _ => ⟨fun _ _ h => h, fun _ _ h => h⟩, fun h => by cases h⟩
theorem ym_st.trans {G : yp_G} {a b c : zs_T} {g g' : Bool} (h : ym_st G a b g) (h' : ym_st G b c g') : ym_st G a c (g || g') := by
  obtain ⟨h1, h2, h3, h4, h5, h6⟩ := h
  obtain ⟨k1, k2, k3, k4, k5, k6⟩ := h'
  refine ⟨k1.trans h1, fun d hd hd' => (k2 d hd hd').trans (h2 d hd hd'), k3, ⟨fun r s h => k4.1 r s (h4.1 r s h), fun r s h => k4.2 r s (h4.2 r s h)⟩, fun e => ?_, fun e => ?_⟩
  · rw [Bool.or_eq_false_iff] at e
    exact ⟨fun r s h => (h5 e.1).1 r s ((k5 e.2).1 r s h), fun r s h => (h5 e.1).2 r s ((k5 e.2).2 r s h)⟩
  · rw [Bool.or_eq_true] at e
    rcases e with e | e
    · rcases h6 e with ⟨r, s, e1, e2⟩ | ⟨r, s, e1, e2⟩
      · exact Or.inl ⟨r, s, e1, k4.1 r s e2⟩
      · exact Or.inr ⟨r, s, e1, k4.2 r s e2⟩
    · rcases k6 e with ⟨r, s, e1, e2⟩ | ⟨r, s, e1, e2⟩
      · exact Or.inl ⟨r, s, fun q => e1 (h4.1 r s q), e2⟩
      · exact Or.inr ⟨r, s, fun q => e1 (h4.2 r s q), e2⟩
section YM
variable {G : yp_G} {b : Nat} {st : zs_T}
theorem ym_addM {a : Nat} {p : Nat → Prop} {t : zs_T} {g : Bool} (hok : yp_ok G) (hV : ym_V G st) (ha : a < 16) (hs : ∀ s, s < yn G → p s → yp_M G a s) (h2 : t.2 = st.2) (h1 : ∀ x, x ≠ 641 → t.1 x = st.1 x) (ho : ∀ j, j < 200 * a ∨ 200 * a + yn G ≤ j → t.1 641 j = st.1 641 j) (hi : ∀ s, s < yn G → (¬ t.1 641 (200 * a + s) = 0 ↔ ¬ st.1 641 (200 * a + s) = 0 ∨ p s)) (hg : g = true ↔ ∃ s, s < yn G ∧ p s ∧ st.1 641 (200 * a + s) = 0) : ym_st G st t g ∧ (g = false → ∀ s, s < yn G → p s → ym_M G st a s) := by
  have hn := hok.n
  have e2 : ∀ s u, ym_I G t s u ↔ ym_I G st s u := fun s u => by unfold ym_I; rw [h1 642 (by omega)]
  have hb : ∀ r s, r < 16 → s < yn G → (¬ t.1 641 (200 * r + s) = 0 ↔ ¬ st.1 641 (200 * r + s) = 0 ∨ (r = a ∧ p s)) := by
    intro r s hr hs'
    by_cases c : r = a
    · subst c
      rw [hi s hs']
      exact ⟨fun h => h.imp id (fun h => ⟨rfl, h⟩), fun h => h.imp id (fun h => h.2)⟩
    · rw [ho _ (by omega)]
      exact ⟨Or.inl, fun h => h.elim id (fun h => absurd h.1 c)⟩
  have hold : g = false → ∀ s, s < yn G → p s → ¬ st.1 641 (200 * a + s) = 0 := by
    intro e s hs' hp hz
    have := hg.mpr ⟨s, hs', hp, hz⟩
    rw [e] at this; cases this
  refine ⟨⟨h2, fun x hx _ => h1 x hx, ⟨fun r s h => ?_, fun s u h => hV.2 s u ((e2 s u).mp h)⟩, ⟨fun r s h => ⟨h.1, h.2.1, (hb r s h.1 h.2.1).mpr (Or.inl h.2.2)⟩, fun s u h => (e2 s u).mpr h⟩, fun e => ⟨fun r s h => ⟨h.1, h.2.1, ?_⟩, fun s u h => (e2 s u).mp h⟩, fun e => ?_⟩, fun e s hs' hp => ⟨ha, hs', hold e s hs' hp⟩⟩
  · rcases (hb r s h.1 h.2.1).mp h.2.2 with h3 | ⟨h3, h4⟩
    · exact hV.1 r s ⟨h.1, h.2.1, h3⟩
    · rw [h3]; exact hs s h.2.1 h4
  · rcases (hb r s h.1 h.2.1).mp h.2.2 with h3 | ⟨h3, h4⟩
    · exact h3
    · rw [h3]; exact hold e s h.2.1 h4
  · obtain ⟨s, s1, s2, s3⟩ := hg.mp e
    exact Or.inl ⟨a, s, (fun q => q.2.2 s3), ⟨ha, s1, (hi s s1).mpr (Or.inr s2)⟩⟩
theorem ym_addI {a : Nat} {p : Nat → Prop} {t : zs_T} {g : Bool} (hok : yp_ok G) (hV : ym_V G st) (ha : a < yn G) (hs : ∀ s, s < yn G → p s → yp_I G a s) (h2 : t.2 = st.2) (h1 : ∀ x, x ≠ 642 → t.1 x = st.1 x) (ho : ∀ j, j < 200 * a ∨ 200 * a + yn G ≤ j → t.1 642 j = st.1 642 j) (hi : ∀ s, s < yn G → (¬ t.1 642 (200 * a + s) = 0 ↔ ¬ st.1 642 (200 * a + s) = 0 ∨ p s)) (hg : g = true ↔ ∃ s, s < yn G ∧ p s ∧ st.1 642 (200 * a + s) = 0) : ym_st G st t g ∧ (g = false → ∀ s, s < yn G → p s → ym_I G st a s) := by
  have hn := hok.n
  have e2 : ∀ s u, ym_M G t s u ↔ ym_M G st s u := fun s u => by unfold ym_M; rw [h1 641 (by omega)]
  have hb : ∀ r s, r < yn G → s < yn G → (¬ t.1 642 (200 * r + s) = 0 ↔ ¬ st.1 642 (200 * r + s) = 0 ∨ (r = a ∧ p s)) := by
    intro r s hr hs'
    by_cases c : r = a
    · subst c
      rw [hi s hs']
      exact ⟨fun h => h.imp id (fun h => ⟨rfl, h⟩), fun h => h.imp id (fun h => h.2)⟩
    · rw [ho _ (by omega)]
      exact ⟨Or.inl, fun h => h.elim id (fun h => absurd h.1 c)⟩
  have hold : g = false → ∀ s, s < yn G → p s → ¬ st.1 642 (200 * a + s) = 0 := by
    intro e s hs' hp hz
    have := hg.mpr ⟨s, hs', hp, hz⟩
    rw [e] at this; cases this
  refine ⟨⟨h2, fun x _ hx => h1 x hx, ⟨fun s u h => hV.1 s u ((e2 s u).mp h), fun r s h => ?_⟩, ⟨fun s u h => (e2 s u).mpr h, fun r s h => ⟨h.1, h.2.1, (hb r s h.1 h.2.1).mpr (Or.inl h.2.2)⟩⟩, fun e => ⟨fun s u h => (e2 s u).mp h, fun r s h => ⟨h.1, h.2.1, ?_⟩⟩, fun e => ?_⟩, fun e s hs' hp => ⟨ha, hs', hold e s hs' hp⟩⟩
  · rcases (hb r s h.1 h.2.1).mp h.2.2 with h3 | ⟨h3, h4⟩
    · exact hV.2 r s ⟨h.1, h.2.1, h3⟩
    · rw [h3]; exact hs s h.2.1 h4
  · rcases (hb r s h.1 h.2.1).mp h.2.2 with h3 | ⟨h3, h4⟩
    · exact h3
    · rw [h3]; exact hold e s h.2.1 h4
  · obtain ⟨s, s1, s2, s3⟩ := hg.mp e
    exact Or.inr ⟨a, s, (fun q => q.2.2 s3), ⟨ha, s1, (hi s s1).mpr (Or.inr s2)⟩⟩
/-- the loop over sites, of an instruction that neither loads nor stores -/
theorem ym_177n {K : zs_T → Prop} {B45 : Int32 → zs_T → Prop} {B53 : Int32 → Int32 → zs_T → Prop} {l l2 l4 l5 : Int32} {k : Nat} (hok : yp_ok G) (hsz : st.1 635 5 = nI (yn G)) (hk : k ≤ 15) (h9 : k ≠ 9) (h10 : k ≠ 10) (hB : B53 l (l2 + 1) st) : zf_MO_findSets_177 K B45 B53 l l2 (nI k) l4 l5 st := by
  have hn := hok.n
  unfold zf_MO_findSets_177
  refine pk_loop (W := fun m s (_ : Unit) => zf_MO_findSets_180 K B45 B53 m l l2 (nI k) l4 l5 (nI s) st) (fun _ _ => True) (yn G) 0 () (by omega) trivial ?_ ?_
  · intro m _ _
    exact pk_le (yn G) (yn G) (fun _ => hB) (fun h => by omega) hsz
  · intro m s _ hs _ ih
    refine pk_le (yn G) s (fun h => by omega) (fun _ => ?_) hsz
    simp only [zf_MO_findSets_233, zf_MO_findSets_277]
    refine And.intro (fun _ => And.intro (fun _ => ?_) (fun c => absurd ((nI_eq (a := k) (b := 10) (by omega) (by omega)).mp c) h10)) (fun c => absurd ((nI_eq (a := k) (b := 9) (by omega) (by omega)).mp c) h9)
    rw [nI_1]; exact ih () trivial
theorem ym_177l {K : zs_T → Prop} {B45 : Int32 → zs_T → Prop} {B53 : Int32 → Int32 → zs_T → Prop} {l2 : Int32} {x y : Nat} {g0 : Bool} (hok : yp_ok G) (hsz : st.1 635 5 = nI (yn G)) (hV : ym_V G st) (hx : x < 16) (hy : y < 16) (hc : ∀ s u, yp_M G y s → yp_I G s u → yp_M G x u)
    (hB : ∀ (g : Bool) (t : zs_T), ym_st G st t g → (g = false → ∀ s u, ym_M G st y s → ym_I G st s u → ym_M G st x u) → B53 (yb (g0 || g)) (l2 + 1) t) : zf_MO_findSets_177 K B45 B53 (yb g0) l2 (nI 9) (nI x) (nI y) st := by
  have hn := hok.n
  unfold zf_MO_findSets_177
  rw [show yb g0 = yb (g0 || false) by rw [Bool.or_false]]
  refine pk_loop (W := fun m s (t : Bool × zs_T) => zf_MO_findSets_180 K B45 B53 m (yb (g0 || t.1)) l2 (nI 9) (nI x) (nI y) (nI s) t.2) (fun k t => ym_st G st t.2 t.1 ∧ (t.1 = false → ∀ s u, s < k → ym_M G st y s → ym_I G st s u → ym_M G st x u)) (yn G) 0 (false, st) (by omega) ⟨ym_st.refl hV, fun _ s u h => by omega⟩ ?_ ?_
  · rintro m ⟨g, t⟩ ⟨h1, h2⟩
    exact pk_le (yn G) (yn G) (fun _ => hB g t h1 (fun e s u h3 h4 => h2 e s u h3.2.1 h3 h4)) (fun h => by omega) ((congrFun (h1.2.1 635 (by omega) (by omega)) 5).trans hsz)
  · rintro m k ⟨g, t⟩ hk ⟨h1, h2⟩ ih
    have hszt : t.1 635 5 = nI (yn G) := (congrFun (h1.2.1 635 (by omega) (by omega)) 5).trans hsz
    refine pk_le (yn G) k (fun h => by omega) (fun _ => ?_) hszt
    have h233 : ∀ (g' : Bool) (t' : zs_T), ym_st G st t' g' → (g' = false → ∀ s u, s < k + 1 → ym_M G st y s → ym_I G st s u → ym_M G st x u) → zf_MO_findSets_233 K B45 B53 (zf_MO_findSets_180 K B45 B53 m) (yb (g0 || g')) l2 (nI 9) (nI x) (nI y) (nI k) t' := by
      intro g' t' q1 q2
      simp only [zf_MO_findSets_233, zf_MO_findSets_277]
      refine And.intro (fun _ => ?_) (fun c => absurd ((nI_eq (a := 9) (b := 10) (by omega) (by omega)).mp c) (by omega))
      rw [nI_1]; exact ih (g', t') ⟨q1, q2⟩
    refine And.intro (fun c => absurd rfl c) (fun _ => ?_)
    rw [yi_200, nI_clamp (n := 200 * y + k) (by omega)]
    refine ⟨vp_in_nI (by omega) (by omega), br_c (fun c => h233 g t h1 (fun e s u hs h3 h4 => ?_)) (fun c => ?_)⟩
    · by_cases es : s = k
      · subst es
        have := (h1.2.2.2.1).1 y s h3
        exact absurd c this.2.2
      · exact h2 e s u (by omega) h3 h4
    · have hVt := h1.2.2.1
      refine ym_moreFromCells hok.n hszt (by omega) (by omega) (fun g1 t1 a1 a2 a3 a4 a5 => ?_)
      obtain ⟨q1, q2⟩ := ym_addM (p := fun s => ¬ t.1 642 (200 * k + s) = 0) hok hVt hx (fun s hs hp => hc k s (hVt.1 y k ⟨hy, hk, c⟩) (hVt.2 k s ⟨hk, hs, hp⟩)) a1 a2 a3 a4 a5
      have q3 := h1.trans q1
      simp only [zf_MO_findSets_227, zf_MO_findSets_232]
      have h5 := h233 (g || g1) t1 q3 (fun e s u hs h3 h4 => ?_)
      · cases g1 with
        | true => rw [Bool.or_true, Bool.or_true] at h5; exact ⟨fun _ => h5, fun h => by cases h⟩
        | false =>
          rw [Bool.or_false] at h5
          refine ⟨fun h => absurd rfl h, fun _ => ?_⟩
          show (yb (g0 || g) = 0 → _) ∧ _
          cases hg : (g0 || g) with
          | true => rw [hg] at h5; exact ⟨(fun h => by cases h), fun _ => h5⟩
          | false => rw [hg] at h5; exact ⟨fun _ => h5, fun h => absurd rfl h⟩
      · rw [Bool.or_eq_false_iff] at e
        by_cases es : s = k
        · subst es
          have h6 := h1.2.2.2.1.2 s u h4
          exact (h1.2.2.2.2.1 e.1).1 x u (q2 e.2 u h6.2.1 h6.2.2)
        · exact h2 e.1 s u (by omega) h3 h4
theorem ym_177s {K : zs_T → Prop} {B45 : Int32 → zs_T → Prop} {B53 : Int32 → Int32 → zs_T → Prop} {l2 : Int32} {x y : Nat} {g0 : Bool} (hok : yp_ok G) (hsz : st.1 635 5 = nI (yn G)) (hV : ym_V G st) (hx : x < 16) (hy : y < 16) (hc : ∀ s u, yp_M G x s → yp_M G y u → yp_I G s u)
    (hB : ∀ (g : Bool) (t : zs_T), ym_st G st t g → (g = false → ∀ s u, ym_M G st x s → ym_M G st y u → ym_I G st s u) → B53 (yb (g0 || g)) (l2 + 1) t) : zf_MO_findSets_177 K B45 B53 (yb g0) l2 (nI 10) (nI x) (nI y) st := by
  have hn := hok.n
  unfold zf_MO_findSets_177
  rw [show yb g0 = yb (g0 || false) by rw [Bool.or_false]]
  refine pk_loop (W := fun m s (t : Bool × zs_T) => zf_MO_findSets_180 K B45 B53 m (yb (g0 || t.1)) l2 (nI 10) (nI x) (nI y) (nI s) t.2) (fun k t => ym_st G st t.2 t.1 ∧ (t.1 = false → ∀ s u, s < k → ym_M G st x s → ym_M G st y u → ym_I G st s u)) (yn G) 0 (false, st) (by omega) ⟨ym_st.refl hV, fun _ s u h => by omega⟩ ?_ ?_
  · rintro m ⟨g, t⟩ ⟨h1, h2⟩
    exact pk_le (yn G) (yn G) (fun _ => hB g t h1 (fun e s u h3 h4 => h2 e s u h3.2.1 h3 h4)) (fun h => by omega) ((congrFun (h1.2.1 635 (by omega) (by omega)) 5).trans hsz)
  · rintro m k ⟨g, t⟩ hk ⟨h1, h2⟩ ih
    have hszt : t.1 635 5 = nI (yn G) := (congrFun (h1.2.1 635 (by omega) (by omega)) 5).trans hsz
    refine pk_le (yn G) k (fun h => by omega) (fun _ => ?_) hszt
    have h277 : ∀ (g' : Bool) (t' : zs_T), ym_st G st t' g' → (g' = false → ∀ s u, s < k + 1 → ym_M G st x s → ym_M G st y u → ym_I G st s u) → zf_MO_findSets_180 K B45 B53 m (yb (g0 || g')) l2 (nI 10) (nI x) (nI y) (nI k + 1) t' := by
      intro g' t' q1 q2
      rw [nI_1]; exact ih (g', t') ⟨q1, q2⟩
    refine And.intro (fun _ => ?_) (fun c => absurd ((nI_eq (a := 10) (b := 9) (by omega) (by omega)).mp c) (by omega))
    unfold zf_MO_findSets_233
    refine And.intro (fun c => absurd rfl c) (fun _ => ?_)
    rw [yi_200, nI_clamp (n := 200 * x + k) (by omega)]
    simp only [zf_MO_findSets_277]
    refine ⟨vp_in_nI (by omega) (by omega), br_c (fun c => h277 g t h1 (fun e s u hs h3 h4 => ?_)) (fun c => ?_)⟩
    · by_cases es : s = k
      · subst es
        have := (h1.2.2.2.1).1 x s h3
        exact absurd c this.2.2
      · exact h2 e s u (by omega) h3 h4
    · have hVt := h1.2.2.1
      refine ym_moreToCells hok.n hszt (by omega) (by omega) (fun g1 t1 a1 a2 a3 a4 a5 => ?_)
      obtain ⟨q1, q2⟩ := ym_addI (p := fun s => ¬ t.1 641 (200 * y + s) = 0) hok hVt hk (fun s hs hp => hc k s (hVt.1 x k ⟨hx, hk, c⟩) (hVt.1 y s ⟨hy, hs, hp⟩)) a1 a2 a3 a4 a5
      have q3 := h1.trans q1
      simp only [zf_MO_findSets_271, zf_MO_findSets_276, zf_MO_findSets_277]
      have h5 := h277 (g || g1) t1 q3 (fun e s u hs h3 h4 => ?_)
      · cases g1 with
        | true => rw [Bool.or_true, Bool.or_true] at h5; exact ⟨fun _ => h5, fun h => by cases h⟩
        | false =>
          rw [Bool.or_false] at h5
          refine ⟨fun h => absurd rfl h, fun _ => ?_⟩
          show (yb (g0 || g) = 0 → _) ∧ _
          cases hg : (g0 || g) with
          | true => rw [hg] at h5; exact ⟨(fun h => by cases h), fun _ => h5⟩
          | false => rw [hg] at h5; exact ⟨fun _ => h5, fun h => absurd rfl h⟩
      · rw [Bool.or_eq_false_iff] at e
        by_cases es : s = k
        · subst es
          have h6 := h1.2.2.2.1.1 y u h4
          exact (h1.2.2.2.2.1 e.1).2 s u (q2 e.2 u h6.2.1 h6.2.2)
        · exact h2 e.1 s u (by omega) h3 h4
end YM
