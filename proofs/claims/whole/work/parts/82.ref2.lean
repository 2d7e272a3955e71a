/-! what addresses may be, in the reference: one instruction, the whole search; who meets -/
section YN
variable {G : yp_G} {b : Nat} {st : zs_T}
theorem yb_or2 {g0 g1 : Bool} {A : Int32 → Prop} (h : A (yb (g0 || g1))) : (¬ yb g1 = 0 → A 1) ∧ (yb g1 = 0 → ((yb g0 = 0 → A 0) ∧ (¬ yb g0 = 0 → A 1))) := by
  cases g1 with
  | true => rw [Bool.or_true] at h; exact ⟨fun _ => h, fun h => by cases h⟩
  | false =>
    refine ⟨fun h => absurd rfl h, fun _ => ?_⟩
    cases g0 with
    | true => exact ⟨(fun h => by cases h), fun _ => h⟩
    | false => exact ⟨fun _ => h, fun h => absurd rfl h⟩
theorem ym_145 {K : zs_T → Prop} {B45 : Int32 → zs_T → Prop} {B53 : Int32 → Int32 → zs_T → Prop} {i : Nat} {g0 : Bool} (hok : yp_ok G) (hP : ym_P b G st) (hV : ym_V G st) (hi : i < yn G) (h8 : yk G i ≠ 8) (hB : ∀ (g : Bool) (t : zs_T), ym_st G st t g → (g = false → yp_cl G i (ym_M G st) (ym_I G st)) → B53 (yb (g0 || g)) (nI (i + 1)) t) : zf_MO_findSets_145 K B45 B53 (yb g0) (nI i) (nI (yk G i)) (nI (ya G i)) (yx G i) st := by
  have hn := hok.n
  have hk := hok.k hi
  have hMI := yp_MI G i hi
  have hsz := hP.1.1
  have hmv : yk G i = 1 ∨ yk G i = 7 → zf_MO_findSets_156 K B45 B53 (yb g0) (nI i) (nI (yk G i)) (nI (ya G i)) (yx G i) st := by
    intro h
    have ha := hok.a hi (by omega)
    have he := hok.e hi (by omega)
    unfold zf_MO_findSets_156
    rw [hok.x hi (by omega)]
    refine ym_moreMay hok.n hsz (by omega) (by omega) (fun g1 t1 a1 a2 a3 a4 a5 => ?_)
    obtain ⟨q1, q2⟩ := ym_addM (p := fun s => ¬ st.1 641 (200 * ye G i + s) = 0) hok hV ha (fun s hs hp => hMI.2.1 h s (hV.1 _ s ⟨he, hs, hp⟩)) a1 a2 a3 a4 a5
    have hsz1 : t1.1 635 5 = nI (yn G) := (congrFun (a2 635 (by omega)) 5).trans hsz
    have h5 : zf_MO_findSets_177 K B45 B53 (yb (g0 || g1)) (nI i) (nI (yk G i)) (nI (ya G i)) (nI (ye G i)) t1 := by
      refine ym_177n hok hsz1 hk (by omega) (by omega) ?_
      rw [nI_1]
      exact hB g1 t1 q1 (fun e => ⟨fun h => by omega, fun _ s h3 => q2 e s h3.2.1 h3.2.2, fun h => by omega, fun h => by omega⟩)
    simp only [zf_MO_findSets_171, zf_MO_findSets_176]
    exact yb_or2 (A := fun v => zf_MO_findSets_177 K B45 B53 v (nI i) (nI (yk G i)) (nI (ya G i)) (nI (ye G i)) t1) h5
  unfold zf_MO_findSets_145
  refine pk_eq (yk G i) 1 (fun h => hmv (Or.inl h)) (fun h1 => And.intro (fun c => ?_) (fun c => hmv (Or.inr ((nI_eq (a := yk G i) (b := 7) (by omega) (by omega)).mp c))))
  have h7 : yk G i ≠ 7 := fun e => c (by rw [e]; rfl)
  by_cases h9 : yk G i = 9
  · rw [h9, hok.x hi (by omega)]
    refine ym_177l hok hsz hV (hok.a hi (by omega)) (hok.e hi (by omega)) (hMI.2.2.1 h9) (fun g t q1 q2 => ?_)
    rw [nI_1]
    exact hB g t q1 (fun e => ⟨fun h => by omega, fun h => by omega, fun _ => q2 e, fun h => by omega⟩)
  · by_cases h10 : yk G i = 10
    · rw [h10, hok.x hi (by omega)]
      refine ym_177s hok hsz hV (hok.a hi (by omega)) (hok.e hi (by omega)) (hMI.2.2.2 h10) (fun g t q1 q2 => ?_)
      rw [nI_1]
      exact hB g t q1 (fun e => ⟨fun h => by omega, fun h => by omega, fun h => by omega, fun _ => q2 e⟩)
    · refine ym_177n hok hsz hk h9 h10 ?_
      rw [nI_1]
      have := hB false st (ym_st.refl hV) (fun _ => ⟨fun h => absurd h h8, fun h => by omega, fun h => absurd h h9, fun h => absurd h h10⟩)
      rw [Bool.or_false] at this
      exact this
theorem ym_ins {K : zs_T → Prop} {B45 : Int32 → zs_T → Prop} {B53 : Int32 → Int32 → zs_T → Prop} {i : Nat} {g0 : Bool} (hok : yp_ok G) (hP : ym_P b G st) (hV : ym_V G st) (hi : i < yn G) (hB : ∀ (g : Bool) (t : zs_T), ym_st G st t g → (g = false → yp_cl G i (ym_M G st) (ym_I G st)) → B53 (yb (g0 || g)) (nI (i + 1)) t) : zf_MO_findSets_53_s K B45 B53 (yb g0) (nI i) st := by
  have hn := hok.n
  have hk := hok.k hi
  have hb := hP.2.2
  obtain ⟨c1, c2, c3, c4⟩ := hP.1.2 i hi
  unfold zf_MO_findSets_53_s
  refine pk_le (yn G) i (fun h => by omega) (fun _ => ?_) hP.1.1
  rw [hP.2.1, nI_add, nI_clamp (n := b + i) (by omega), c1, c2, c3]
  have iv : vp_in (nI (b + i)) 400 := vp_in_nI (by omega) (by omega)
  refine ⟨iv, iv, iv, And.intro (fun c => ym_145 hok hP hV hi (fun e => c (by rw [e]; rfl)) hB) (fun c => ?_)⟩
  have h8 : yk G i = 8 := (nI_eq (by omega) (by omega)).mp c
  have ha := hok.a hi (by omega)
  rw [yi_200, nI_clamp (n := 200 * ya G i + i) (by omega)]
  have ix : vp_in (nI (200 * ya G i + i)) 3200 := vp_in_nI (by omega) (by omega)
  have h130 : ∀ g : Bool, (g = true ↔ st.1 641 (200 * ya G i + i) = 0) → zf_MO_findSets_130 K B45 B53 (nI i) (nI (yk G i)) (nI (ya G i)) (yx G i) (yb (g0 || g)) st := by
    intro g hg
    unfold zf_MO_findSets_130
    rw [yi_200, nI_clamp (n := 200 * ya G i + i) (by omega), yb_n1]
    refine ⟨ix, nm_e ?_⟩
    obtain ⟨q1, q2⟩ := ym_addM (p := fun s => s = i) (t := zs_i st 641 (200 * ya G i + i) 1) (g := g) hok hV ha (fun s _ e => by rw [e]; exact yp_MI G i hi |>.1 h8) rfl (fun x hx => yi_r _ _ _ _ hx) (fun j hj => yi_n _ _ _ (by omega)) (fun s hs => by
      by_cases e : s = i
      · rw [e, yi_s]; exact ⟨fun _ => Or.inr rfl, fun _ => by decide⟩
      · rw [yi_n _ _ _ (by omega)]; exact ⟨Or.inl, fun h => h.elim id (fun h => absurd h e)⟩) (hg.trans ⟨fun h => ⟨i, hi, rfl, h⟩, fun ⟨s, _, e, h⟩ => by rw [e] at h; exact h⟩)
    unfold zf_MO_findSets_145
    refine pk_eq (yk G i) 1 (fun h => by omega) (fun _ => And.intro (fun _ => ?_) (fun c => absurd ((nI_eq (a := yk G i) (b := 7) (by omega) (by omega)).mp c) (by omega)))
    refine ym_177n hok ((congrFun (q1.2.1 635 (by omega) (by omega)) 5).trans hP.1.1) hk (by omega) (by omega) ?_
    rw [nI_1]
    exact hB g _ q1 (fun e => ⟨fun _ => q2 e i hi rfl, fun h => by omega, fun h => by omega, fun h => by omega⟩)
  simp only [zf_MO_findSets_125]
  by_cases hz : st.1 641 (200 * ya G i + i) = 0
  · have h1 := h130 true ⟨fun _ => hz, fun _ => rfl⟩
    rw [Bool.or_true] at h1
    exact ⟨fun _ => h1, fun _ => ⟨ix, ⟨fun c => absurd hz c, fun _ => h1⟩⟩⟩
  · have h1 := h130 false ⟨(fun h => by cases h), fun h => absurd h hz⟩
    rw [Bool.or_false] at h1
    cases g0 with
    | true => exact ⟨fun _ => h1, fun h => by cases h⟩
    | false => exact ⟨fun h => absurd rfl h, fun _ => ⟨ix, ⟨fun _ => h1, fun c => absurd c hz⟩⟩⟩
noncomputable def ym_c (G : yp_G) (t : zs_T) : Nat := yp_c (fun q => ¬ ym_M G t (q / 200) (q % 200)) 3200 + yp_c (fun q => ¬ ym_I G t (q / 200) (q % 200)) 40000
theorem ym_c_le {a b : zs_T} (hU : ym_U G a b) : ym_c G b ≤ ym_c G a := by
  have h1 : yp_c (fun q => ¬ ym_M G b (q / 200) (q % 200)) 3200 ≤ yp_c (fun q => ¬ ym_M G a (q / 200) (q % 200)) 3200 := yp_c_mono (fun q _ h h' => h (hU.1 _ _ h'))
  have h2 : yp_c (fun q => ¬ ym_I G b (q / 200) (q % 200)) 40000 ≤ yp_c (fun q => ¬ ym_I G a (q / 200) (q % 200)) 40000 := yp_c_mono (fun q _ h h' => h (hU.2 _ _ h'))
  unfold ym_c
  omega
theorem ym_c_lt {a b : zs_T} (hok : yp_ok G) (hU : ym_U G a b) (hZ : ym_Z G a b) : ym_c G b < ym_c G a := by
  have hn := hok.n
  have h1 : yp_c (fun q => ¬ ym_M G b (q / 200) (q % 200)) 3200 ≤ yp_c (fun q => ¬ ym_M G a (q / 200) (q % 200)) 3200 := yp_c_mono (fun q _ h h' => h (hU.1 _ _ h'))
  have h2 : yp_c (fun q => ¬ ym_I G b (q / 200) (q % 200)) 40000 ≤ yp_c (fun q => ¬ ym_I G a (q / 200) (q % 200)) 40000 := yp_c_mono (fun q _ h h' => h (hU.2 _ _ h'))
  unfold ym_c
  rcases hZ with ⟨r, s, e1, e2⟩ | ⟨r, s, e1, e2⟩
  · have hr := e2.1
    have hs := e2.2.1
    have h3 : yp_c (fun q => ¬ ym_M G b (q / 200) (q % 200)) 3200 < yp_c (fun q => ¬ ym_M G a (q / 200) (q % 200)) 3200 := by
      refine yp_c_lt (k := r * 200 + s) (fun q _ h h' => h (hU.1 _ _ h')) (by omega) ?_ ?_
      · rw [show (r * 200 + s) / 200 = r by omega, show (r * 200 + s) % 200 = s by omega]; exact fun h => h e2
      · rw [show (r * 200 + s) / 200 = r by omega, show (r * 200 + s) % 200 = s by omega]; exact e1
    omega
  · have hr := e2.1
    have hs := e2.2.1
    have h3 : yp_c (fun q => ¬ ym_I G b (q / 200) (q % 200)) 40000 < yp_c (fun q => ¬ ym_I G a (q / 200) (q % 200)) 40000 := by
      refine yp_c_lt (k := r * 200 + s) (fun q _ h h' => h (hU.2 _ _ h')) (by omega) ?_ ?_
      · rw [show (r * 200 + s) / 200 = r by omega, show (r * 200 + s) % 200 = s by omega]; exact fun h => h e2
      · rw [show (r * 200 + s) / 200 = r by omega, show (r * 200 + s) % 200 = s by omega]; exact e1
    omega
theorem ym_cl_of {i : Nat} {a b : zs_T} (hU : ym_U G a b) (hU' : ym_U G b a) (h : yp_cl G i (ym_M G a) (ym_I G a)) : yp_cl G i (ym_M G b) (ym_I G b) :=
  ⟨fun k => hU.1 _ _ (h.1 k), fun k s q => hU.1 _ _ (h.2.1 k s (hU'.1 _ _ q)), fun k s u q q' => hU.1 _ _ (h.2.2.1 k s u (hU'.1 _ _ q) (hU'.2 _ _ q')), fun k s u q q' => hU.2 _ _ (h.2.2.2 k s u (hU'.1 _ _ q) (hU'.1 _ _ q'))⟩
/-- the sets are found -/
def ym_S (G : yp_G) (t : zs_T) : Prop := (∀ r s, r < 16 → s < yn G → (¬ t.1 641 (200 * r + s) = 0 ↔ yp_M G r s)) ∧ ∀ s u, s < yn G → u < yn G → (¬ t.1 642 (200 * s + u) = 0 ↔ yp_I G s u)
theorem ym_sets {K : zs_T → Prop} (hok : yp_ok G) (hP : ym_P b G st) (hK : ∀ t, zs_ag 641 642 st t → ym_S G t → K t) : zf_MO_findSets st K := by
  have hn := hok.n
  unfold zf_MO_findSets
  refine pk_loop (W := fun m k (t : zs_T) => zf_MO_findSets_2 K m (nI k) t) (fun k t => zs_ag 641 642 st t ∧ ∀ j, j < k → t.1 641 j = 0) 3200 0 st (by omega) ⟨zs_ag.refl, fun j h => by omega⟩ ?_ ?_
  · rintro m t ⟨h1, h2⟩
    refine pk_le 3200 3200 (fun _ => ?_) (fun h => by omega)
    refine pk_loop (W := fun m k (t : zs_T) => zf_MO_findSets_24 K m (nI k) t) (fun k t => zs_ag 641 642 st t ∧ (∀ j, j < 3200 → t.1 641 j = 0) ∧ ∀ j, j < k → t.1 642 j = 0) 40000 0 t (by omega) ⟨h1, h2, fun j h => by omega⟩ ?_ ?_
    · rintro m t ⟨h1, h2, h3⟩
      refine pk_le 40000 40000 (fun _ => ?_) (fun h => by omega)
      have hV : ym_V G t := ⟨fun r s h => by have := h.2.2; have h4 := h.1; have h5 := h.2.1; exact absurd (h2 _ (by omega)) this, fun r s h => by have := h.2.2; have h4 := h.1; have h5 := h.2.1; exact absurd (h3 _ (by omega)) this⟩
      refine loop_m (σ := Bool × zs_T) (fun n s => zf_MO_findSets_45 K n (yb s.1) s.2) (fun s => zs_ag 641 642 st s.2 ∧ ym_V G s.2 ∧ (s.1 = false → yp_cls G (ym_M G s.2) (ym_I G s.2))) (fun s => ym_c G s.2 + (if s.1 then 1 else 0)) ?_ (true, t) ⟨h1, hV, fun h => by cases h⟩
      rintro n ⟨g, u⟩ ⟨u1, u2, u3⟩ ih
      cases g with
      | false =>
        refine ⟨fun _ => hK u u1 ⟨fun r s hr hs => ⟨fun h => u2.1 r s ⟨hr, hs, h⟩, fun h => (h _ _ (u3 rfl)).2.2⟩, fun r s hr hs => ⟨fun h => u2.2 r s ⟨hr, hs, h⟩, fun h => (h _ _ (u3 rfl)).2.2⟩⟩, fun h => absurd rfl h⟩
      | true =>
        refine ⟨(fun h => by cases h), fun _ => ?_⟩
        have hPu : ym_P b G u := hP.of (fun x hx hx' => u1.e1 (by omega))
        refine pk_loop (W := fun m i (t : Bool × zs_T) => zf_MO_findSets_53 K (zf_MO_findSets_45 K n) m (yb t.1) (nI i) t.2) (fun i t => ym_st G u t.2 t.1 ∧ (t.1 = false → ∀ j, j < i → yp_cl G j (ym_M G u) (ym_I G u))) (yn G) 0 (false, u) (by omega) ⟨ym_st.refl u2, fun _ j h => by omega⟩ ?_ ?_
        · rintro m ⟨g, w⟩ ⟨w1, w2⟩
          have hPw : ym_P b G w := hPu.of (fun x hx hx' => w1.2.1 x (by omega) (by omega))
          refine pk_le (yn G) (yn G) (fun _ => ?_) (fun h => by omega) hPw.1.1
          refine ih (g, w) ⟨u1.trans (fun x hx => ⟨w1.2.1 x (by omega) (by omega), congrFun w1.1 x⟩), w1.2.2.1, fun e i hi => ?_⟩ ?_
          · exact ym_cl_of w1.2.2.2.1 (w1.2.2.2.2.1 e) (w2 e i hi)
          · show ym_c G w + (if g = true then 1 else 0) < ym_c G u + 1
            cases g with
            | false =>
              have : ym_c G w ≤ ym_c G u := ym_c_le w1.2.2.2.1
              simp; omega
            | true =>
              have : ym_c G w < ym_c G u := ym_c_lt hok w1.2.2.2.1 (w1.2.2.2.2.2 rfl)
              simp; omega
        · rintro m i ⟨g, w⟩ hi ⟨w1, w2⟩ ih'
          have hPw : ym_P b G w := hPu.of (fun x hx hx' => w1.2.1 x (by omega) (by omega))
          refine ym_ins hok hPw w1.2.2.1 hi (fun g' t' q1 q2 => ih' (g || g', t') ⟨w1.trans q1, fun e j hj => ?_⟩)
          have e' : (g || g') = false := e
          rw [Bool.or_eq_false_iff] at e'
          by_cases ej : j = i
          · subst ej
            exact ym_cl_of (w1.2.2.2.2.1 e'.1) w1.2.2.2.1 (q2 e'.2)
          · exact w2 e'.1 j (by omega)
    · rintro m k t hk ⟨h1, h2, h3⟩ ih
      refine pk_le 40000 k (fun h => by omega) (fun _ => ⟨vp_in_nI (by omega) (by omega), nm_e ?_⟩)
      rw [yb_n0, nI_1, nI_clamp (n := k) (by omega)]
      refine ih _ ⟨h1.i (by omega) (by omega), fun j hj => ?_, fun j hj => ?_⟩
      · rw [yi_r _ _ _ _ (by omega)]; exact h2 j hj
      · rw [yi_m]
        by_cases c : j = k
        · rw [if_pos ⟨rfl, c⟩]
        · rw [if_neg (fun q => c q.2)]; exact h3 j (by omega)
  · rintro m k t hk ⟨h1, h2⟩ ih
    refine pk_le 3200 k (fun h => by omega) (fun _ => ⟨vp_in_nI (by omega) (by omega), nm_e ?_⟩)
    rw [yb_n0, nI_1, nI_clamp (n := k) (by omega)]
    refine ih _ ⟨h1.i (by omega) (by omega), fun j hj => ?_⟩
    rw [yi_m]
    by_cases c : j = k
    · rw [if_pos ⟨rfl, c⟩]
    · rw [if_neg (fun q => c q.2)]; exact h2 j (by omega)
theorem ym_meet {r q : Nat} {K : Int32 → zs_T → Prop} (hok : yp_ok G) (hsz : st.1 635 5 = nI (yn G)) (hS : ym_S G st) (hr : r < 16) (hq : q < 16) (hK : ∀ g : Bool, (g = true ↔ yp_meet G r q) → K (yb g) st) : zf_MO_meet (nI r) (nI q) st K := by
  have hn := hok.n
  unfold zf_MO_meet
  refine pk_loop (W := fun m s (g : Bool) => zf_MO_meet_5 K m (nI r) (nI q) (yb g) (nI s) st) (fun k g => (g = true ↔ ∃ s, s < k ∧ yp_M G r s ∧ yp_M G q s)) (yn G) 0 false (by omega) ⟨(fun h => by cases h), fun ⟨s, h, _⟩ => by omega⟩ ?_ ?_
  · rintro m g h
    exact pk_le (yn G) (yn G) (fun _ => ⟨yb_bz _, hK g (h.trans ⟨fun ⟨s, _, h⟩ => ⟨s, h⟩, fun ⟨s, h⟩ => ⟨s, (yp_M_s h.1).1, h⟩⟩)⟩) (fun h => by omega) hsz
  · rintro m k g hk h ih
    refine pk_le (yn G) k (fun h => by omega) (fun _ => ?_) hsz
    simp only [zf_MO_meet_50, zf_MO_meet_54, zf_MO_meet_55]
    rw [nI_1, yi_200, yi_200, nI_clamp (n := 200 * r + k) (by omega), nI_clamp (n := 200 * q + k) (by omega)]
    have ir : vp_in (nI (200 * r + k)) 3200 := vp_in_nI (by omega) (by omega)
    have iq : vp_in (nI (200 * q + k)) 3200 := vp_in_nI (by omega) (by omega)
    have s1 := hS.1 r k hr hk
    have s2 := hS.1 q k hq hk
    cases g with
    | true =>
      refine ⟨fun _ => ih true ⟨fun _ => ?_, fun _ => rfl⟩, fun h => by cases h⟩
      obtain ⟨s, h1, h2⟩ := h.mp rfl
      exact ⟨s, by omega, h2⟩
    | false =>
      refine ⟨fun h => absurd rfl h, fun _ => ⟨ir, br_c (fun c => ih false ⟨(fun h => by cases h), fun ⟨s, h1, h2, h3⟩ => ?_⟩) (fun c => ⟨iq, br_c (fun c2 => ih false ⟨(fun h => by cases h), fun ⟨s, h1, h2, h3⟩ => ?_⟩) (fun c2 => ih true ⟨fun _ => ⟨k, by omega, s1.mp c, s2.mp c2⟩, fun _ => rfl⟩)⟩)⟩⟩
      · by_cases e : s = k
        · rw [e] at h2; exact absurd c (s1.mpr h2)
        · exact h.mpr ⟨s, by omega, h2, h3⟩
      · by_cases e : s = k
        · rw [e] at h3; exact absurd c2 (s2.mpr h3)
        · exact h.mpr ⟨s, by omega, h2, h3⟩
end YN
