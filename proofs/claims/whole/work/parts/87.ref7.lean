/-! the facts of all places, in the reference -/
noncomputable def ym_fm (t : zs_T) : Nat := yp_sm (fun p => yk_n (ym_F t p)) 201
def ym_B (G : yp_G) (u t : zs_T) (g : Bool) : Prop := zs_ag 644 650 u t ∧ (∀ p, p ≤ yn G → ym_b t p) ∧ (∀ F, yp_S G F → ∀ p, yp_R G p → yp_le (F p) (ym_F t p)) ∧ (∀ p q r s, ym_F t p q r s → ym_F u p q r s) ∧ (g = false → ∀ p, ym_F t p = ym_F u p) ∧ (g = true → ym_fm t < ym_fm u)
def ym_Zf (G : yp_G) (st t : zs_T) : Prop := zs_ag 644 650 st t ∧ (∀ p, p ≤ yn G → ym_b t p) ∧ (∀ F, yp_S G F → ∀ p, yp_R G p → yp_le (F p) (ym_F t p)) ∧ (∀ q r s, ym_F t 0 q r s → q = 0 ∧ r ≠ s) ∧ ∀ p q r s, p ≤ yn G → ym_F t p q r s → yp_R G p
def ym_cl (G : yp_G) (t : zs_T) (i : Nat) : Prop := ∀ i' j, i' < i → yp_R G i' → yp_N G i' j → ∀ q r s, ym_F t j q r s → yp_T G i' (ym_F t i') q r s
def ym_E (G : yp_G) (st : zs_T) (m1 m2 : Nat) (t : zs_T) : Prop := zs_ag 644 646 st t ∧ (∀ p r s, r < 16 → s < 16 → 256 * p + 16 * r + s < m1 → t.1 644 (256 * p + 16 * r + s) = yq (yp_R G p ∧ r ≠ s) ∧ t.1 645 (256 * p + 16 * r + s) = yq (yp_R G p ∧ 0 < p)) ∧ ∀ p r, r < 16 → 16 * p + r < m2 → t.1 646 (16 * p + r) = yq (yp_R G p ∧ 0 < p)
section YP
variable {G : yp_G} {b : Nat} {st : zs_T}
theorem ym_fm_le {a t : zs_T} (h : ∀ p q r s, ym_F t p q r s → ym_F a p q r s) : ym_fm t ≤ ym_fm a := yp_sm_le (fun p _ => yk_n_mono (h p))
theorem ym_Bm {u t t' : zs_T} {g gm : Bool} {p : Nat} {O : yp_Q} (hp : p ≤ 200) (h : ym_B G u t g) (a : zs_ag 644 646 t t') (b1 : ym_b t' p) (b2 : ∀ p', p' ≠ p → ym_F t' p' = ym_F t p' ∧ (ym_b t p' → ym_b t' p')) (b3 : ∀ q r s, ym_F t' p q r s ↔ ym_F t p q r s ∧ O q r s) (b4 : gm = false → ∀ q r s, ym_F t p q r s → O q r s) (b5 : gm = true → ∃ q r s, q < 3 ∧ r < 16 ∧ s < 16 ∧ ym_F t p q r s ∧ ¬ O q r s) (hO : ∀ F, yp_S G F → yp_le (F p) O) : ym_B G u t' (g || gm) := by
  obtain ⟨h1, h2, h3, h5, h6, h7⟩ := h
  have le : ∀ p' q r s, ym_F t' p' q r s → ym_F t p' q r s := by
    intro p' q r s z
    by_cases c : p' = p
    · subst c; exact ((b3 q r s).mp z).1
    · rw [← (b2 p' c).1]; exact z
  refine ⟨h1.trans (a.wide (by omega) (by omega)), fun p' hp' => ?_, fun F hF p' hR q r s hq hr hs z => ?_, fun p' q r s z => h5 p' q r s (le p' q r s z), fun hg p' => ?_, fun hg => ?_⟩
  · by_cases c : p' = p
    · subst c; exact b1
    · exact (b2 p' c).2 (h2 p' hp')
  · have z2 := h3 F hF p' hR q r s hq hr hs z
    by_cases c : p' = p
    · subst c; exact (b3 q r s).mpr ⟨z2, hO F hF q r s hq hr hs z⟩
    · rw [(b2 p' c).1]; exact z2
  · rw [Bool.or_eq_false_iff] at hg
    rw [← h6 hg.1 p']
    by_cases c : p' = p
    · subst c
      funext q r s
      exact propext ⟨le _ q r s, fun z => (b3 q r s).mpr ⟨z, b4 hg.2 q r s z⟩⟩
    · exact (b2 p' c).1
  · have l1 := ym_fm_le h5
    have l2 := ym_fm_le le
    cases gm with
    | false => have := h7 (by simpa using hg); omega
    | true =>
      obtain ⟨q, r, s, hq, hr, hs, z1, z2⟩ := b5 rfl
      have : ym_fm t' < ym_fm t := yp_sm_lt (k := p) (fun p' _ => yk_n_mono (le p')) (by omega) (yk_n_lt (le p) hq hr hs (fun z => z2 ((b3 q r s).mp z).2) z1)
      omega
theorem ym_Bof {u t t' : zs_T} {g : Bool} (h : ym_B G u t g) (a : zs_ag 648 650 t t') : ym_B G u t' g := by
  obtain ⟨h1, h2, h3, h5, h6, h7⟩ := h
  have e : ∀ p, ym_F t' p = ym_F t p ∧ (ym_b t p → ym_b t' p) := fun p => ym_Fof (fun x _ _ => a.e1 (by omega))
  have e2 : ym_fm t' = ym_fm t := Nat.le_antisymm (ym_fm_le (fun p q r s z => by rw [(e p).1] at z; exact z)) (ym_fm_le (fun p q r s z => by rw [(e p).1]; exact z))
  refine ⟨h1.trans (a.wide (by omega) (by omega)), fun p hp => (e p).2 (h2 p hp), fun F hF p hR => ?_, fun p q r s z => ?_, fun hg p => ?_, fun hg => ?_⟩
  · rw [(e p).1]; exact h3 F hF p hR
  · rw [(e p).1] at z; exact h5 p q r s z
  · rw [(e p).1]; exact h6 hg p
  · rw [e2]; exact h7 hg
theorem ym_diag {F : Nat → yp_Q} (hF : yp_S G F) {p : Nat} (hp : yp_R G p) (r : Nat) : ¬ F p 0 r r := by
  refine (hp (fun p => yp_R G p ∧ ∀ r, ¬ F p 0 r r) ⟨yp_R_0 G, fun r h => (hF.1 0 r r h).2 rfl⟩ (fun i j hi hN => ⟨yp_R_s hi.1 hN, fun r h => ?_⟩)).2 r
  rcases hF.2 i j hi.1 hN 0 r r h with h | ⟨_, _, h | h⟩ | ⟨_, h | h⟩
  · exact hi.2 r h.1
  · exact h.2.1 h.1
  · exact h.2.1 h.1
  · exact h.2.1 h.1
  · exact h.2.1 h.1
theorem ym_finit {K : zs_T → Prop} (hok : yp_ok G) (hP : ym_P b G st) (hR : ∀ p, p < 201 → st.1 643 p = yq (yp_R G p)) (hK : ∀ t, ym_E G st (256 * (yn G + 1)) (16 * (yn G + 1)) t → ∃ n, zf_MO_findFacts_146 K n 1 t) : zf_MO_findFacts st K := by
  have hn := hok.n
  unfold zf_MO_findFacts
  refine pk_loop (W := fun m k (t : zs_T) => zf_MO_findFacts_2 K m (nI k) t) (fun k t => ym_E G st (256 * k) (16 * k) t) (yn G + 1) 0 st (by omega) ⟨zs_ag.refl, fun p r s _ _ h => absurd h (by omega), fun p r _ h => absurd h (by omega)⟩ ?_ ?_
  · rintro m t h
    exact pk_lt (yn G) (yn G + 1) (fun _ => hK t h) (fun h => by omega) (hP.of (fun x _ _ => h.1.e1 (by omega))).1.1
  · rintro m i t hi h ih
    refine pk_lt (yn G) i (fun h => by omega) (fun _ => ?_) (hP.of (fun x _ _ => h.1.e1 (by omega))).1.1
    refine pk_loop (W := fun m2 r (t : zs_T) => zf_MO_findFacts_12 K (zf_MO_findFacts_2 K m) m2 (nI i) (nI r) t) (fun r t => ym_E G st (256 * i + 16 * r) (16 * i + r) t) 16 0 t (by omega) h ?_ ?_
    · rintro m2 t2 h2
      refine pk_le 16 16 (fun _ => ?_) (fun h => by omega)
      rw [nI_1]
      refine ih t2 ?_
      rw [show 256 * (i + 1) = 256 * i + 16 * 16 by omega, show 16 * (i + 1) = 16 * i + 16 by omega]
      exact h2
    · rintro m2 r t2 hr h2 ih2
      refine pk_le 16 r (fun h => by omega) (fun _ => ?_)
      refine pk_loop (W := fun m3 s (t : zs_T) => zf_MO_findFacts_20 K (zf_MO_findFacts_2 K m) (zf_MO_findFacts_12 K (zf_MO_findFacts_2 K m) m2) m3 (nI i) (nI r) (nI s) t) (fun s t => ym_E G st (256 * i + 16 * r + s) (16 * i + r) t) 16 0 t2 (by omega) h2 ?_ ?_
      · rintro m3 t3 ⟨e1, e2, e3⟩
        have hr3 : t3.1 643 i = yq (yp_R G i) := by
          rw [e1.e1 (by omega)]
          exact hR i (by omega)
        have h131 : ∀ v : Int32, v = yq (yp_R G i ∧ 0 < i) → zf_MO_findFacts_131 K (zf_MO_findFacts_2 K m) (zf_MO_findFacts_12 K (zf_MO_findFacts_2 K m) m2) (nI i) (nI r) v (nI (16 * i + r)) t3 := by
          intro v hv
          unfold zf_MO_findFacts_131
          rw [hv, yq_nar, nI_clamp (n := 16 * i + r) (by omega), nI_1]
          refine ⟨vp_in_nI (by omega) (by omega), nm_e (ih2 _ ⟨e1.i (by omega) (by omega), fun p r' s' hr' hs' hl => ?_, fun p r' hr' hl => ?_⟩)⟩
          · rw [yi_r _ 646 _ _ (by omega : 644 ≠ 646), yi_r _ 646 _ _ (by omega : 645 ≠ 646)]
            exact e2 p r' s' hr' hs' (by omega)
          · rw [yi_m]
            by_cases c : 16 * p + r' = 16 * i + r
            · have c1 : p = i := by omega
              rw [if_pos ⟨rfl, c⟩, c1]
            · rw [if_neg (fun q => c q.2)]
              exact e3 p r' hr' (by omega)
        refine pk_le 16 16 (fun _ => ?_) (fun h => by omega)
        rw [nI_clamp (n := i) (by omega), hr3, yi_16]
        exact ⟨vp_in_nI (by omega) (by omega), br_c (fun c => h131 0 (yq_f (fun q => yq_0.mp c q.1)).symm) (fun c => pk_le i 0 (fun c2 => h131 0 (yq_f (fun q => by omega)).symm) (fun c2 => h131 1 (yq_t ⟨yq_n0.mp c, c2⟩).symm))⟩
      · rintro m3 s t3 hs ⟨e1, e2, e3⟩ ih3
        have hr3 : t3.1 643 i = yq (yp_R G i) := by
          rw [e1.e1 (by omega)]
          exact hR i (by omega)
        have h96 : ∀ v : Int32, v = yq (yp_R G i ∧ 0 < i) → zf_MO_findFacts_96 K (zf_MO_findFacts_2 K m) (zf_MO_findFacts_12 K (zf_MO_findFacts_2 K m) m2) (zf_MO_findFacts_20 K (zf_MO_findFacts_2 K m) (zf_MO_findFacts_12 K (zf_MO_findFacts_2 K m) m2) m3) (nI i) (nI r) (nI s) v (nI (256 * i + 16 * r + s)) (zs_i t3 644 (256 * i + 16 * r + s) (yq (yp_R G i ∧ r ≠ s))) := by
          intro v hv
          unfold zf_MO_findFacts_96
          rw [hv, yq_nar, nI_clamp (n := 256 * i + 16 * r + s) (by omega), nI_1]
          refine ⟨vp_in_nI (by omega) (by omega), nm_e (ih3 _ ⟨(e1.i (by omega) (by omega)).i (by omega) (by omega), fun p r' s' hr' hs' hl => ?_, fun p r' hr' hl => ?_⟩)⟩
          · by_cases c : 256 * p + 16 * r' + s' = 256 * i + 16 * r + s
            · have c1 : p = i := by omega
              have c2 : r' = r := by omega
              have c3 : s' = s := by omega
              rw [c1, c2, c3, yi_r _ 645 _ _ (by omega : 644 ≠ 645), yi_s, yi_s]
              exact ⟨rfl, rfl⟩
            · rw [yi_r _ 645 _ _ (by omega : 644 ≠ 645), yi_n _ _ _ c, yi_n _ _ _ c, yi_r _ 644 _ _ (by omega : 645 ≠ 644)]
              exact e2 p r' s' hr' hs' (by omega)
          · rw [yi_r _ 645 _ _ (by omega : 646 ≠ 645), yi_r _ 644 _ _ (by omega : 646 ≠ 644)]
            exact e3 p r' hr' hl
        have h61 : ∀ v : Int32, v = yq (yp_R G i ∧ r ≠ s) → zf_MO_findFacts_61 K (zf_MO_findFacts_2 K m) (zf_MO_findFacts_12 K (zf_MO_findFacts_2 K m) m2) (zf_MO_findFacts_20 K (zf_MO_findFacts_2 K m) (zf_MO_findFacts_12 K (zf_MO_findFacts_2 K m) m2) m3) (nI i) (nI r) (nI s) v (nI (256 * i + 16 * r + s)) t3 := by
          intro v hv
          unfold zf_MO_findFacts_61
          rw [hv, yq_nar, yi_256, nI_clamp (n := 256 * i + 16 * r + s) (by omega), nI_clamp (n := i) (by omega)]
          refine ⟨vp_in_nI (by omega) (by omega), nm_e ⟨vp_in_nI (by omega) (by omega), ?_⟩⟩
          rw [yi_r _ 644 _ _ (by omega : 643 ≠ 644), hr3]
          exact br_c (fun c => h96 0 (yq_f (fun q => yq_0.mp c q.1)).symm) (fun c => pk_le i 0 (fun c2 => h96 0 (yq_f (fun q => by omega)).symm) (fun c2 => h96 1 (yq_t ⟨yq_n0.mp c, c2⟩).symm))
        refine pk_le 16 s (fun h => by omega) (fun _ => ?_)
        rw [nI_clamp (n := i) (by omega), hr3, yi_256]
        exact ⟨vp_in_nI (by omega) (by omega), br_c (fun c => h61 0 (yq_f (fun q => yq_0.mp c q.1)).symm) (fun c => pk_eq r s (fun c2 => h61 0 (yq_f (fun q => q.2 c2)).symm) (fun c2 => h61 1 (yq_t ⟨yq_n0.mp c, c2⟩).symm))⟩
theorem ym_facts {K : zs_T → Prop} (hok : yp_ok G) (hP : ym_P b G st) (hS : ym_S G st) (hR : ∀ p, p < 201 → st.1 643 p = yq (yp_R G p)) (hK : ∀ t, zs_ag 644 650 st t → (∀ p, p ≤ yn G → ym_b t p) → (∀ p, yp_R G p → ∀ q r s, q < 3 → r < 16 → s < 16 → (ym_F t p q r s ↔ yp_F G p q r s)) → (∀ p q r s, p ≤ yn G → ym_F t p q r s → yp_R G p) → K t) : zf_MO_findFacts st K := by
  have hn := hok.n
  refine ym_finit hok hP hR (fun t0 h0 => ?_)
  obtain ⟨e1, e2, e3⟩ := h0
  have i1 : ∀ p, p ≤ yn G → ∀ r s, r < 16 → s < 16 → (ym_F t0 p 0 r s ↔ yp_R G p ∧ r ≠ s) ∧ (ym_F t0 p 1 r s ↔ yp_R G p ∧ 0 < p) ∧ (ym_F t0 p 2 r s ↔ yp_R G p ∧ 0 < p) := by
    intro p hp r s hr hs
    rw [ym_F0 hr hs, ym_F1 hr hs, ym_F2 hr hs, (e2 p r s hr hs (by omega)).1, (e2 p r s hr hs (by omega)).2, e3 p r hr (by omega), yq_n0, yq_n0]
    exact ⟨Iff.rfl, Iff.rfl, Iff.rfl⟩
  have z0 : ym_Zf G st t0 := by
    refine ⟨e1.wide (by omega) (by omega), fun p hp r s hr hs => ?_, fun F hF p hRp q r s hq hr hs z => ?_, fun q r s z => ?_, fun p q r s hp z => ?_⟩
    · rw [(e2 p r s hr hs (by omega)).1, (e2 p r s hr hs (by omega)).2, e3 p r hr (by omega)]
      exact ⟨yq_bz _, yq_bz _, yq_bz _⟩
    · have i2 := i1 p (yp_R_le hRp) r s hr hs
      have hp0 : q ≠ 0 → 0 < p := by
        intro hq0
        apply Nat.pos_of_ne_zero
        intro c
        rw [c] at z
        exact hq0 (hF.1 q r s z).1
      match q, hq with
      | 0, _ =>
        refine i2.1.mpr ⟨hRp, fun c => ?_⟩
        rw [c] at z
        exact ym_diag hF hRp s z
      | 1, _ => exact i2.2.1.mpr ⟨hRp, hp0 (by omega)⟩
      | 2, _ => exact i2.2.2.mpr ⟨hRp, hp0 (by omega)⟩
    · have i2 := i1 0 (by omega) r s z.2.1 z.2.2.1
      match q, z.1 with
      | 0, _ => exact ⟨rfl, (i2.1.mp z).2⟩
      | 1, _ => exact absurd (i2.2.1.mp z).2 (by omega)
      | 2, _ => exact absurd (i2.2.2.mp z).2 (by omega)
    · have i2 := i1 p hp r s z.2.1 z.2.2.1
      match q, z.1 with
      | 0, _ => exact (i2.1.mp z).1
      | 1, _ => exact (i2.2.1.mp z).1
      | 2, _ => exact (i2.2.2.mp z).1
  refine loop_m (σ := Bool × zs_T) (fun n s => zf_MO_findFacts_146 K n (yb s.1) s.2) (fun s => ym_Zf G st s.2 ∧ (s.1 = false → ym_cl G s.2 (yn G))) (fun s => ym_fm s.2 + (if s.1 then 1 else 0)) ?_ (true, t0) ⟨z0, fun h => by cases h⟩
  rintro n ⟨g, u⟩ ⟨⟨u1, u2, u3, u4, u5⟩, u6⟩ ih
  cases g with
  | false =>
    refine ⟨fun _ => hK u u1 u2 (fun p hRp q r s hq hr hs => ⟨fun z => ⟨ym_F u, ⟨u4, fun i j hi hN => u6 rfl i j hN.1 hi hN⟩, z⟩, fun ⟨F, hF, z⟩ => u3 F hF p hRp q r s hq hr hs z⟩) u5, fun h => absurd rfl h⟩
  | true =>
    refine ⟨(fun h => by cases h), fun _ => ?_⟩
    have hPu : ym_P b G u := hP.of (fun x _ _ => u1.e1 (by omega))
    have hSu : ym_S G u := ym_Sof hS (fun x _ _ => u1.e1 (by omega))
    have hRu : ∀ p, p < 201 → u.1 643 p = yq (yp_R G p) := by
      rw [u1.e1 (by omega)]
      exact hR
    refine pk_loop (W := fun m i (s : Bool × zs_T) => zf_MO_findFacts_154 K (zf_MO_findFacts_146 K n) m (yb s.1) (nI i) s.2) (fun i s => ym_B G u s.2 s.1 ∧ (s.1 = false → ym_cl G u i)) (yn G) 0 (false, u) (by omega) ⟨⟨zs_ag.refl, u2, u3, fun _ _ _ _ z => z, fun _ _ => rfl, (fun h => by cases h)⟩, fun _ i' j h => absurd h (by omega)⟩ ?_ ?_
    · rintro m ⟨g, w⟩ ⟨⟨w1, w2, w3, w4, w5, w6⟩, w7⟩
      have hPw : ym_P b G w := hPu.of (fun x _ _ => w1.e1 (by omega))
      refine pk_le (yn G) (yn G) (fun _ => ?_) (fun h => by omega) hPw.1.1
      refine ih (g, w) ⟨⟨u1.trans w1, w2, w3, fun q r s z => u4 q r s (w4 0 q r s z), fun p q r s hp z => u5 p q r s hp (w4 p q r s z)⟩, fun e i j hi hRi hN q r s z => ?_⟩ ?_
      · have z' : ym_F w j q r s := z
        show yp_T G i (ym_F w i) q r s
        rw [w5 e j] at z'
        rw [w5 e i]
        exact w7 e i j hi hRi hN q r s z'
      · show ym_fm w + (if g then 1 else 0) < ym_fm u + (if true then 1 else 0)
        have l : ym_fm w ≤ ym_fm u := ym_fm_le w4
        cases g with
        | false => simp; omega
        | true => have : ym_fm w < ym_fm u := w6 rfl; simp; omega
    · rintro m i ⟨g, w⟩ hi ⟨hB, w7⟩ ih2
      have hPw : ym_P b G w := hPu.of (fun x _ _ => hB.1.e1 (by omega))
      have hSw : ym_S G w := ym_Sof hSu (fun x _ _ => hB.1.e1 (by omega))
      have hRw : w.1 643 i = yq (yp_R G i) := by
        rw [hB.1.e1 (by omega)]
        exact hRu i (by omega)
      refine pk_le (yn G) i (fun h => by omega) (fun _ => ?_) hPw.1.1
      show vp_in (nI i) 201 ∧ _
      rw [nI_clamp (n := i) (by omega)]
      show vp_in (nI i) 201 ∧ ((¬ w.1 643 i = 0 → _) ∧ (w.1 643 i = 0 → _))
      rw [hRw]
      refine ⟨vp_in_nI (by omega) (by omega), And.intro (fun c => ?_) (fun c => ?_)⟩
      · have hRi := yq_n0.mp c
        refine ym_pass hok hPw hSw (hB.2.1 i (by omega)) hi (fun t a o0 o1 o2 => ?_)
        have hBt : ym_B G u t g := ym_Bof hB a
        refine pk_loop (W := fun m2 j (s : Bool × zs_T) => zf_MO_findFacts_181 K (zf_MO_findFacts_146 K n) (zf_MO_findFacts_154 K (zf_MO_findFacts_146 K n) m) m2 (yb s.1) (nI i) (nI j) s.2) (fun j s => ym_B G u s.2 s.1 ∧ s.2.1 648 = t.1 648 ∧ s.2.1 649 = t.1 649 ∧ s.2.1 650 = t.1 650 ∧ (s.1 = false → g = false ∧ ∀ j' w', j' < j → w' ≤ 200 → ym_nx G i j' = nI w' → ∀ q r s', ym_F u w' q r s' → yp_T G i (ym_F w i) q r s')) 2 0 (g, t) (by omega) ⟨hBt, rfl, rfl, rfl, fun h => ⟨h, fun j' w' h => absurd h (by omega)⟩⟩ ?_ ?_
        · rintro m2 ⟨g', t'⟩ ⟨b1, b2, b3, b4, b5⟩
          refine pk_le 2 2 (fun _ => ?_) (fun h => by omega)
          unfold zf_MO_findFacts_225
          rw [nI_1]
          refine ih2 (g', t') ⟨b1, fun e i' j hi' hRi' hN q r s z => ?_⟩
          obtain ⟨hg, b6⟩ := b5 e
          by_cases c2 : i' = i
          · subst c2
            obtain ⟨j', hj', e'⟩ := ym_N_nx hN
            have z2 := b6 j' j hj' (Nat.le_trans (yp_N_le hN) hn) e' q r s z
            rw [hB.2.2.2.2.1 hg i'] at z2
            exact z2
          · exact w7 hg i' j (by omega) hRi' hN q r s z
        · rintro m2 j ⟨g', t'⟩ hj ⟨b1, b2, b3, b4, b5⟩ ih3
          have hPt : ym_P b G t' := hPu.of (fun x _ _ => b1.1.e1 (by omega))
          refine pk_le 2 j (fun h => by omega) (fun _ => ?_)
          refine ym_next hok hPt (by omega) hj ?_
          rcases ym_nx_N (G := G) (i := i) (j := j) (by omega) with e | ⟨w', e, hN⟩
          · rw [e]
            refine ⟨fun _ => ?_, fun h => absurd rfl h⟩
            unfold zf_MO_findFacts_219
            rw [nI_1]
            refine ih3 (g', t') ⟨b1, b2, b3, b4, fun h => ⟨(b5 h).1, fun j' w' hj' hw' e' => ?_⟩⟩
            by_cases c2 : j' = j
            · subst c2
              rw [e] at e'
              exact absurd e'.symm (yi_m1 (by omega))
            · exact (b5 h).2 j' w' (by omega) hw' e'
          · have hw' := yp_N_le hN
            rw [e]
            refine ⟨fun h => absurd h (yi_m1 (by omega)), fun _ => ym_next hok hPt (by omega) hj ?_⟩
            rw [e]
            refine ym_meets (O := yp_T G i (ym_F w i)) (by omega) (fun r s => Iff.rfl) (ym_o.of o0 b2) (ym_o.of o1 b3) (ym_u.of o2 b4) (fun gm t'' m1 m2' m3 m4 m5 m6 => ?_)
            have fin : zf_MO_findFacts_181 K (zf_MO_findFacts_146 K n) (zf_MO_findFacts_154 K (zf_MO_findFacts_146 K n) m) m2 (yb (g' || gm)) (nI i) (nI j + 1) t'' := by
              rw [nI_1]
              refine ih3 (g' || gm, t'') ⟨ym_Bm (by omega) b1 m1 m2' m3 m4 m5 m6 (fun F hF q r s hq hr hs z => yp_T_mono hok hi (hB.2.2.1 F hF i hRi) q r s hq hr hs (hF.2 i w' hRi hN q r s z)), ?_, ?_, ?_, fun h => ?_⟩
              · exact (m1.e1 (by omega)).trans b2
              · exact (m1.e1 (by omega)).trans b3
              · exact (m1.e1 (by omega)).trans b4
              · have h' : (g' || gm) = false := h
                rw [Bool.or_eq_false_iff] at h'
                refine ⟨(b5 h'.1).1, fun j' w'' hj' hw'' e' q r s z => ?_⟩
                by_cases c2 : j' = j
                · subst c2
                  rw [e] at e'
                  have c3 : w' = w'' := (nI_eq (by omega) (by omega)).mp e'
                  subst c3
                  refine m5 h'.2 q r s ?_
                  rw [b1.2.2.2.2.1 h'.1 w']
                  exact z
                · exact (b5 h'.1).2 j' w'' (by omega) hw'' e' q r s z
            cases gm with
            | true =>
              rw [Bool.or_true] at fin
              exact ⟨fun _ => fin, fun c => absurd c (by decide)⟩
            | false =>
              rw [Bool.or_false] at fin
              refine ⟨fun c => absurd rfl c, fun _ => ?_⟩
              cases g' with
              | true => exact ⟨fun c => absurd c (show ¬ yb true = 0 by decide), fun _ => fin⟩
              | false => exact ⟨fun _ => fin, fun c => absurd rfl c⟩
      · have hRi := yq_0.mp c
        unfold zf_MO_findFacts_225
        rw [nI_1]
        refine ih2 (g, w) ⟨hB, fun e i' j hi' hRi' hN => ?_⟩
        by_cases c2 : i' = i
        · subst c2
          exact absurd hRi' hRi
        · exact w7 e i' j (by omega) hRi' hN
end YP
