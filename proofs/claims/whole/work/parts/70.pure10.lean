/-! what is known, in the class: one flow -/
theorem yk_Feq {t st : zs_T} {d d1 : Nat} (h : ∀ r s, r < 16 → s < 16 → yE t d r s = yE st d1 r s ∧ yH t d r s = yH st d1 r s) (h2 : ∀ s, s < 16 → yS t d s = yS st d1 s) : yk_F t d = yk_F st d1 := by
  funext q r s
  apply propext
  unfold yk_F
  constructor
  · rintro ⟨hq, hr, hs, h3⟩
    refine ⟨hq, hr, hs, ?_⟩
    match q, hq, h3 with
    | 0, _, h3 => exact (h r s hr hs).1 ▸ h3
    | 1, _, h3 => exact (h r s hr hs).2 ▸ h3
    | 2, _, h3 => exact (h2 r hr) ▸ h3
  · rintro ⟨hq, hr, hs, h3⟩
    refine ⟨hq, hr, hs, ?_⟩
    match q, hq, h3 with
    | 0, _, h3 => exact (h r s hr hs).1.symm ▸ h3
    | 1, _, h3 => exact (h r s hr hs).2.symm ▸ h3
    | 2, _, h3 => exact (h2 r hr).symm ▸ h3
/-- the facts of an object that no one touched -/
theorem yk_un {t st : zs_T} {d : Nat} (h0 : t.1 d = st.1 d) (h1 : t.1 (d + 1) = st.1 (d + 1)) (h2 : t.1 (d + 2) = st.1 (d + 2)) : yk_F t d = yk_F st d ∧ (yk_ok st d → yk_ok t d) ∧ (yk_sy st d → yk_sy t d) := by
  have e1 : ∀ r s, yE t d r s = yE st d r s := fun r s => by unfold yE; rw [h1]
  have e2 : ∀ r s, yH t d r s = yH st d r s := fun r s => by unfold yH; rw [h2]
  have e3 : ∀ s, yS t d s = yS st d s := fun s => by unfold yS; rw [h0]
  refine ⟨yk_Feq (fun r s _ _ => ⟨e1 r s, e2 r s⟩) (fun s _ => e3 s), fun h => ⟨fun r s hr hs => ?_, fun s hs => ?_⟩, fun h => ⟨fun r s hr hs => ?_, fun r hr => ?_⟩⟩
  · rw [e1, e2]; exact h.1 r s hr hs
  · rw [e3]; exact h.2 s hs
  · rw [e1, e1]; exact h.1 r s hr hs
  · rw [e1]; exact h.2 r hr
section YI
variable {d : Nat} {st : zs_T}
theorem yk_copyF {d1 : Nat} {K : zs_T → Prop} (ha : d + 2 < d1 ∨ d1 + 2 < d) (hK : ∀ t, zs_ag d (d + 2) st t → yk_F t d = yk_F st d1 → (yk_ok st d1 → yk_ok t d) → (yk_sy st d1 → yk_sy t d) → K t) : zf_FA_copy d d1 st K := by
  refine yk_copy ha (fun t ag h1 h2 => hK t ag (yk_Feq (fun r s hr _ => h1 r s hr) (fun s _ => h2 s)) (fun h => ⟨fun r s hr hs => ?_, fun s hs => ?_⟩) (fun h => ⟨fun r s hr hs => ?_, fun r hr => ?_⟩))
  · rw [(h1 r s hr).1, (h1 r s hr).2]; exact h.1 r s hr hs
  · rw [h2]; exact h.2 s hs
  · rw [(h1 r s hr).1, (h1 s r hs).1]; exact h.1 r s hr hs
  · rw [(h1 r r hr).1]; exact h.2 r hr
theorem yk_keepF {d1 : Nat} {K : Int32 → zs_T → Prop} (hd : d + 2 < d1 ∨ d1 + 2 < d) (ho : yk_ok st d) (hs : yk_sy st d) (hs1 : yk_sy st d1) (hK : ∀ (g : Bool) (t : zs_T), zs_ag d (d + 2) st t → (∀ q r s, yk_F t d q r s ↔ yk_F st d q r s ∧ yk_F st d1 q r s) → yk_ok t d → yk_sy t d → (g = true ↔ ∃ q r s, yk_F st d q r s ∧ ¬ yk_F st d1 q r s) → K (yb g) t) : zf_FA_keepCommon d d1 st K := by
  refine yk_keep hd (fun g t ag hE hS hg => hK g t ag (fun q r s => ?_) (yk_hi (fun r s hr h16 h32 => ?_) (fun s h16 h32 => ?_)) ⟨fun r s hr hs' => ?_, fun r hr => ?_⟩ (hg.trans ⟨fun h => ?_, fun h => ?_⟩))
  · unfold yk_F
    constructor
    · rintro ⟨hq, hr, hs, h3⟩
      match q, hq, h3 with
      | 0, hq, h3 => have h3 : yE t d r s = true := h3; rw [(hE r s hr (by omega)).1, Bool.and_eq_true] at h3; exact ⟨⟨hq, hr, hs, h3.1⟩, ⟨hq, hr, hs, h3.2⟩⟩
      | 1, hq, h3 => have h3 : yH t d r s = true := h3; rw [(hE r s hr (by omega)).2, Bool.and_eq_true] at h3; exact ⟨⟨hq, hr, hs, h3.1⟩, ⟨hq, hr, hs, h3.2⟩⟩
      | 2, hq, h3 => have h3 : yS t d r = true := h3; rw [hS r (by omega), Bool.and_eq_true] at h3; exact ⟨⟨hq, hr, hs, h3.1⟩, ⟨hq, hr, hs, h3.2⟩⟩
    · rintro ⟨⟨hq, hr, hs, h3⟩, _, _, _, h4⟩
      refine ⟨hq, hr, hs, ?_⟩
      match q, hq, h3, h4 with
      | 0, _, h3, h4 => show yE t d r s = true; rw [(hE r s hr (by omega)).1, Bool.and_eq_true]; exact ⟨h3, h4⟩
      | 1, _, h3, h4 => show yH t d r s = true; rw [(hE r s hr (by omega)).2, Bool.and_eq_true]; exact ⟨h3, h4⟩
      | 2, _, h3, h4 => show yS t d r = true; rw [hS r (by omega), Bool.and_eq_true]; exact ⟨h3, h4⟩
  · rw [(hE r s hr h32).1, (hE r s hr h32).2, (ho.1 r s hr h16).1, (ho.1 r s hr h16).2]; exact ⟨rfl, rfl⟩
  · rw [hS s h32, ho.2 s h16]; rfl
  · rw [(hE r s hr (by omega)).1, (hE s r hs' (by omega)).1, hs.1 r s hr hs', hs1.1 r s hr hs']
  · rw [(hE r r hr (by omega)).1, hs.2 r hr]; rfl
  · rcases h with ⟨s, h1, h2, h3⟩ | ⟨r, s, hr, h1, h2⟩
    · have h16 : s < 16 := by
        apply Classical.byContradiction
        intro c
        rw [ho.2 s (by omega)] at h2
        cases h2
      exact ⟨2, s, 0, yk_F2.mpr ⟨h16, by omega, h2⟩, fun c => by rw [(yk_F2.mp c).2.2] at h3; cases h3⟩
    · have h16 : s < 16 := by
        apply Classical.byContradiction
        intro c
        rw [(ho.1 r s hr (by omega)).1, (ho.1 r s hr (by omega)).2] at h2
        rcases h2 with ⟨h2, _⟩ | ⟨h2, _⟩ <;> cases h2
      rcases h2 with ⟨h2, h3⟩ | ⟨h2, h3⟩
      · exact ⟨0, r, s, yk_F0.mpr ⟨hr, h16, h2⟩, fun c => by rw [(yk_F0.mp c).2.2] at h3; cases h3⟩
      · exact ⟨1, r, s, yk_F1.mpr ⟨hr, h16, h2⟩, fun c => by rw [(yk_F1.mp c).2.2] at h3; cases h3⟩
  · obtain ⟨q, r, s, h1, h2⟩ := h
    obtain ⟨hq, hr, hs', h3⟩ := h1
    match q, hq, h3, h2 with
    | 0, _, h3, h2 => exact Or.inr ⟨r, s, hr, by omega, Or.inl ⟨h3, ts_nt (fun c => h2 (yk_F0.mpr ⟨hr, hs', c⟩))⟩⟩
    | 1, _, h3, h2 => exact Or.inr ⟨r, s, hr, by omega, Or.inr ⟨h3, ts_nt (fun c => h2 (yk_F1.mpr ⟨hr, hs', c⟩))⟩⟩
    | 2, _, h3, h2 => exact Or.inl ⟨r, by omega, h3, ts_nt (fun c => h2 (yk_F2.mpr ⟨hr, hs', c⟩))⟩
end YI
def yR (t : zs_T) (p : Nat) : Prop := ¬ t.1 19 p = 0
def yW (t : zs_T) (p : Nat) : Prop := ¬ t.1 20 p = 0
/-- outside the points' rows, and what is passed, nothing changed -/
def yk_fr (j : Nat) (st t : zs_T) : Prop := ∀ x, x ≠ 19 → x ≠ 20 → (x < 24 + 3 * j ∨ 26 + 3 * j < x) → t.1 x = st.1 x ∧ t.2 x = st.2 x
theorem yk_flow {j : Nat} {st : zs_T} {K : zs_T → Prop} (hj : j < 201) (ho : yR st j → yk_ok st (24 + 3 * j) ∧ yk_sy st (24 + 3 * j)) (ho1 : yk_ok st 21) (hs1 : yk_sy st 21)
    (hK : ∀ t, yk_fr j st t → t.2 19 = st.2 19 → t.2 20 = st.2 20 → (∀ p, yR t p ↔ yR st p ∨ p = j) → (∀ p, p ≠ j → (yW t p ↔ yW st p)) → yk_ok t (24 + 3 * j) → yk_sy t (24 + 3 * j) → (∀ q r s, yk_F t (24 + 3 * j) q r s ↔ (yR st j → yk_F st (24 + 3 * j) q r s) ∧ yk_F st 21 q r s) → (yW st j → yW t j) → (¬ yR st j → yW t j) → (yR st j → (yW t j ↔ yW st j ∨ ∃ q r s, yk_F st (24 + 3 * j) q r s ∧ ¬ yk_F st 21 q r s)) → K t) : zf_KN_flowTo (nI j) st K := by
  unfold zf_KN_flowTo
  have iv : vp_in (nI j) 201 := vp_in_nI (by omega) (by omega)
  refine And.intro (fun _ => ⟨iv, ?_⟩) (fun h => absurd h (yi_m1 (by omega)))
  rw [nI_clamp (n := j) (by omega)]
  refine And.intro (fun hR => ⟨iv, hj, ?_⟩) (fun hR => ?_)
  · obtain ⟨o1, o2⟩ := ho hR
    refine yk_keepF (by omega) o1 o2 hs1 (fun g t ag hF hok hsy hg => ?_)
    have a19 : t.1 19 = st.1 19 := ag.e1 (by omega)
    have a20 : t.1 20 = st.1 20 := ag.e1 (by omega)
    have hRt : ∀ p, yR t p ↔ yR st p ∨ p = j := fun p => by
      unfold yR; rw [a19]
      exact ⟨Or.inl, fun h => h.elim id (fun e => by rw [e]; exact hR)⟩
    have hFt : ∀ q r s, yk_F t (24 + 3 * j) q r s ↔ (yR st j → yk_F st (24 + 3 * j) q r s) ∧ yk_F st 21 q r s := fun q r s => (hF q r s).trans ⟨fun h => ⟨fun _ => h.1, h.2⟩, fun h => ⟨h.1 hR, h.2⟩⟩
    have hg' := hg
    cases g with
    | false =>
      refine ⟨fun _ => hK t (fun x _ _ hx => ag x (by omega)) (ag.e2 (by omega)) (ag.e2 (by omega)) hRt (fun p _ => by unfold yW; rw [a20]) hok hsy hFt (fun h => by unfold yW; rw [a20]; exact h) (fun h => absurd hR h) (fun _ => ?_), fun h => absurd rfl h⟩
      unfold yW
      rw [a20]
      refine ⟨Or.inl, fun h => h.elim id (fun h => ?_)⟩
      have := hg.mpr h
      cases this
    | true =>
      refine ⟨(fun h => by cases h), fun _ => ⟨iv, nm_e ?_⟩⟩
      rw [yb_n1]
      have e : ∀ x, x ≠ 20 → (zs_i t 20 j 1).1 x = t.1 x := fun x hx => yi_r _ _ _ _ hx
      have u := yk_un (t := zs_i t 20 j 1) (st := t) (d := 24 + 3 * j) (e _ (by omega)) (e _ (by omega)) (e _ (by omega))
      have hW : yW (zs_i t 20 j 1) j := by unfold yW; rw [yi_s]; decide
      refine hK _ (fun x _ hx2 hx => ⟨by rw [e x hx2]; exact ag.e1 (by omega), ag.e2 (by omega)⟩) (ag.e2 (by omega)) (ag.e2 (by omega)) (fun p => ?_) (fun p hp => ?_) (u.2.1 hok) (u.2.2 hsy) (fun q r s => by rw [u.1]; exact hFt q r s) (fun _ => hW) (fun _ => hW) (fun _ => ⟨fun _ => Or.inr (hg.mp rfl), fun _ => hW⟩)
      · have := hRt p
        unfold yR at this ⊢
        rw [e 19 (by omega)]; exact this
      · unfold yW
        rw [yi_n _ _ _ hp, a20]
  · have hR' : ¬ yR st j := fun h => h hR
    refine ⟨iv, nm_e ⟨iv, nm_e ⟨iv, hj, ?_⟩⟩⟩
    rw [yb_n1]
    refine yk_copyF (by omega) (fun t ag hF hok hsy => ?_)
    have e : ∀ x, x ≠ 19 → x ≠ 20 → (zs_i (zs_i st 19 j 1) 20 j 1).1 x = st.1 x := fun x h1 h2 => by rw [yi_r _ _ _ _ h2, yi_r _ _ _ _ h1]
    have u := yk_un (t := zs_i (zs_i st 19 j 1) 20 j 1) (st := st) (d := 21) (e _ (by omega) (by omega)) (e _ (by omega) (by omega)) (e _ (by omega) (by omega))
    have hW : yW t j := by unfold yW; rw [ag.e1 (by omega), yi_s]; decide
    refine hK t (fun x h1 h2 hx => ⟨by rw [ag.e1 (by omega), e x h1 h2], by rw [ag.e2 (by omega)]; rfl⟩) (by rw [ag.e2 (by omega)]; rfl) (by rw [ag.e2 (by omega)]; rfl) (fun p => ?_) (fun p hp => ?_) (hok (u.2.1 ho1)) (hsy (u.2.2 hs1)) (fun q r s => ?_) (fun _ => hW) (fun _ => hW) (fun h => absurd h hR')
    · unfold yR
      rw [ag.e1 (by omega), yi_r _ _ _ _ (by omega), yi_m]
      by_cases c : p = j
      · rw [if_pos ⟨rfl, c⟩]
        exact ⟨fun _ => Or.inr c, fun _ => by decide⟩
      · rw [if_neg (fun q => c q.2)]
        exact ⟨Or.inl, fun h => h.elim id (fun e => absurd e c)⟩
    · unfold yW
      rw [ag.e1 (by omega), yi_n _ _ _ hp, yi_r _ _ _ _ (by omega)]
    · rw [hF, u.1]
      exact ⟨fun h => ⟨fun c => absurd c hR', h⟩, fun h => h.2⟩
