/-! facts of one point in the class -/
theorem ya_s (st : zs_T) (d : Nat) (f : Nat → Int32) : (zs_a st d f).1 d = f := by rw [ya_1, if_pos rfl]
theorem ya_n (st : zs_T) (d : Nat) (f : Nat → Int32) {d' : Nat} (h : d' ≠ d) : (zs_a st d f).1 d' = st.1 d' := by rw [ya_1, if_neg h]
def yE (t : zs_T) (d r s : Nat) : Bool := bt (t.1 (d + 1) r) s
def yH (t : zs_T) (d r s : Nat) : Bool := bt (t.1 (d + 2) r) s
def yS (t : zs_T) (d s : Nat) : Bool := bt (t.1 d 2) s
def yk_ok (t : zs_T) (d : Nat) : Prop := (∀ r s, r < 16 → 16 ≤ s → yE t d r s = false ∧ yH t d r s = false) ∧ ∀ s, 16 ≤ s → yS t d s = false
/-- two rows, place by place -/
def yk_I (d : Nat) (φ ψ : Nat → Int32 → Int32) (st : zs_T) (k : Nat) (t : zs_T) : Prop := t.2 = st.2 ∧ (∀ x, x ≠ d + 1 → x ≠ d + 2 → t.1 x = st.1 x) ∧ (∀ r, t.1 (d + 1) r = if r < k then φ r (st.1 (d + 1) r) else st.1 (d + 1) r) ∧ ∀ r, t.1 (d + 2) r = if r < k then ψ r (st.1 (d + 2) r) else st.1 (d + 2) r
theorem yk_I_0 {d : Nat} {φ ψ : Nat → Int32 → Int32} {st : zs_T} : yk_I d φ ψ st 0 st := ⟨rfl, fun _ _ _ => rfl, fun r => by rw [if_neg (by omega)], fun r => by rw [if_neg (by omega)]⟩
theorem yk_I_s {d k : Nat} {φ ψ : Nat → Int32 → Int32} {st t u : zs_T} (h : yk_I d φ ψ st k t) (e2 : u.2 = t.2) (e : ∀ x, x ≠ d + 1 → x ≠ d + 2 → u.1 x = t.1 x) (e3 : ∀ r, u.1 (d + 1) r = if r = k then φ k (t.1 (d + 1) k) else t.1 (d + 1) r) (e4 : ∀ r, u.1 (d + 2) r = if r = k then ψ k (t.1 (d + 2) k) else t.1 (d + 2) r) : yk_I d φ ψ st (k + 1) u := by
  obtain ⟨h1, h2, h3, h4⟩ := h
  refine ⟨e2.trans h1, fun x hx hx' => (e x hx hx').trans (h2 x hx hx'), fun r => ?_, fun r => ?_⟩
  · rw [e3 r]
    by_cases c : r = k
    · subst c
      rw [if_pos rfl, if_pos (by omega), h3 r, if_neg (by omega)]
    · rw [if_neg c, h3 r]
      by_cases c2 : r < k
      · rw [if_pos c2, if_pos (by omega)]
      · rw [if_neg c2, if_neg (by omega)]
  · rw [e4 r]
    by_cases c : r = k
    · subst c
      rw [if_pos rfl, if_pos (by omega), h4 r, if_neg (by omega)]
    · rw [if_neg c, h4 r]
      by_cases c2 : r < k
      · rw [if_pos c2, if_pos (by omega)]
      · rw [if_neg c2, if_neg (by omega)]
/-- both rows written, equal first -/
theorem yk_I_w {d k : Nat} {φ ψ : Nat → Int32 → Int32} {st t : zs_T} (h : yk_I d φ ψ st k t) : yk_I d φ ψ st (k + 1) (zs_i (zs_i t (d + 1) k (φ k (t.1 (d + 1) k))) (d + 2) k (ψ k (t.1 (d + 2) k))) := by
  refine yk_I_s h rfl (fun x hx hx' => by rw [yi_r _ _ _ _ hx', yi_r _ _ _ _ hx]) (fun r => ?_) (fun r => ?_)
  · rw [yi_r _ _ _ _ (by omega), yi_m]
    by_cases c : r = k
    · rw [if_pos ⟨rfl, c⟩, if_pos c]
    · rw [if_neg (fun q => c q.2), if_neg c]
  · rw [yi_m]
    by_cases c : r = k
    · rw [if_pos ⟨rfl, c⟩, if_pos c]
    · rw [if_neg (fun q => c q.2), if_neg c, yi_r _ _ _ _ (by omega)]
theorem yk_I_w' {d k : Nat} {φ ψ : Nat → Int32 → Int32} {st t : zs_T} (h : yk_I d φ ψ st k t) : yk_I d φ ψ st (k + 1) (zs_i (zs_i t (d + 2) k (ψ k (t.1 (d + 2) k))) (d + 1) k (φ k (t.1 (d + 1) k))) := by
  refine yk_I_s h rfl (fun x hx hx' => by rw [yi_r _ _ _ _ hx, yi_r _ _ _ _ hx']) (fun r => ?_) (fun r => ?_)
  · rw [yi_m]
    by_cases c : r = k
    · rw [if_pos ⟨rfl, c⟩, if_pos c]
    · rw [if_neg (fun q => c q.2), if_neg c, yi_r _ _ _ _ (by omega)]
  · rw [yi_r _ _ _ _ (by omega), yi_m]
    by_cases c : r = k
    · rw [if_pos ⟨rfl, c⟩, if_pos c]
    · rw [if_neg (fun q => c q.2), if_neg c]
theorem yk_I.ag {d k : Nat} {φ ψ : Nat → Int32 → Int32} {st t : zs_T} (h : yk_I d φ ψ st k t) : zs_ag d (d + 2) st t := fun x hx => ⟨h.2.1 x (by omega) (by omega), by rw [h.1]⟩
section YF
variable {d : Nat} {st : zs_T} {K : zs_T → Prop}
theorem yk_begin (hK : ∀ t, zs_ag d (d + 2) st t → yk_ok t d → (∀ r s, r < 16 → s < 16 → yE t d r s = decide (r ≠ s) ∧ yH t d r s = false) → (∀ s, yS t d s = false) → K t) : zf_FA_begin d st K := by
  unfold zf_FA_begin
  refine pk_loop (W := fun n r (t : zs_T) => zf_FA_begin_2 d K n (nI r) t) (fun r t => yk_I d (fun r _ => 65535 &&& (((1 : Int32) <<< (nI r &&& 31)) ^^^ (-1))) (fun _ _ => 0) st r t) 16 0 st (by omega) yk_I_0 ?_ ?_
  · rintro n t h
    refine pk_le 16 16 (fun _ => nm_e (hK _ (h.ag.i (by omega) (by omega)) ?_ ?_ ?_)) (fun h => by omega)
    · refine ⟨fun r s hr hs => ?_, fun s _ => ?_⟩
      · unfold yE yH
        rw [yi_r _ _ _ _ (by omega), yi_r _ _ _ _ (by omega), h.2.2.1, h.2.2.2, if_pos hr, if_pos hr, b_0, b_and, b_65535, decide_eq_false (by omega)]
        exact ⟨rfl, rfl⟩
      · unfold yS; rw [yi_s, b_0]
    · intro r s hr hs
      unfold yE yH
      rw [yi_r _ _ _ _ (by omega), yi_r _ _ _ _ (by omega), h.2.2.1, h.2.2.2, if_pos hr, if_pos hr, b_0, b_and, b_65535, yb_not _ (by omega), yb_one (by omega) (by omega)]
      refine ⟨?_, rfl⟩
      by_cases e : s = r
      · simp [e]
      · have e' : ¬ r = s := fun q => e q.symm
        simp [e, e', hs]
    · intro s; unfold yS; rw [yi_s, b_0]
  · rintro n r t hr h ih
    refine pk_le 16 r (fun h => by omega) (fun _ => ⟨vp_in_nI (by omega) (by omega), nm_e ⟨vp_in_nI (by omega) (by omega), nm_e ?_⟩⟩)
    rw [nI_1, nI_clamp (n := r) (by omega)]
    exact ih _ (yk_I_w h)
theorem yk_copy {d1 : Nat} (ha : d + 2 < d1 ∨ d1 + 2 < d) (hK : ∀ t, zs_ag d (d + 2) st t → (∀ r s, r < 16 → yE t d r s = yE st d1 r s ∧ yH t d r s = yH st d1 r s) → (∀ s, yS t d s = yS st d1 s) → K t) : zf_FA_copy d d1 st K := by
  unfold zf_FA_copy
  have e0 : (0 : Int32).toNatClampNeg = 0 := rfl
  have e16 : (16 : Int32).toNatClampNeg = 16 := rfl
  rw [e0, e16]
  refine ⟨by decide, by decide, by decide, by omega, by omega, nm_e ⟨by decide, by decide, by decide, by omega, by omega, nm_e (nm_e (hK _ ?_ ?_ ?_))⟩⟩
  · exact (((zs_ag.refl).a (by omega) (by omega)).a (by omega) (by omega)).i (by omega) (by omega)
  · intro r s hr
    unfold yE yH
    rw [yi_r _ _ _ _ (by omega), yi_r _ _ _ _ (by omega), ya_s, ya_n _ _ _ (show d + 1 ≠ d + 2 by omega), ya_s, ya_n _ _ _ (show d1 + 2 ≠ d + 1 by omega), pk_cpy_in (by omega) (by omega), pk_cpy_in (by omega) (by omega), Nat.zero_add, Nat.sub_zero]
    exact ⟨rfl, rfl⟩
  · intro s
    unfold yS
    rw [yi_s, ya_n _ _ _ (by omega), ya_n _ _ _ (by omega)]
theorem yk_forget {a : Nat} (ha : a < 16) (hK : ∀ t, zs_ag d (d + 2) st t → (∀ r s, r < 16 → s < 32 → yE t d r s = (yE st d r s && (decide (r ≠ a) && decide (s ≠ a))) ∧ yH t d r s = (yH st d r s && (decide (r ≠ a) && decide (s ≠ a)))) → (∀ s, s < 32 → yS t d s = (yS st d s && decide (s ≠ a))) → K t) : zf_FA_forget d (nI a) st K := by
  unfold zf_FA_forget
  refine pk_loop (W := fun n r (t : zs_T) => zf_FA_forget_8 d K n (nI a) (((1 : Int32) <<< (nI a &&& 31)) ^^^ (-1)) (nI r) t) (fun r t => yk_I d (fun r x => x &&& (((1 : Int32) <<< (nI a &&& 31)) ^^^ (-1))) (fun r x => x &&& (((1 : Int32) <<< (nI a &&& 31)) ^^^ (-1))) st r t) 16 0 st (by omega) yk_I_0 ?_ ?_
  · rintro n t h
    refine pk_le 16 16 (fun _ => ⟨vp_in_nI (by omega) (by omega), nm_e ⟨vp_in_nI (by omega) (by omega), nm_e (nm_e (hK _ ?_ ?_ ?_))⟩⟩) (fun h => by omega)
    · exact ((h.ag.i (by omega) (by omega)).i (by omega) (by omega)).i (by omega) (by omega)
    · intro r s hr hs
      unfold yE yH
      rw [nI_clamp (n := a) (by omega), yi_r _ _ _ _ (show d + 1 ≠ d by omega), yi_r _ _ _ _ (show d + 1 ≠ d + 2 by omega), yi_r _ _ _ _ (show d + 2 ≠ d by omega), yi_m, yi_m, yi_r _ _ _ _ (show d + 2 ≠ d + 1 by omega), h.2.2.1, h.2.2.2, if_pos hr, if_pos hr]
      by_cases c : r = a
      · simp [c, b_0]
      · rw [if_neg (fun q => c q.2), if_neg (fun q => c q.2), b_and, b_and, yb_not _ hs, yb_one (show a < 32 by omega) hs]
        simp [c]
    · intro s hs
      unfold yS
      rw [yi_s, yi_r _ _ _ _ (by omega), yi_r _ _ _ _ (by omega), h.2.1 d (by omega) (by omega), b_and, yb_not _ hs, yb_one (show a < 32 by omega) hs]
      simp
  · rintro n r t hr h ih
    refine pk_le 16 r (fun h => by omega) (fun _ => ⟨vp_in_nI (by omega) (by omega), vp_in_nI (by omega) (by omega), nm_e ⟨vp_in_nI (by omega) (by omega), vp_in_nI (by omega) (by omega), nm_e ?_⟩⟩)
    rw [nI_1, nI_clamp (n := r) (by omega), yi_r _ _ _ _ (show d + 2 ≠ d + 1 by omega)]
    exact ih _ (yk_I_w h)
theorem yk_keep {d1 : Nat} {K : Int32 → zs_T → Prop} (hd : d + 2 < d1 ∨ d1 + 2 < d) (hK : ∀ (g : Bool) (t : zs_T), zs_ag d (d + 2) st t → (∀ r s, r < 16 → s < 32 → yE t d r s = (yE st d r s && yE st d1 r s) ∧ yH t d r s = (yH st d r s && yH st d1 r s)) → (∀ s, s < 32 → yS t d s = (yS st d s && yS st d1 s)) → (g = true ↔ (∃ s, s < 32 ∧ yS st d s = true ∧ yS st d1 s = false) ∨ ∃ r s, r < 16 ∧ s < 32 ∧ (yE st d r s = true ∧ yE st d1 r s = false ∨ yH st d r s = true ∧ yH st d1 r s = false)) → K (yb g) t) : zf_FA_keepCommon d d1 st K := by
  unfold zf_FA_keepCommon
  refine nm_e ?_
  refine pk_loop (W := fun n r (t : Int32 × zs_T) => zf_FA_keepCommon_27 d d1 K n t.1 (nI r) t.2) (fun r t => yk_I d (fun r x => x &&& st.1 (d1 + 1) r) (fun r x => x &&& st.1 (d1 + 2) r) (zs_i st d 2 ((st.1 d 2) &&& (st.1 d1 2))) r t.2 ∧ ∀ s, s < 32 → (bt t.1 s = true ↔ (yS st d s = true ∧ yS st d1 s = false) ∨ ∃ r', r' < r ∧ (yE st d r' s = true ∧ yE st d1 r' s = false ∨ yH st d r' s = true ∧ yH st d1 r' s = false))) 16 0 (_, _) (by omega) ⟨yk_I_0, fun s hs => ?_⟩ ?_ ?_
  · show bt ((st.1 d 2) &&& ((st.1 d1 2) ^^^ (-1))) s = true ↔ _
    rw [b_and, yb_not _ hs, Bool.and_eq_true, Bool.not_eq_true']
    exact ⟨fun h => Or.inl h, fun h => h.elim id (fun ⟨r', h, _⟩ => by omega)⟩
  · rintro n ⟨l, t⟩ ⟨h, hl⟩
    have a1 : zs_ag d (d + 2) st t := (zs_ag.refl.i (d := d) (by omega) (by omega)).trans h.ag
    have a2 : ∀ r s, r < 16 → s < 32 → yE t d r s = (yE st d r s && yE st d1 r s) ∧ yH t d r s = (yH st d r s && yH st d1 r s) := by
      intro r s hr hs
      unfold yE yH
      rw [h.2.2.1, h.2.2.2, if_pos hr, if_pos hr, b_and, b_and, yi_r _ _ _ _ (by omega), yi_r _ _ _ _ (by omega)]
      exact ⟨rfl, rfl⟩
    have a3 : ∀ s, s < 32 → yS t d s = (yS st d s && yS st d1 s) := by
      intro s hs
      unfold yS
      rw [h.2.1 d (by omega) (by omega), yi_s, b_and]
    refine pk_le 16 16 (fun _ => br_c (fun e => hK false t a1 a2 a3 ?_) (fun e => hK true t a1 a2 a3 ?_)) (fun h => by omega)
    · constructor
      · intro h; cases h
      · rw [yb_z] at e
        rintro (⟨s, s1, s2⟩ | ⟨r, s, r1, s1, s2⟩)
        · have := (hl s s1).mpr (Or.inl s2)
          rw [e s s1] at this; exact this
        · have := (hl s s1).mpr (Or.inr ⟨r, r1, s2⟩)
          rw [e s s1] at this; exact this
    · refine ⟨fun _ => ?_, fun _ => rfl⟩
      obtain ⟨s, s1, s2⟩ := yb_nz.mp e
      rcases (hl s s1).mp s2 with s3 | ⟨r, r1, s3⟩
      · exact Or.inl ⟨s, s1, s3⟩
      · exact Or.inr ⟨r, s, r1, s1, s3⟩
  · rintro n r ⟨l, t⟩ hr ⟨h, hl⟩ ih
    refine pk_le 16 r (fun h => by omega) (fun _ => ?_)
    have hin : vp_in (nI r) 16 := vp_in_nI (by omega) (by omega)
    refine ⟨hin, hin, hin, hin, hin, hin, hin, nm_e ⟨hin, hin, hin, nm_e ?_⟩⟩
    have e1 : t.1 (d + 1) r = st.1 (d + 1) r := by have := h.2.2.1 r; rw [if_neg (by omega), yi_r _ _ _ _ (by omega)] at this; exact this
    have e2 : t.1 (d + 2) r = st.1 (d + 2) r := by have := h.2.2.2 r; rw [if_neg (by omega), yi_r _ _ _ _ (by omega)] at this; exact this
    have e3 : t.1 (d1 + 1) = st.1 (d1 + 1) := by have := h.2.1 (d1 + 1) (by omega) (by omega); rw [yi_r _ _ _ _ (by omega)] at this; exact this
    have e4 : t.1 (d1 + 2) = st.1 (d1 + 2) := by have := h.2.1 (d1 + 2) (by omega) (by omega); rw [yi_r _ _ _ _ (by omega)] at this; exact this
    rw [nI_1, nI_clamp (n := r) (by omega), yi_r _ _ _ _ (show d + 2 ≠ d + 1 by omega), yi_r _ _ _ _ (show d1 + 2 ≠ d + 1 by omega)]
    refine ih (_, _) ⟨?_, fun s hs => ?_⟩
    · show yk_I d _ _ _ (r + 1) (zs_i (zs_i t (d + 1) r (t.1 (d + 1) r &&& t.1 (d1 + 1) r)) (d + 2) r (t.1 (d + 2) r &&& t.1 (d1 + 2) r))
      rw [e3, e4]
      exact yk_I_w h
    show bt (l ||| (((t.1 (d + 1) r) &&& ((t.1 (d1 + 1) r) ^^^ (-1))) ||| ((t.1 (d + 2) r) &&& ((t.1 (d1 + 2) r) ^^^ (-1))))) s = true ↔ _
    rw [b_or, b_or, b_and, b_and, yb_not _ hs, yb_not _ hs, e1, e2, e3, e4, Bool.or_eq_true, hl s hs]
    simp only [Bool.or_eq_true, Bool.and_eq_true, Bool.not_eq_true']
    constructor
    · rintro ((h1 | ⟨r', h1, h2⟩) | h1)
      · exact Or.inl h1
      · exact Or.inr ⟨r', by omega, h2⟩
      · exact Or.inr ⟨r, by omega, h1⟩
    · rintro (h1 | ⟨r', h1, h2⟩)
      · exact Or.inl (Or.inl h1)
      · by_cases c : r' = r
        · subst c; exact Or.inr h2
        · exact Or.inl (Or.inr ⟨r', by omega, h2⟩)
end YF
