/-! what comes from an instruction, in the reference -/
def ym_F (t : zs_T) (p : Nat) : yp_Q := fun q r s => q < 3 ∧ r < 16 ∧ s < 16 ∧ (match q with | 0 => ¬ t.1 644 (256 * p + 16 * r + s) = 0 | 1 => ¬ t.1 645 (256 * p + 16 * r + s) = 0 | _ => ¬ t.1 646 (16 * p + r) = 0)
def ym_b (t : zs_T) (p : Nat) : Prop := ∀ r s, r < 16 → s < 16 → zs_bz (t.1 644 (256 * p + 16 * r + s)) ∧ zs_bz (t.1 645 (256 * p + 16 * r + s)) ∧ zs_bz (t.1 646 (16 * p + r))
theorem ym_F0 {t : zs_T} {p r s : Nat} (hr : r < 16) (hs : s < 16) : ym_F t p 0 r s ↔ ¬ t.1 644 (256 * p + 16 * r + s) = 0 := ⟨fun h => h.2.2.2, fun h => ⟨by omega, hr, hs, h⟩⟩
theorem ym_F1 {t : zs_T} {p r s : Nat} (hr : r < 16) (hs : s < 16) : ym_F t p 1 r s ↔ ¬ t.1 645 (256 * p + 16 * r + s) = 0 := ⟨fun h => h.2.2.2, fun h => ⟨by omega, hr, hs, h⟩⟩
theorem ym_F2 {t : zs_T} {p r s : Nat} (hr : r < 16) (hs : s < 16) : ym_F t p 2 r s ↔ ¬ t.1 646 (16 * p + r) = 0 := ⟨fun h => h.2.2.2, fun h => ⟨by omega, hr, hs, h⟩⟩
theorem ym_v0 {t : zs_T} {p r s : Nat} (hb : ym_b t p) (hr : r < 16) (hs : s < 16) : t.1 644 (256 * p + 16 * r + s) = yq (ym_F t p 0 r s) := yq_of (hb r s hr hs).1 (ym_F0 hr hs).symm
theorem ym_v1 {t : zs_T} {p r s : Nat} (hb : ym_b t p) (hr : r < 16) (hs : s < 16) : t.1 645 (256 * p + 16 * r + s) = yq (ym_F t p 1 r s) := yq_of (hb r s hr hs).2.1 (ym_F1 hr hs).symm
theorem ym_v2 {t : zs_T} {p r : Nat} (hb : ym_b t p) (hr : r < 16) : t.1 646 (16 * p + r) = yq (ym_F t p 2 r 0) := yq_of (hb r 0 hr (by omega)).2.2 (ym_F2 hr (by omega)).symm
theorem ym_Fof {a t : zs_T} {p : Nat} (e : ∀ x, 644 ≤ x → x ≤ 646 → t.1 x = a.1 x) : ym_F t p = ym_F a p ∧ (ym_b a p → ym_b t p) := by
  refine ⟨?_, fun h => ?_⟩
  · funext q r s
    unfold ym_F
    rw [e 644 (by omega) (by omega), e 645 (by omega) (by omega), e 646 (by omega) (by omega)]
  · unfold ym_b
    rw [e 644 (by omega) (by omega), e 645 (by omega) (by omega), e 646 (by omega) (by omega)]
    exact h
/-- a square of booleans -/
def ym_o (t : zs_T) (d : Nat) (P : Nat → Nat → Prop) : Prop := ∀ r s, r < 16 → s < 16 → t.1 d (16 * r + s) = yq (P r s)
theorem ym_o.i {t : zs_T} {d : Nat} {P Q : Nat → Nat → Prop} (h : ym_o t d P) (e : ∀ r s, r < 16 → s < 16 → (P r s ↔ Q r s)) : ym_o t d Q := fun r s hr hs => (h r s hr hs).trans (yq_i (e r s hr hs))
theorem ym_o.w {t : zs_T} {d x z : Nat} {p : Prop} {P : Nat → Nat → Prop} (h : ym_o t d P) (hx : x < 16) (hz : z < 16) : ym_o (zs_i t d (16 * x + z) (yq p)) d (fun r s => (r = x ∧ s = z ∧ p) ∨ (¬ (r = x ∧ s = z) ∧ P r s)) := by
  intro r s hr hs
  rw [yi_m]
  by_cases c : 16 * r + s = 16 * x + z
  · have c1 : r = x := by omega
    have c2 : s = z := by omega
    rw [if_pos ⟨rfl, c⟩]
    exact yq_i ⟨fun q => Or.inl ⟨c1, c2, q⟩, fun q => q.elim (fun q => q.2.2) (fun q => absurd ⟨c1, c2⟩ q.1)⟩
  · rw [if_neg (fun q => c q.2), h r s hr hs]
    have c1 : ¬ (r = x ∧ s = z) := by rintro ⟨rfl, rfl⟩; exact c rfl
    exact yq_i ⟨fun q => Or.inr ⟨c1, q⟩, fun q => q.elim (fun q => absurd ⟨q.1, q.2.1⟩ c1) (fun q => q.2)⟩
theorem ym_o.of {a t : zs_T} {d : Nat} {P : Nat → Nat → Prop} (h : ym_o a d P) (e : t.1 d = a.1 d) : ym_o t d P := by unfold ym_o; rw [e]; exact h
def ym_u (t : zs_T) (P : Nat → Prop) : Prop := ∀ r, r < 16 → t.1 650 r = yq (P r)
theorem ym_u.i {t : zs_T} {P Q : Nat → Prop} (h : ym_u t P) (e : ∀ r, r < 16 → (P r ↔ Q r)) : ym_u t Q := fun r hr => (h r hr).trans (yq_i (e r hr))
theorem ym_u.w {t : zs_T} {x : Nat} {p : Prop} {P : Nat → Prop} (h : ym_u t P) : ym_u (zs_i t 650 x (yq p)) (fun r => (r = x ∧ p) ∨ (r ≠ x ∧ P r)) := by
  intro r hr
  rw [yi_m]
  by_cases c : r = x
  · rw [if_pos ⟨rfl, c⟩]
    exact yq_i ⟨fun q => Or.inl ⟨c, q⟩, fun q => q.elim (fun q => q.2) (fun q => absurd c q.1)⟩
  · rw [if_neg (fun q => c q.2), h r hr]
    exact yq_i ⟨fun q => Or.inr ⟨c, q⟩, fun q => q.elim (fun q => absurd q.1 c) (fun q => q.2)⟩
theorem ym_u.of {a t : zs_T} {P : Nat → Prop} (h : ym_u a P) (e : t.1 650 = a.1 650) : ym_u t P := by unfold ym_u; rw [e]; exact h
theorem yq_T : (1 : Int32) = yq True := (yq_t trivial).symm
section YP
variable {G : yp_G} {b : Nat} {st : zs_T}
theorem ym_held {i r s : Nat} {K : Int32 → zs_T → Prop} (hi : i < 201) (hr : r < 16) (hs : s < 16) (hb : ym_b st i) (hK : K (yq (ym_F st i 1 r s)) st) : zf_MO_held (nI i) (nI r) (nI s) st K := by
  unfold zf_MO_held
  rw [yi_256, nI_clamp (n := 256 * i + 16 * r + s) (by omega), ym_v1 hb hr hs]
  exact ⟨vp_in_nI (by omega) (by omega), yq_bz _, hK⟩
theorem ym_one {i r s : Nat} {K : Int32 → zs_T → Prop} (hi : i < 201) (hr : r < 16) (hs : s < 16) (hK : K (yq (r = s ∨ ym_F st i 0 r s)) st) : zf_MO_one (nI i) (nI r) (nI s) st K := by
  unfold zf_MO_one
  refine pk_eq r s (fun c => ?_) (fun c => ⟨?_, ?_⟩)
  · rw [yq_t (Or.inl c)] at hK; exact hK
  · rw [yi_256]; exact vp_in_nI (by omega) (by omega)
  · rw [yi_256, nI_clamp (n := 256 * i + 16 * r + s) (by omega)]
    have e := ym_F0 (t := st) (p := i) hr hs
    refine br_c (fun c2 => ?_) (fun c2 => ?_)
    · rw [yq_f (fun q => q.elim c (fun q => (e.mp q) c2))] at hK; exact hK
    · rw [yq_t (Or.inr (e.mpr c2))] at hK; exact hK
theorem ym_tie {x y : Nat} {P : Nat → Nat → Prop} {K : zs_T → Prop} (hx : x < 16) (hy : y < 16) (ho : ym_o st 648 P) (hK : ∀ t, zs_ag 648 648 st t → ym_o t 648 (fun r s => (r = x ∧ s = y) ∨ (r = y ∧ s = x) ∨ P r s) → K t) : zf_MO_tie (nI x) (nI y) st K := by
  unfold zf_MO_tie
  rw [yi_16, yi_16, nI_clamp (n := 16 * x + y) (by omega), nI_clamp (n := 16 * y + x) (by omega), yb_n1, yq_T]
  refine ⟨vp_in_nI (by omega) (by omega), nm_e ⟨vp_in_nI (by omega) (by omega), nm_e (hK _ ?_ ?_)⟩⟩
  · exact (zs_ag.refl.i (by omega) (by omega)).i (by omega) (by omega)
  · exact ((ho.w hx hy).w hy hx).i (fun r s _ _ => by grind)
theorem ym_sets1 {i : Nat} {K : Int32 → zs_T → Prop} (hok : yp_ok G) (hP : ym_P b G st) (hi : i < yn G) (hK : K (yq (yk G i ≤ 9)) st) : zf_MO_sets (nI i) st K := by
  have hn := hok.n
  have hb := hP.2.2
  have hk := hok.k hi
  unfold zf_MO_sets
  rw [hP.2.1, nI_add, nI_clamp (n := b + i) (by omega), (hP.1.2 i hi).1]
  refine ⟨vp_in_nI (by omega) (by omega), pk_le 10 (yk G i) (fun c => ?_) (fun c => ?_)⟩
  · rw [yq_f (by omega)] at hK; exact hK
  · rw [yq_t (by omega)] at hK; exact hK
theorem ym_move {i x y : Nat} {P H : Nat → Nat → Prop} {S : Nat → Prop} {K : zs_T → Prop} (hi : i < 201) (hx : x < 16) (hy : y < 16) (hb : ym_b st i) (h0 : ym_o st 648 P) (h1 : ym_o st 649 H) (h2 : ym_u st S)
    (hK : ∀ t, zs_ag 648 650 st t → ym_o t 648 (fun r s => P r s ∨ (r = x ∧ s = y) ∨ (r = y ∧ s = x) ∨ (r = x ∧ s ≠ x ∧ ym_F st i 0 y s) ∨ (s = x ∧ r ≠ x ∧ ym_F st i 0 y r)) → ym_o t 649 (fun r s => if r = x then (if s = x then ym_F st i 1 y y else ym_F st i 1 y s) else if s = x then ym_F st i 1 r y else H r s) → ym_u t (fun r => if r = x then ym_F st i 2 y 0 else S r) → K t) : zf_MO_passMove (nI i) (nI x) (nI y) st K := by
  unfold zf_MO_passMove
  refine ym_tie hx hy h0 (fun t0 a0 o0 => ?_)
  refine pk_loop (W := fun m z (t : zs_T) => zf_MO_passMove_9 K m (nI i) (nI x) (nI y) (nI z) t) (fun k t => zs_ag 648 649 st t ∧ ym_o t 648 (fun r s => P r s ∨ (r = x ∧ s = y) ∨ (r = y ∧ s = x) ∨ (r = x ∧ s ≠ x ∧ s < k ∧ ym_F st i 0 y s) ∨ (s = x ∧ r ≠ x ∧ r < k ∧ ym_F st i 0 y r)) ∧ ym_o t 649 (fun r s => (r = x ∧ s ≠ x ∧ s < k ∧ ym_F st i 1 y s) ∨ (s = x ∧ r ≠ x ∧ r < k ∧ ym_F st i 1 r y) ∨ (¬ (r = x ∧ s ≠ x ∧ s < k) ∧ ¬ (s = x ∧ r ≠ x ∧ r < k) ∧ H r s))) 16 0 t0 (by omega) ⟨a0.wide (by omega) (by omega), o0.i (fun r s _ _ => by grind), (h1.of (a0.e1 (by omega))).i (fun r s _ _ => by grind)⟩ ?_ ?_
  · rintro m t ⟨g1, g2, g3⟩
    have u := ym_Fof (a := st) (t := t) (p := i) (fun z _ _ => g1.e1 (by omega))
    refine pk_le 16 16 (fun _ => ym_held hi hy hy (u.2 hb) ?_) (fun h => by omega)
    rw [yi_16, yi_16, nI_clamp (n := 16 * x + x) (by omega), nI_clamp (n := 16 * i + y) (by omega), nI_clamp (n := x) (by omega), yq_nar, u.1]
    refine ⟨vp_in_nI (by omega) (by omega), nm_e ⟨vp_in_nI (by omega) (by omega), vp_in_nI (by omega) (by omega), nm_e ?_⟩⟩
    rw [yi_r _ _ _ _ (by omega), ym_v2 (u.2 hb) hy, u.1, yq_nar]
    refine hK _ ?_ ?_ ?_ ?_
    · exact ((g1.wide (by omega) (by omega)).i (by omega) (by omega)).i (by omega) (by omega)
    · refine ((g2.of ?_).i (fun r s hr hs => ?_))
      · rw [yi_r _ _ _ _ (by omega), yi_r _ _ _ _ (by omega)]
      · grind
    · refine ym_o.of (a := zs_i t 649 (16 * x + x) (yq (ym_F st i 1 y y))) ?_ (yi_r _ _ _ _ (by omega))
      refine (g3.w hx hx).i (fun r s hr hs => ?_)
      by_cases c1 : r = x
      · by_cases c2 : s = x
        · simp [c1, c2]
        · simp [c1, c2, hs]
      · by_cases c2 : s = x
        · simp [c1, c2, hr]
        · simp [c1, c2]
    · have h3 : ym_u (zs_i t 649 (16 * x + x) (yq (ym_F st i 1 y y))) S := h2.of (by rw [yi_r _ _ _ _ (by omega), g1.e1 (by omega)])
      refine h3.w.i (fun r hr => ?_)
      by_cases c : r = x
      · simp [c]
      · simp [c]
  · rintro m k t hk ⟨g1, g2, g3⟩ ih
    have u := ym_Fof (a := st) (t := t) (p := i) (fun z _ _ => g1.e1 (by omega))
    refine pk_le 16 k (fun h => by omega) (fun _ => ?_)
    simp only [zf_MO_passMove_93]
    refine And.intro (fun c => ?_) (fun c => ?_)
    · have ckx : k ≠ x := fun e => c (by rw [e])
      have h53 : ∀ t1, zs_ag 648 648 t t1 → ym_o t1 648 (fun r s => P r s ∨ (r = x ∧ s = y) ∨ (r = y ∧ s = x) ∨ (r = x ∧ s ≠ x ∧ s < k + 1 ∧ ym_F st i 0 y s) ∨ (s = x ∧ r ≠ x ∧ r < k + 1 ∧ ym_F st i 0 y r)) → zf_MO_passMove_53 K (zf_MO_passMove_9 K m) (nI i) (nI x) (nI y) (nI k) t1 := by
        intro t1 a1 o1
        have u1 := ym_Fof (a := st) (t := t1) (p := i) (fun z _ _ => (a1.e1 (by omega)).trans (g1.e1 (by omega)))
        unfold zf_MO_passMove_53
        refine ym_held hi hy hk (u1.2 hb) ?_
        rw [yi_16, yi_16, nI_clamp (n := 16 * x + k) (by omega), nI_clamp (n := 16 * k + x) (by omega), yq_nar, u1.1]
        refine ⟨vp_in_nI (by omega) (by omega), nm_e ?_⟩
        have u2 := ym_Fof (a := t1) (t := zs_i t1 649 (16 * x + k) (yq (ym_F st i 1 y k))) (p := i) (fun z _ _ => yi_r _ _ _ _ (by omega))
        refine ym_held hi hk hy (u2.2 (u1.2 hb)) ?_
        rw [yq_nar, u2.1, u1.1]
        refine ⟨vp_in_nI (by omega) (by omega), nm_e ?_⟩
        unfold zf_MO_passMove_93
        rw [nI_1]
        refine ih _ ⟨((g1.trans (a1.wide (by omega) (by omega))).i (by omega) (by omega)).i (by omega) (by omega), o1.of ?_, ?_⟩
        · rw [yi_r _ _ _ _ (by omega), yi_r _ _ _ _ (by omega)]
        · refine (((g3.of (t := t1) (a1.e1 (by omega))).w hx hk).w hk hx).i (fun r s hr hs => ?_)
          grind
      rw [yi_256, nI_clamp (n := 256 * i + 16 * y + k) (by omega)]
      have e := ym_F0 (t := t) (p := i) hy hk
      rw [u.1] at e
      refine ⟨vp_in_nI (by omega) (by omega), br_c (fun c2 => h53 t zs_ag.refl (g2.i (fun r s hr hs => ?_))) (fun c2 => ym_tie hx hk g2 (fun t1 a1 o1 => h53 t1 a1 (o1.i (fun r s hr hs => ?_))))⟩
      · have e' : ¬ ym_F st i 0 y k := fun q => (e.mp q) c2
        grind
      · have e' : ym_F st i 0 y k := e.mpr c2
        grind
    · have ckx : k = x := (nI_eq (by omega) (by omega)).mp c
      rw [nI_1]
      refine ih t ⟨g1, g2.i (fun r s hr hs => ?_), g3.i (fun r s hr hs => ?_)⟩
      · grind
      · grind
end YP
