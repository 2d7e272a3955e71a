/-! what holds between two calls -/
def ym_Y (G : yp_G) (t : zs_T) : Prop := ym_S G t ∧ (∀ p, p < 201 → t.1 643 p = yq (yp_R G p)) ∧ (∀ p, p ≤ yn G → ym_b t p) ∧ ym_X0 G t ∧ (∀ p q r s, p ≤ yn G → ym_F t p q r s → yp_R G p) ∧ ym_fz G t ∧ ∀ p r, p ≤ yn G → r < 16 → (ym_f t p r ↔ yp_fr G p r)
theorem ym_Yof {G : yp_G} {a t : zs_T} (h : ym_Y G a) (e : ∀ d, 641 ≤ d → d ≤ 647 → t.1 d = a.1 d) : ym_Y G t := by
  obtain ⟨x2, x3, x4, x5, x6, x7, x8⟩ := h
  have u : ∀ p, ym_F t p = ym_F a p ∧ (ym_b a p → ym_b t p) := fun p => ym_Fof (fun x _ _ => e x (by omega) (by omega))
  refine ⟨ym_Sof x2 (fun x _ _ => e x (by omega) (by omega)), ?_, fun p hp => (u p).2 (x4 p hp), fun p hR => ?_, fun p q r s hp => ?_, ?_, ?_⟩
  · rw [e 643 (by omega) (by omega)]
    exact x3
  · rw [(u p).1]
    exact x5 p hR
  · rw [(u p).1]
    exact x6 p q r s hp
  · unfold ym_fz
    rw [e 647 (by omega) (by omega)]
    exact x7
  · unfold ym_f
    rw [e 647 (by omega) (by omega)]
    exact x8
def yL1 (G : yp_G) (t : zs_T) : Prop := ∃ H f m, yp_ok H ∧ yn H = yn G ∧ yt_C H f t ∧ yt_Q H f t ∧ m ≤ 300 ∧ t.1 0 8 = nI m ∧ t.1 635 7 = nI m ∧ yc_X G t ∧ ym_Y G t
def yL2 (t : zs_T) : Prop := ∃ M, ys_ok M ∧ ys_Q M t ∧ ys_E M t ∧ t.1 635 30 = t.1 629 6 ∧ t.1 635 29 = t.1 629 10
def yL0 (G : yp_G) (t : zs_T) : Prop := yp_ok G ∧ yp_C 1 G t ∧ yp_D 0 G t ∧ t.1 635 6 = t.1 0 7 ∧ (¬ t.1 0 7 = 0 → yL1 G t) ∧ yL2 t
def yL (t : zs_T) : Prop := ∃ G, yL0 G t
theorem yL1.of {G : yp_G} {a t : zs_T} (hn : yn G ≤ 200) (h : yL1 G a) (e0 : t.1 0 8 = a.1 0 8) (e1 : ∀ d, 6 ≤ d → d ≤ 628 → t.1 d = a.1 d) (e2 : ∀ d, 6 ≤ d → d ≤ 628 → t.2 d = a.2 d) (e5 : t.1 635 5 = a.1 635 5) (e7 : t.1 635 7 = a.1 635 7) (e3 : ∀ d, 636 ≤ d → d ≤ 647 → t.1 d = a.1 d) : yL1 G t := by
  obtain ⟨H, f, m, h1, h2, h3, h4, h5, h6, h7, h8, h9⟩ := h
  exact ⟨H, f, m, h1, h2, h3.of (fun d _ _ => e1 d (by omega) (by omega)), h4.of (fun d _ _ => e3 d (by omega) (by omega)) e5, h5, e0.trans h6, e7.trans h7, yc_Xof h8 (fun d _ _ => e1 d (by omega) (by omega)) (fun d _ _ => e2 d (by omega) (by omega)) hn, ym_Yof h9 (fun d _ _ => e3 d (by omega) (by omega))⟩
theorem ys_Q.of {M : ys_M} {a t : zs_T} (h : ys_Q M a) (e1 : ∀ d, 629 ≤ d → d ≤ 634 → t.1 d = a.1 d) (e2 : ∀ d, 629 ≤ d → d ≤ 634 → t.2 d = a.2 d) : ys_Q M t := by
  unfold ys_Q
  rw [e2 631 (by omega) (by omega), e1 632 (by omega) (by omega), e1 633 (by omega) (by omega), e1 629 (by omega) (by omega), e1 634 (by omega) (by omega)]
  exact h
theorem ys_E.of {M : ys_M} {a t : zs_T} (h : ys_E M a) (e1 : ∀ d, 651 ≤ d → d ≤ 657 → t.1 d = a.1 d) (e2 : ∀ x, 26 ≤ x → t.1 635 x = a.1 635 x) : ys_E M t := by
  unfold ys_E
  rw [e1 653 (by omega) (by omega), e1 654 (by omega) (by omega), e1 655 (by omega) (by omega), e1 656 (by omega) (by omega), e1 657 (by omega) (by omega), e2 26 (by omega), e2 28 (by omega)]
  exact h
theorem yL2.of {a t : zs_T} (h : yL2 a) (e1 : ∀ d, 629 ≤ d → d ≤ 634 → t.1 d = a.1 d) (e2 : ∀ d, 629 ≤ d → d ≤ 634 → t.2 d = a.2 d) (e3 : ∀ d, 651 ≤ d → d ≤ 657 → t.1 d = a.1 d) (e4 : ∀ x, 26 ≤ x → t.1 635 x = a.1 635 x) : yL2 t := by
  obtain ⟨M, h1, h2, h3, h4, h5⟩ := h
  refine ⟨M, h1, h2.of e1 e2, h3.of e3 e4, ?_, ?_⟩
  · rw [e4 30 (by omega), e1 629 (by omega) (by omega)]
    exact h4
  · rw [e4 29 (by omega), e1 629 (by omega) (by omega)]
    exact h5
theorem yp_C.off {d : Nat} {G : yp_G} {a t : zs_T} (h : yp_C d G a) (e : ∀ x, d ≤ x → x ≤ d + 4 → t.1 x = a.1 x) : yp_C d G t := by
  unfold yp_C
  rw [e d (by omega) (by omega), e (d + 1) (by omega) (by omega), e (d + 2) (by omega) (by omega), e (d + 3) (by omega) (by omega), e (d + 4) (by omega) (by omega)]
  exact h
theorem yp_D.of {b : Nat} {G : yp_G} {a t : zs_T} (h : yp_D b G a) (e5 : t.1 635 5 = a.1 635 5) (e : ∀ x, 636 ≤ x → x ≤ 639 → t.1 x = a.1 x) : yp_D b G t := by
  unfold yp_D
  rw [e5, e 636 (by omega) (by omega), e 637 (by omega) (by omega), e 638 (by omega) (by omega), e 639 (by omega) (by omega)]
  exact h
theorem yL0.of {G : yp_G} {a t : zs_T} (h : yL0 G a) (e1 : ∀ d, d ≠ 635 → d < 658 → t.1 d = a.1 d) (e3 : ∀ x, x ≠ 0 → t.1 635 x = a.1 635 x) (e2 : ∀ d, d < 658 → t.2 d = a.2 d) : yL0 G t := by
  obtain ⟨h1, h2, h3, h4, h5, h6⟩ := h
  refine ⟨h1, h2.off (fun x _ _ => e1 x (by omega) (by omega)), h3.of (e3 5 (by omega)) (fun x _ _ => e1 x (by omega) (by omega)), ?_, fun q => ?_, ?_⟩
  · rw [e3 6 (by omega), e1 0 (by omega) (by omega)]
    exact h4
  · rw [e1 0 (by omega) (by omega)] at q
    exact (h5 q).of h1.n (by rw [e1 0 (by omega) (by omega)]) (fun d _ _ => e1 d (by omega) (by omega)) (fun d _ _ => e2 d (by omega)) (e3 5 (by omega)) (e3 7 (by omega)) (fun d _ _ => e1 d (by omega) (by omega))
  · exact h6.of (fun d _ _ => e1 d (by omega) (by omega)) (fun d _ _ => e2 d (by omega)) (fun d _ _ => e1 d (by omega) (by omega)) (fun x _ => e3 x (by omega))
theorem yL0.l {G : yp_G} {a : zs_T} (h : yL0 G a) (w : Int64) : yL0 G (zs_l a 658 0 w) := h.of (fun _ _ _ => rfl) (fun _ _ => rfl) (fun d _ => yl_r _ _ _ _ (by omega))
theorem yL0.r {G : yp_G} {a : zs_T} (h : yL0 G a) (v : Int32) : yL0 G (zs_i a 635 0 v) := h.of (fun d hd _ => yi_r _ _ _ _ hd) (fun x hx => yi_n _ _ _ hx) (fun _ _ => rfl)
/-- an index -/
def yx_in (N : Nat) (l : Int32) : Prop := ∃ i, i < N ∧ l = nI i
theorem yx_neg {N : Nat} {l : Int32} (hN : N < 2 ^ 31) (h : l < 0) : ¬ yx_in N l := by
  rintro ⟨i, hi, e⟩
  rw [e] at h
  exact nI_pos (by omega) h
theorem yx_iff {N : Nat} {l : Int32} (hN : N < 2 ^ 31) (h : ¬ l < 0) : (yx_in N l ↔ l < nI N) ∧ (yx_in N l ↔ ¬ nI N ≤ l) := by
  obtain ⟨j, hj, e⟩ := nI_of h
  have h1 : yx_in N l ↔ j < N := by
    constructor
    · rintro ⟨i, hi, e'⟩
      rw [e'] at e
      have := (nI_eq (by omega) hj).mp e
      omega
    · intro q
      exact ⟨j, q, e⟩
  rw [h1, e, nI_ltI hj hN, nI_leI hN hj]
  exact ⟨Iff.rfl, by omega⟩
section YX
variable {N : Nat} {l x : Int32} {A B : Prop}
theorem yx_c (hN : N < 2 ^ 31) (hx : x = nI N) (h1 : yx_in N l → B) (h0 : ¬ yx_in N l → A) : (l < 0 → A) ∧ (¬ l < 0 → ((x ≤ l → A) ∧ (¬ x ≤ l → B))) := by
  subst hx
  exact ⟨fun q => h0 (yx_neg hN q), fun q => ⟨fun q2 => h0 (fun z => (yx_iff hN q).2.mp z q2), fun q2 => h1 ((yx_iff hN q).2.mpr q2)⟩⟩
theorem yx_c3 (hN : N < 2 ^ 31) (hx : x = nI N) (h1 : yx_in N l → B) (h0 : ¬ yx_in N l → A) : (l < 0 → A) ∧ (¬ l < 0 → ((l < x → B) ∧ (¬ l < x → A))) := by
  subst hx
  exact ⟨fun q => h0 (yx_neg hN q), fun q => ⟨fun q2 => h1 ((yx_iff hN q).1.mpr q2), fun q2 => h0 (fun z => q2 ((yx_iff hN q).1.mp z))⟩⟩
theorem yx_s (hN : N + 1 < 2 ^ 31) (h : ¬ l < 0) : yx_in (N + 1) l ↔ l ≤ nI N := by
  obtain ⟨j, hj, e⟩ := nI_of h
  rw [(yx_iff hN h).1, e, nI_ltI hj hN, nI_leI hj (by omega)]
  omega
theorem yx_nlt (hN : N + 1 < 2 ^ 31) (h : ¬ l < 0) : yx_in (N + 1) l ↔ ¬ nI N < l := by
  obtain ⟨j, hj, e⟩ := nI_of h
  rw [(yx_iff hN h).1, e, nI_ltI hj hN, nI_ltI (by omega) hj]
  omega
theorem yx_c2 (hN : N + 1 < 2 ^ 31) (hx : x = nI N) (h1 : yx_in (N + 1) l → B) (h0 : ¬ yx_in (N + 1) l → A) : (l < 0 → A) ∧ (¬ l < 0 → ((x < l → A) ∧ (¬ x < l → B))) := by
  subst hx
  exact ⟨fun q => h0 (yx_neg hN q), fun q => ⟨fun q2 => h0 (fun z => (yx_nlt hN q).mp z q2), fun q2 => h1 ((yx_nlt hN q).mpr q2)⟩⟩
theorem yx_c4 (hN : N + 1 < 2 ^ 31) (hx : x = nI N) (h1 : yx_in (N + 1) l → B) (h0 : ¬ yx_in (N + 1) l → A) : (l < 0 → A) ∧ (¬ l < 0 → ((l ≤ x → B) ∧ (¬ l ≤ x → A))) := by
  subst hx
  exact ⟨fun q => h0 (yx_neg hN q), fun q => ⟨fun q2 => h1 ((yx_s hN q).mpr q2), fun q2 => h0 (fun z => q2 ((yx_s hN q).mp z))⟩⟩
end YX
section YX
variable {G : yp_G} {st : zs_T} {l : Int32} {K : Int32 → zs_T → Prop}
theorem yx_reg (h1 : yx_in 16 l → K 1 st) (h0 : ¬ yx_in 16 l → K 0 st) : zf_TS_isRegister l st K := yx_c (N := 16) (by omega) rfl h1 h0
theorem yx_mreg (h1 : yx_in 16 l → K 1 st) (h0 : ¬ yx_in 16 l → K 0 st) : zf_MO_register l st K := yx_c (N := 16) (by omega) rfl h1 h0
theorem yx_tar (h1 : yx_in 201 l → K 1 st) (h0 : ¬ yx_in 201 l → K 0 st) : zf_PR_isTarget l st K := yx_c2 (N := 200) (by omega) rfl h1 h0
theorem yx_ins (hok : yp_ok G) (hC : yp_C 1 G st) (h1 : yx_in (yn G) l → K 1 st) (h0 : ¬ yx_in (yn G) l → K 0 st) : zf_TS_isInstruction l st K := yx_c (by have := hok.n; omega) hC.1 h1 h0
theorem yx_pnt (hok : yp_ok G) (hC : yp_C 1 G st) (h1 : yx_in (yn G + 1) l → K 1 st) (h0 : ¬ yx_in (yn G + 1) l → K 0 st) : zf_TS_isPoint l st K := yx_c2 (by have := hok.n; omega) hC.1 h1 h0
theorem yx_no (hok : yp_ok G) (hD : yp_D 0 G st) (h1 : yx_in (yn G) l → K 0 st) (h0 : ¬ yx_in (yn G) l → K 1 st) : zf_MO_no l st K := yx_c3 (by have := hok.n; omega) hD.1 h1 h0
end YX
/-- the law's comparison -/
theorem yL_fin {B : zs_T → Prop} {r r' : Int32} {u : zs_T} (h0 : u.1 635 0 = r) (hv : r = 0 → u.2 658 0 = r'.toInt64) (hB : B u) : zf_MO_thrown u (fun r'' u'' => ((r'' = r → ((¬ r = 0 → B u'') ∧ (r = 0 → (vp_in 0 1 ∧ (((lg_cmp (u''.2 658 (0 : Int32).toNatClampNeg) r'.toInt64) = 0 → B u'') ∧ (¬ (lg_cmp (u''.2 658 (0 : Int32).toNatClampNeg) r'.toInt64) = 0 → False)))))) ∧ (¬ r'' = r → False))) := by
  refine ⟨fun _ => ⟨fun _ => hB, fun z => ⟨vp_in_nI (n := 0) (by omega) (by omega), fun _ => hB, fun q => q ?_⟩⟩, fun q => q h0⟩
  rw [lg_cmp_eq]
  exact hv z
theorem yL_finb {B : Int64 → Int64 → zs_T → Prop} {B' : zs_T → Prop} {r r' : Int32} {u : zs_T} (h0 : u.1 635 0 = r) (hv : r = 0 → u.2 658 0 = if r' = 0 then 0 else 1) (hB : ∀ s0 s1, s0 = s1 → B s0 s1 u) (hB' : B' u) : zf_MO_thrown u (fun r'' u'' => ((r'' = r → ((¬ r = 0 → B' u'') ∧ (r = 0 → (vp_in 0 1 ∧ ((r' = 0 → B 0 (u''.2 658 (0 : Int32).toNatClampNeg) u'') ∧ (¬ r' = 0 → B 1 (u''.2 658 (0 : Int32).toNatClampNeg) u'')))))) ∧ (¬ r'' = r → False))) := by
  refine ⟨fun _ => ⟨fun _ => hB', fun z => ⟨vp_in_nI (n := 0) (by omega) (by omega), fun q => hB _ _ ?_, fun q => hB _ _ ?_⟩⟩, fun q => q h0⟩
  · have e := hv z
    rw [if_pos q] at e
    exact e.symm
  · have e := hv z
    rw [if_neg q] at e
    exact e.symm
