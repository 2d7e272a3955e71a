/-! the calls: fact, print, kept, cell -/
section YQ
variable {G : yp_G} {st : zs_T} {B : zs_T → Prop} {K : Int32 → zs_T → Prop}
/-- what may be asked of facts -/
def yx_sn (l2 l3 l4 : Int32) : Prop := ∃ q : Nat, q < 4 ∧ l2 = nI q ∧ (2 ≤ q → l4 = 0) ∧ (q = 3 → l3 = 0)
theorem yx_sn_c {l2 l3 l4 : Int32} {X Y : Prop} (h1 : yx_sn l2 l3 l4 → X) (h0 : ¬ yx_sn l2 l3 l4 → Y) : (l2 < 0 → Y) ∧ (¬ l2 < 0 → ((3 < l2 → Y) ∧ (¬ 3 < l2 → ((l2 < 2 → ((l2 < 3 → X) ∧ (¬ l2 < 3 → ((¬ l3 = 0 → Y) ∧ (l3 = 0 → X))))) ∧ (¬ l2 < 2 → ((¬ l4 = 0 → Y) ∧ (l4 = 0 → ((l2 < 3 → X) ∧ (¬ l2 < 3 → ((¬ l3 = 0 → Y) ∧ (l3 = 0 → X)))))))))))  := by
  by_cases q : yx_in 4 l2
  · obtain ⟨k, hk, e⟩ := id q
    refine yx_c2 (N := 3) (by omega) rfl (fun _ => ?_) (fun z => absurd q z)
    subst e
    have un : ∀ k', nI k = nI k' → k' < 4 → k = k' := fun k' z hk' => (nI_eq (by omega) (by omega)).mp z
    refine pk_lt k 2 (fun c => pk_lt k 3 (fun _ => h1 ⟨k, hk, rfl, fun z => by omega, fun z => by omega⟩) (fun z => by omega)) (fun c => And.intro (fun q4 => h0 ?_) (fun q4 => pk_lt k 3 (fun c3 => h1 ⟨k, hk, rfl, fun _ => q4, fun z => by omega⟩) (fun c3 => And.intro (fun q3 => h0 ?_) (fun q3 => h1 ⟨k, hk, rfl, fun _ => q4, fun _ => q3⟩))))
    · rintro ⟨k', hk', z1, z2, z3⟩
      have := un k' z1 hk'
      exact q4 (z2 (by omega))
    · rintro ⟨k', hk', z1, z2, z3⟩
      have := un k' z1 hk'
      exact q3 (z3 (by omega))
  · exact yx_c2 (N := 3) (by omega) rfl (fun z => absurd z q) (fun _ => h0 (fun ⟨k, hk, z, _⟩ => q ⟨k, hk, z⟩))
theorem yx_sn_m {l2 l3 l4 : Int32} {X Y : Prop} (h1 : yx_sn l2 l3 l4 → X) (h0 : ¬ yx_sn l2 l3 l4 → Y) : (l2 < 0 → Y) ∧ (¬ l2 < 0 → ((3 < l2 → Y) ∧ (¬ 3 < l2 → ((l2 ≤ 1 → ((l2 ≤ 2 → X) ∧ (¬ l2 ≤ 2 → ((l3 = 0 → X) ∧ (¬ l3 = 0 → Y))))) ∧ (¬ l2 ≤ 1 → ((¬ l4 = 0 → Y) ∧ (l4 = 0 → ((l2 ≤ 2 → X) ∧ (¬ l2 ≤ 2 → ((l3 = 0 → X) ∧ (¬ l3 = 0 → Y))))))))))) := by
  by_cases q : yx_in 4 l2
  · obtain ⟨k, hk, e⟩ := id q
    refine yx_c2 (N := 3) (by omega) rfl (fun _ => ?_) (fun z => absurd q z)
    subst e
    have un : ∀ k', nI k = nI k' → k' < 4 → k = k' := fun k' z hk' => (nI_eq (by omega) (by omega)).mp z
    refine pk_le k 1 (fun c => pk_le k 2 (fun _ => h1 ⟨k, hk, rfl, fun z => by omega, fun z => by omega⟩) (fun z => by omega)) (fun c => And.intro (fun q4 => h0 ?_) (fun q4 => pk_le k 2 (fun c3 => h1 ⟨k, hk, rfl, fun _ => q4, fun z => by omega⟩) (fun c3 => And.intro (fun q3 => h1 ⟨k, hk, rfl, fun _ => q4, fun _ => q3⟩) (fun q3 => h0 ?_))))
    · rintro ⟨k', hk', z1, z2, z3⟩
      have := un k' z1 hk'
      exact q4 (z2 (by omega))
    · rintro ⟨k', hk', z1, z2, z3⟩
      have := un k' z1 hk'
      exact q3 (z3 (by omega))
  · exact yx_c2 (N := 3) (by omega) rfl (fun z => absurd z q) (fun _ => h0 (fun ⟨k, hk, z, _⟩ => q ⟨k, hk, z⟩))
/-- the answer -/
def yx_fc (G : yp_G) (p q r s : Nat) : Prop := yp_R G p ∧ (q = 3 ∨ (q < 3 ∧ yp_F G p q r s))
theorem yx_ctell {p q r s : Nat} {X : Int32 → zs_T → Prop} (hn : yn G ≤ 200) (hX : yc_X G st) (hp : p ≤ yn G) (hq : q < 4) (hr : r < 16) (hs : s < 16) (hs2 : 2 ≤ q → s = 0) (h1 : yx_fc G p q r s → X 1 st) (h0 : ¬ yx_fc G p q r s → X 0 st) : zf_KN_tells (nI p) (nI q) (nI r) (nI s) st X := by
  have hR : ¬ st.1 19 p = 0 ↔ yp_R G p := hX.2.1.1 p (by omega)
  have iv : vp_in (nI p) 201 := vp_in_nI (by omega) (by omega)
  have ivr : vp_in (nI r) 16 := vp_in_nI (by omega) (by omega)
  unfold zf_KN_tells
  rw [nI_clamp (n := p) (by omega), nI_clamp (n := r) (by omega)]
  refine ⟨iv, And.intro (fun c => ?_) (fun c => h0 (fun z => hR.mpr z.1 c))⟩
  have hRp := hR.mp c
  obtain ⟨q1, q2, q3⟩ := hX.2.1.2 p hRp
  have hbit : ∀ (v : Int32) (k b : Nat), b < 32 → q = k → k < 3 → (bt v b = true ↔ yp_F G p k r s) → ((((v >>> (nI b &&& 31)) &&& 1) = 0 → X 0 st) ∧ (¬ ((v >>> (nI b &&& 31)) &&& 1) = 0 → X 1 st)) := by
    intro v k b hb e hk z
    subst e
    rw [yb_tst _ hb]
    refine br_c (fun c2 => h0 (fun z2 => ?_)) (fun c2 => h1 ⟨hRp, Or.inr ⟨hk, z.mp (ts_nf c2)⟩⟩)
    rcases z2.2 with z3 | z3
    · omega
    · rw [z.mpr z3.2] at c2
      cases c2
  refine pk_eq q 0 (fun c0 => ⟨iv, by omega, ivr, hbit _ 0 s (by omega) c0 (by omega) ?_⟩) (fun c0 => pk_eq q 1 (fun c1 => ⟨iv, by omega, ivr, hbit _ 1 s (by omega) c1 (by omega) ?_⟩) (fun c1 => pk_eq q 2 (fun c2 => ⟨iv, by omega, hbit _ 2 r (by omega) c2 (by omega) ?_⟩) (fun c2 => h1 ⟨hRp, Or.inl (by omega)⟩)))
  · rw [← q3 0 r s (by omega) hr hs]
    exact ⟨fun z => ⟨by omega, hr, hs, z⟩, fun z => z.2.2.2⟩
  · rw [← q3 1 r s (by omega) hr hs]
    exact ⟨fun z => ⟨by omega, hr, hs, z⟩, fun z => z.2.2.2⟩
  · rw [← q3 2 r s (by omega) hr hs]
    exact ⟨fun z => ⟨by omega, hr, hs, z⟩, fun z => z.2.2.2⟩
theorem yx_mtell {p q r s : Nat} {X : Int32 → zs_T → Prop} (hn : yn G ≤ 200) (hY : ym_Y G (zs_i st 635 0 0)) (hp : p ≤ yn G) (hq : q < 4) (hr : r < 16) (hs : s < 16) (hs2 : 2 ≤ q → s = 0) (h1 : yx_fc G p q r s → X 1 (zs_i st 635 0 0)) (h0 : ¬ yx_fc G p q r s → X 0 (zs_i st 635 0 0)) : zf_MO_fact_88 X (nI p) (nI q) (nI r) (nI s) 0 st := by
  unfold zf_MO_fact_88
  refine nm_e ?_
  generalize hu : zs_i st 635 0 0 = u at hY h1 h0 ⊢
  have hu0 : u.1 635 0 = 0 := by rw [← hu, yi_s]
  have iv : vp_in (nI p) 201 := vp_in_nI (by omega) (by omega)
  have hb := hY.2.2.1 p hp
  rw [hu0, nI_clamp (n := p) (by omega), hY.2.1 p (by omega), yi_256, nI_clamp (n := 256 * p + 16 * r + s) (by omega), yi_16, nI_clamp (n := 16 * p + r) (by omega), ym_v0 hb hr hs, ym_v2 hb hr]
  refine ⟨fun z => absurd z (by decide), fun _ => ⟨iv, And.intro (fun c => ?_) (fun c => h0 (fun z => yq_0.mp c z.1))⟩⟩
  have hRp := yq_n0.mp c
  have hx := hY.2.2.2.1 p hRp
  have fin : ∀ k s', q = k → k < 3 → (ym_F u p k r s' ↔ yp_F G p k r s) → X (yq (ym_F u p k r s')) u := by
    intro k s' e hk z
    subst e
    by_cases c2 : ym_F u p q r s'
    · rw [yq_t c2]
      exact h1 ⟨hRp, Or.inr ⟨hk, z.mp c2⟩⟩
    · rw [yq_f c2]
      refine h0 (fun z2 => ?_)
      rcases z2.2 with z3 | z3
      · omega
      · exact c2 (z.mpr z3.2)
  refine And.intro (fun c0 => And.intro (fun c1 => And.intro (fun c3 => h1 ⟨hRp, Or.inl ((nI_eq (a := q) (b := 3) (by omega) (by omega)).mp c3)⟩) (fun c3 => ⟨vp_in_nI (by omega) (by omega), ?_⟩)) (fun c1 => ?_)) (fun c0 => ⟨vp_in_nI (by omega) (by omega), yq_bz _, fin 0 s ((nI_eq (a := q) (b := 0) (by omega) (by omega)).mp c0) (by omega) (hx 0 r s (by omega) hr hs)⟩)
  · have q2 : q = 2 := by
      have n0 : q ≠ 0 := fun e => c0 (by rw [e]; rfl)
      have n1 : q ≠ 1 := fun e => c1 (by rw [e]; rfl)
      have n3 : q ≠ 3 := fun e => c3 (by rw [e]; rfl)
      omega
    have s0 : s = 0 := hs2 (by omega)
    have z := fin 2 0 q2 (by omega) (by rw [s0]; exact hx 2 r 0 (by omega) hr (by omega))
    refine br_c (fun c5 => ?_) (fun c5 => ?_)
    · rw [c5] at z; exact z
    · rw [yq_t (yq_n0.mp c5)] at z; exact z
  · refine ym_held (by omega) hr hs hb ⟨yq_bz _, fin 1 s ((nI_eq (a := q) (b := 1) (by omega) (by omega)).mp c1) (by omega) (hx 1 r s (by omega) hr hs)⟩
theorem yq_fact {l1 l2 l3 l4 : Int32} (h : yL0 G st) (hK : ∀ c u, yMb (fun K' => zf_MO_fact l1 l2 l3 l4 u K') c → K c u) : zf_LA_fact l1 l2 l3 l4 st K := by
  have hok := h.1
  have hn := hok.n
  have hC := h.2.1
  have hD := h.2.2.1
  have h6 : st.1 635 6 = st.1 0 7 := h.2.2.2.1
  have hN : yn G + 1 < 2 ^ 31 := by omega
  by_cases q : yx_in (yn G + 1) l1 ∧ yx_in 16 l3 ∧ yx_in 16 l4
  · obtain ⟨q1, q2, q2'⟩ := q
    have mpres : ∀ (u : zs_T) (s0 : Int32) (K' : Int32 → zs_T → Prop), yL0 G u → ((s0 = 0 → ((¬ (u.1 635 6) = 0 → zf_MO_fact_88 K' l1 l2 l3 l4 0 u) ∧ ((u.1 635 6) = 0 → zf_MO_fact_88 K' l1 l2 l3 l4 3 u))) ∧ (¬ s0 = 0 → zf_MO_fact_88 K' l1 l2 l3 l4 2 u)) → zf_MO_fact_33 K' l1 l2 l3 l4 s0 u := by
      intro u s0 K' hu z
      exact yx_c2 hN hu.2.2.1.1 (fun _ => yx_mreg (fun _ => ⟨fun z => absurd z (by decide), fun _ => yx_mreg (fun _ => ⟨fun _ => z, fun z => absurd z (by decide)⟩) (fun z => absurd q2' z)⟩) (fun z => absurd q2 z)) (fun z => absurd q1 z)
    by_cases q5 : yx_sn l2 l3 l4
    · by_cases q3 : st.1 0 7 = 0
      · have z59 : zg_TS_fact_59 (fun E u => (E = "java/lang/IndexOutOfBoundsException" ∧ K 1 u) ∨ (E = "java/lang/IllegalArgumentException" ∧ K 2 u) ∨ (E = "java/lang/IllegalStateException" ∧ K 3 u)) l1 l2 l3 l4 st := by
          refine Or.inl ⟨fun _ => Or.inr ⟨fun z => absurd rfl z, fun _ => ⟨fun z => absurd q3 z, fun _ => Or.inr (Or.inr ⟨rfl, ?_⟩)⟩⟩, fun z => absurd z (by decide)⟩
          refine hK 3 st (fun K' hK' => ?_)
          have z32 : zf_MO_fact_32 K' l1 l2 l3 l4 st := by
            refine mpres st 0 K' h ⟨fun _ => ⟨fun z => absurd (h6.trans q3) z, fun _ => nm_e ?_⟩, fun z => absurd rfl z⟩
            rw [yi_s]
            exact ⟨fun _ => hK' 0 _ ⟨G, h.r 3⟩ (yi_s _ _ _ _) (fun z => absurd z (by decide)), fun z => absurd (by decide) z⟩
          exact yx_sn_m (fun _ => z32) (fun z => absurd q5 z)
        exact Or.inr (yx_pnt hok hC (fun _ => ⟨fun z => absurd z (by decide), fun _ => yx_reg (fun _ => ⟨fun z => absurd z (by decide), fun _ => yx_reg (fun _ => ⟨fun z => absurd z (by decide), fun _ => Or.inl ⟨fun _ => yx_sn_c (fun _ => z59) (fun z => absurd q5 z), fun z => absurd z (by decide)⟩⟩) (fun z => absurd q2' z)⟩) (fun z => absurd q2 z)⟩) (fun z => absurd q1 z))
      · obtain ⟨H, f, m, g1, g2, g3, g4, g5, g6, g7, g8, g9⟩ := h.2.2.2.2.1 q3
        obtain ⟨p, hp, e1⟩ := id q1
        obtain ⟨r, hr, e3⟩ := id q2
        obtain ⟨s, hs, e4⟩ := id q2'
        obtain ⟨k, hk, e2, k4, k3⟩ := id q5
        have ks : 2 ≤ k → s = 0 := by
          intro z
          have z2 := k4 z
          rw [e4] at z2
          exact (nI_eq (a := s) (b := 0) (by omega) (by omega)).mp z2
        have mref : ∀ (w : Int64) (K' : Int32 → zs_T → Prop), (yx_fc G p k r s → w = 1) → (¬ yx_fc G p k r s → w = 0) → (∀ v u', yL u' → u'.1 635 0 = 0 → ((0 : Int32) = 0 → u'.2 658 0 = if v = 0 then 0 else 1) → K' v u') → zf_MO_fact l1 l2 l3 l4 (zs_l st 658 0 w) K' := by
          intro w K' hw hw0 hK'
          have z32 : zf_MO_fact_32 K' l1 l2 l3 l4 (zs_l st 658 0 w) := by
            refine mpres _ 0 K' (h.l w) ⟨fun _ => ⟨fun _ => ?_, fun z => absurd (h6 ▸ z) q3⟩, fun z => absurd rfl z⟩
            rw [e1, e2, e3, e4]
            have hY : ym_Y G (zs_i (zs_l st 658 0 w) 635 0 0) := ym_Yof g9 (fun d _ _ => yi_r _ _ _ _ (by omega))
            refine yx_mtell hn hY (by omega) hk hr hs ks (fun z => hK' 1 _ ⟨G, (h.l w).r 0⟩ (yi_s _ _ _ _) (fun _ => ?_)) (fun z => hK' 0 _ ⟨G, (h.l w).r 0⟩ (yi_s _ _ _ _) (fun _ => ?_))
            · show (zs_l st 658 0 w).2 658 0 = _
              rw [yl_m, if_pos ⟨rfl, rfl⟩, if_neg (by decide), hw z]
            · show (zs_l st 658 0 w).2 658 0 = _
              rw [yl_m, if_pos ⟨rfl, rfl⟩, if_pos rfl, hw0 z]
          exact yx_sn_m (fun _ => z32) (fun z => absurd q5 z)
        have z59 : zf_TS_fact_59 (fun r2 u1 => ((r2 = 0 → (vp_in 0 1 ∧ (∀ t4 : zs_T, t4 = zs_l u1 658 (0 : Int32).toNatClampNeg 0 → K 0 t4))) ∧ (¬ r2 = 0 → (vp_in 0 1 ∧ (∀ t6 : zs_T, t6 = zs_l u1 658 (0 : Int32).toNatClampNeg 1 → K 0 t6))))) l1 l2 l3 l4 st := by
          refine ⟨fun _ => ⟨fun z => absurd rfl z, fun _ => ⟨fun _ => ?_, fun z => absurd z q3⟩⟩, fun z => absurd z (by decide)⟩
          show zf_KN_tells l1 l2 l3 l4 st _
          rw [yx_cl0, e1, e2, e3, e4]
          rw [e1, e2, e3, e4] at mref hK
          exact yx_ctell hn g8 (by omega) hk hr hs ks (fun z => ⟨zs_b1, fun z2 => absurd z2 (by decide), fun _ => ⟨yx_01, nm_e (hK 0 _ (fun K' hK' => mref 1 K' (fun _ => rfl) (fun z2 => absurd z z2) hK'))⟩⟩) (fun z => ⟨zs_b0, fun _ => ⟨yx_01, nm_e (hK 0 _ (fun K' hK' => mref 0 K' (fun z2 => absurd z2 z) (fun _ => rfl) hK'))⟩, fun z2 => absurd rfl z2⟩)
        exact Or.inl (yx_pnt hok hC (fun _ => ⟨fun z => absurd z (by decide), fun _ => yx_reg (fun _ => ⟨fun z => absurd z (by decide), fun _ => yx_reg (fun _ => ⟨fun z => absurd z (by decide), fun _ => ⟨fun _ => yx_sn_c (fun _ => z59) (fun z => absurd q5 z), fun z => absurd z (by decide)⟩⟩) (fun z => absurd q2' z)⟩) (fun z => absurd q2 z)⟩) (fun z => absurd q1 z))
    · have z63 : zg_TS_fact_63 (fun E u => (E = "java/lang/IndexOutOfBoundsException" ∧ K 1 u) ∨ (E = "java/lang/IllegalArgumentException" ∧ K 2 u) ∨ (E = "java/lang/IllegalStateException" ∧ K 3 u)) l1 l2 l3 l4 st := by
        refine Or.inr ⟨fun z => absurd rfl z, fun _ => Or.inr (Or.inl ⟨rfl, ?_⟩)⟩
        refine hK 2 st (fun K' hK' => ?_)
        have z28 : zf_MO_fact_28 K' l1 l2 l3 l4 st := by
          refine mpres st 1 K' h ⟨fun z => absurd z (by decide), fun _ => nm_e ?_⟩
          rw [yi_s]
          exact ⟨fun _ => hK' 0 _ ⟨G, h.r 2⟩ (yi_s _ _ _ _) (fun z => absurd z (by decide)), fun z => absurd (by decide) z⟩
        exact yx_sn_m (fun z => absurd z q5) (fun _ => z28)
      exact Or.inr (yx_pnt hok hC (fun _ => ⟨fun z => absurd z (by decide), fun _ => yx_reg (fun _ => ⟨fun z => absurd z (by decide), fun _ => yx_reg (fun _ => ⟨fun z => absurd z (by decide), fun _ => Or.inl ⟨fun _ => yx_sn_c (fun z => absurd z q5) (fun _ => z63), fun z => absurd z (by decide)⟩⟩) (fun z => absurd q2' z)⟩) (fun z => absurd q2 z)⟩) (fun z => absurd q1 z))
  · have z27 : zg_TS_fact_27 (fun E u => (E = "java/lang/IndexOutOfBoundsException" ∧ K 1 u) ∨ (E = "java/lang/IllegalArgumentException" ∧ K 2 u) ∨ (E = "java/lang/IllegalStateException" ∧ K 3 u)) l1 l2 l3 l4 st := by
      refine Or.inr ⟨fun z => absurd rfl z, fun _ => Or.inl ⟨rfl, ?_⟩⟩
      refine hK 1 st (fun K' hK' => ?_)
      have z63 : zf_MO_fact_63 K' l1 l2 l3 l4 st := by
        refine nm_e ?_
        rw [yi_s]
        exact ⟨fun _ => hK' 0 _ ⟨G, h.r 1⟩ (yi_s _ _ _ _) (fun z => absurd z (by decide)), fun z => absurd (by decide) z⟩
      have z33 : ∀ s0, zf_MO_fact_33 K' l1 l2 l3 l4 s0 st := by
        intro s0
        exact yx_c2 hN hD.1 (fun z1 => yx_mreg (fun z2 => ⟨fun z => absurd z (by decide), fun _ => yx_mreg (fun z3 => absurd ⟨z1, z2, z3⟩ q) (fun _ => ⟨fun z => absurd rfl z, fun _ => z63⟩)⟩) (fun _ => ⟨fun _ => z63, fun z => absurd rfl z⟩)) (fun _ => z63)
      exact yx_sn_m (fun _ => z33 0) (fun _ => z33 1)
    exact Or.inr (yx_pnt hok hC (fun z1 => ⟨fun z => absurd z (by decide), fun _ => yx_reg (fun z2 => ⟨fun z => absurd z (by decide), fun _ => yx_reg (fun z3 => absurd ⟨z1, z2, z3⟩ q) (fun _ => ⟨fun _ => z27, fun z => absurd rfl z⟩)⟩) (fun _ => ⟨fun _ => z27, fun z => absurd rfl z⟩)⟩) (fun _ => ⟨fun _ => z27, fun z => absurd rfl z⟩))
end YQ
