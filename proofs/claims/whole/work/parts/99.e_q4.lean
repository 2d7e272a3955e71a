/-! the calls: print, kept, cell -/
section YQ
variable {G : yp_G} {st : zs_T} {B : zs_T → Prop} {K : Int32 → zs_T → Prop}
theorem yq_print {l1 : Int32} (h : yL0 G st) (hK : ∀ c u, yM (fun K' => zf_MO_print l1 u K') c → K c u) : zf_LA_print l1 st K := by
  obtain ⟨M, m1, m2, m3, m4, m5⟩ := h.2.2.2.2.2
  have hq := m1.2.1
  have hN : ysq M < 2 ^ 31 := by omega
  have h9 : st.1 629 9 = nI (ysq M) := m2.2.2.2.2.2.2
  have h28 : st.1 635 28 = nI (ysq M) := m3.2.2.2.2
  by_cases q : yx_in (ysq M) l1
  · obtain ⟨i, hi, e⟩ := id q
    have iv : vp_in l1 200 := by rw [e]; exact vp_in_nI (by omega) (by omega)
    have cl : l1.toNatClampNeg = i := by rw [e]; exact nI_clamp (by omega)
    refine Or.inl (yx_c hN h9 (fun _ => ⟨fun _ => ⟨iv, yx_01, nm_e ?_⟩, fun z => absurd z (by decide)⟩) (fun z => absurd q z))
    rw [yx_cl0, cl, m2.2.2.2.2.2.1 i hi]
    refine hK 0 _ (fun K' hK' => yx_c3 hN h28 (fun _ => nm_e ?_) (fun z => absurd q z))
    rw [yi_s]
    refine ⟨fun _ => ⟨iv, ?_⟩, fun z => absurd (by decide) z⟩
    rw [cl, yi_r _ _ _ _ (by omega)]
    refine hK' _ _ ⟨G, (h.l _).r 0⟩ (yi_s _ _ _ _) (fun _ => ?_)
    show (zs_l st 658 0 (ysp M i).toInt64).2 658 0 = (st.1 657 i).toInt64
    rw [yl_m, if_pos ⟨rfl, rfl⟩, m3.2.2.2.1 i hi]
  · refine Or.inr (yx_c hN h9 (fun z => absurd z q) (fun _ => Or.inr ⟨fun z => absurd rfl z, fun _ => ⟨rfl, ?_⟩⟩))
    refine hK 1 st (fun K' hK' => yx_c3 hN h28 (fun z => absurd z q) (fun _ => nm_e ?_))
    rw [yi_s]
    exact ⟨fun z => absurd z (by decide), fun _ => hK' 0 _ ⟨G, h.r 1⟩ (yi_s _ _ _ _) (fun z => absurd z (by decide))⟩
theorem yq_kept (h : yL0 G st) (hB : ∀ u, yL u → B u) : zf_TS_kept st (fun r u => zf_MO_kept u (fun r' u' => ((r = r' → B u') ∧ (¬ r = r' → False)))) := by
  obtain ⟨M, m1, m2, m3, m4, m5⟩ := h.2.2.2.2.2
  have hn3 := m1.1
  have h26 : st.1 635 26 = nI (ysn M) := m3.2.2.1
  have hyL : yL (zs_i st 635 0 0) := ⟨G, h.r 0⟩
  have r26 : (zs_i st 635 0 0).1 635 26 = nI (ysn M) := (yi_n _ _ _ (by omega)).trans h26
  have r30 : (zs_i st 635 0 0).1 635 30 = st.1 629 6 := (yi_n _ _ _ (by omega)).trans m4
  refine And.intro (fun e => nm_e ?_) (fun e => nm_e ?_)
  · refine ⟨1, ⟨fun _ => ⟨fun _ => hB _ hyL, fun z => z rfl⟩, fun _ => ⟨fun _ => ⟨fun _ => hB _ hyL, fun z => z rfl⟩, fun z => absurd (r30 ▸ z) e⟩⟩⟩
  · have h5 : st.1 629 5 = nI (ys_kc (ysk M) (ysn M)) := m2.2.2.2.2.1
    refine pk_loop (W := fun n i (t : zs_T) => zf_MO_kept_9 (fun r' u' => ((st.1 629 5 = r' → B u') ∧ (¬ st.1 629 5 = r' → False))) n (nI (ys_kc (ysk M) i)) (nI i) t) (fun i t => t = zs_i st 635 0 0) (ysn M) 0 (zs_i st 635 0 0) (by omega) rfl ?_ ?_
    · rintro n t rfl
      exact pk_le (ysn M) (ysn M) (fun _ => ⟨fun _ => hB _ hyL, fun z => z h5⟩) (fun z => by omega) r26
    · rintro n i t hi rfl ih
      have hk := (m3.2.1 i hi).2
      refine pk_le (ysn M) i (fun z => by omega) (fun _ => ⟨fun z => absurd (r30.trans e) z, fun _ => ⟨vp_in_nI (by omega) (by omega), ?_⟩⟩) r26
      rw [nI_clamp (n := i) (by omega), yi_r _ _ _ _ (by omega : 656 ≠ 635), hk, yb_e0]
      have ks : ys_kc (ysk M) (i + 1) = ys_kc (ysk M) i + (if ysk M i = true then 1 else 0) := rfl
      refine br_c (fun c => ?_) (fun c => ?_)
      · have z := ih _ rfl
        rw [ks, c] at z
        unfold zf_MO_kept_40
        rw [nI_1]
        exact z
      · have z := ih _ rfl
        rw [ks, if_pos (ts_nf c)] at z
        unfold zf_MO_kept_40
        rw [nI_1, nI_1]
        exact z
theorem ys_o_lt {k j : Nat} (hk : k ≤ 300) (hj : j < 2 ^ 31) : (ys_o k < nI j ↔ k ≤ j) ∧ (nI j ≤ ys_o k ↔ j + 1 ≤ k) := by
  cases k with
  | zero =>
    rw [ys_o_0]
    have hp := nI_pos' hj
    have hm : (-1 : Int32) < 0 := by decide
    rw [Int32.lt_iff_toInt_lt, Int32.le_iff_toInt_le, nI_toInt hj, show (-1 : Int32).toInt = -1 by decide]
    omega
  | succ k =>
    rw [ys_o_s, nI_ltI (by omega) hj, nI_leI hj (by omega)]
    omega
theorem ys_kc_ex {kp : Nat → Bool} {j n : Nat} (h : j < ys_kc kp n) : ∃ o, o < n ∧ kp o = true ∧ ys_kc kp o = j := by
  induction n with
  | zero => exact absurd h (Nat.not_lt_zero j)
  | succ n ih =>
    have ks : ys_kc kp (n + 1) = ys_kc kp n + (if kp n = true then 1 else 0) := rfl
    by_cases c : j < ys_kc kp n
    · obtain ⟨o, h1, h2⟩ := ih c
      exact ⟨o, by omega, h2⟩
    · cases hk : kp n with
      | true => rw [if_pos hk] at ks; exact ⟨n, by omega, hk, by omega⟩
      | false => rw [if_neg (by rw [hk]; simp)] at ks; omega
theorem ys_kc_inj {kp : Nat → Bool} {o o' : Nat} (h : kp o = true) (h' : kp o' = true) (e : ys_kc kp o = ys_kc kp o') : o = o' := by
  rcases Nat.lt_trichotomy o o' with c | c | c
  · have := ys_kc_lt c h; omega
  · exact c
  · have := ys_kc_lt c h'; omega
theorem yx_mcell {M : ys_M} {l1 l2 l3 : Int32} (m1 : ys_ok M) (m3 : ys_E M st) (he : st.1 635 30 = 0) (hend : ∀ i l4, i ≤ ysn M → (∀ j, ys_kc (ysk M) i = j + 1 → ∃ o, o < ysn M ∧ ysk M o = true ∧ ys_kc (ysk M) o = j ∧ l4 = nI o) → (∀ j, j < 2 ^ 31 → l1 = nI j → ys_kc (ysk M) i ≤ j + 1) → (i = ysn M ∨ l1 ≤ ys_o (ys_kc (ysk M) i)) → zf_MO_cell_54 K l1 l2 l3 l4 (ys_o (ys_kc (ysk M) i)) st) : zf_MO_cell l1 l2 l3 st K := by
  have hn3 := m1.1
  unfold zf_MO_cell
  refine pk_loop (W := fun n i (s : Int32 × zs_T) => zf_MO_cell_9 K n l1 l2 l3 s.1 (ys_o (ys_kc (ysk M) i)) (nI i) s.2) (fun i s => s.2 = st ∧ (∀ j, ys_kc (ysk M) i = j + 1 → ∃ o, o < ysn M ∧ ysk M o = true ∧ ys_kc (ysk M) o = j ∧ s.1 = nI o) ∧ ∀ j, j < 2 ^ 31 → l1 = nI j → ys_kc (ysk M) i ≤ j + 1) (ysn M) 0 (-1, st) (by omega) ⟨rfl, fun j z => absurd z.symm (Nat.succ_ne_zero j), fun j _ _ => Nat.zero_le _⟩ ?_ ?_
  · rintro n ⟨l4, t⟩ ⟨rfl, g2, g3⟩
    exact pk_le (ysn M) (ysn M) (fun _ => hend (ysn M) l4 (Nat.le_refl _) g2 g3 (Or.inl rfl)) (fun z => by omega) m3.2.2.1
  · rintro n i ⟨l4, t⟩ hi ⟨rfl, g2, g3⟩ ih
    have hk := (m3.2.1 i hi).2
    have ks : ys_kc (ysk M) (i + 1) = ys_kc (ysk M) i + (if ysk M i = true then 1 else 0) := rfl
    have hki := ys_kc_le (ysk M) i
    refine pk_le (ysn M) i (fun z => by omega) (fun _ => ⟨fun z => absurd he z, fun _ => br_c (fun c => hend i l4 (by omega) g2 g3 (Or.inr c)) (fun c => ⟨vp_in_nI (by omega) (by omega), ?_⟩)⟩) m3.2.2.1
    rw [nI_clamp (n := i) (by omega)]
    show (t.1 656 i = 0 → _) ∧ (¬ t.1 656 i = 0 → _)
    rw [hk, yb_e0]
    have g3' : ∀ j, j < 2 ^ 31 → l1 = nI j → ys_kc (ysk M) i ≤ j := by
      intro j hj e
      apply Classical.byContradiction
      intro z
      refine c ?_
      rw [e]
      exact (ys_o_lt (by omega) hj).2.mpr (by omega)
    refine br_c (fun c2 => ?_) (fun c2 => ?_)
    · have ks2 : ys_kc (ysk M) (i + 1) = ys_kc (ysk M) i := by rw [ks, c2]; rfl
      have z := ih (l4, t) ⟨rfl, by rw [ks2]; exact g2, by rw [ks2]; exact g3⟩
      rw [ks2] at z
      unfold zf_MO_cell_48
      rw [nI_1]
      exact z
    · have ct := ts_nf c2
      have ks2 : ys_kc (ysk M) (i + 1) = ys_kc (ysk M) i + 1 := by rw [ks, if_pos ct]
      have z := ih (nI i, t) ⟨rfl, fun j hj => ⟨i, hi, ct, by omega, rfl⟩, fun j hj e => by have := g3' j hj e; omega⟩
      rw [ks2] at z
      unfold zf_MO_cell_48
      rw [nI_1, show ys_o (ys_kc (ysk M) i) + 1 = ys_o (ys_kc (ysk M) i + 1) by rw [ys_o_s]; unfold ys_o; exact Int32.sub_add_cancel _ _]
      exact z
/-- a part of a cell -/
def yx_ce (v : ys_v) (l : Int32) : Int32 := if l = 0 then (if v.1 = 0 then 0 else 1) else if l = 1 then (if v.1 = 0 then v.2 else ys_o v.1) else (if v.1 = 0 then 0 else v.2)
theorem yq_cell {l1 l2 l3 : Int32} (h : yL0 G st) (hK : ∀ c u, yM (fun K' => zf_MO_cell l1 l2 l3 u K') c → K c u) : zf_LA_cell l1 l2 l3 st K := by
  obtain ⟨M, m1, m2, m3, m4, m5⟩ := h.2.2.2.2.2
  have hn3 := m1.1
  have hkn := ys_kc_le (ysk M) (ysn M)
  have h5 : st.1 629 5 = nI (ys_kc (ysk M) (ysn M)) := m2.2.2.2.2.1
  have code1 : ∀ (u : zs_T) (l4 : Int32) (K' : Int32 → zs_T → Prop), yL0 G u → (∀ v u', yL u' → u'.1 635 0 = 1 → ((1 : Int32) = 0 → u'.2 658 0 = v.toInt64) → K' v u') → zf_MO_cell_80 K' l2 l3 l4 u := by
    intro u l4 K' hu hK'
    refine nm_e ?_
    rw [yi_s]
    exact ⟨fun z => absurd z (by decide), fun _ => hK' 0 _ ⟨G, hu.r 1⟩ (yi_s _ _ _ _) (fun z => absurd z (by decide))⟩
  by_cases q : ∃ o k, o < ysn M ∧ ysk M o = true ∧ st.1 629 6 = 0 ∧ l1 = nI (ys_kc (ysk M) o) ∧ k < ysz M o ∧ l2 = nI k
  · obtain ⟨o, k, ho, hko, he, e1, hk, e2⟩ := q
    have hz := m1.2.2.1 o ho
    have hko2 := ys_kc_lt ho hko
    have h633 := m2.2.2.1 o ho hko
    have h632 := m2.2.1 o ho
    have q1 : yx_in (ys_kc (ysk M) (ysn M)) l1 := ⟨_, hko2, e1⟩
    have q2 : yx_in (ysz M o) l2 := ⟨k, hk, e2⟩
    have cl1 : l1.toNatClampNeg = ys_kc (ysk M) o := by rw [e1]; exact nI_clamp (by omega)
    have iv1 : vp_in l1 300 := by rw [e1]; exact vp_in_nI (by omega) (by omega)
    have has : ∀ X : Int32 → zs_T → Prop, X 1 st → zf_MA_hasKeptCell l1 l2 st X := by
      intro X hX
      have z := yx_c (N := ys_kc (ysk M) (ysn M)) (l := l1) (x := st.1 629 5) (A := X 0 st) (B := (l2 < 0 → X 0 st) ∧ (¬ l2 < 0 → (vp_in l1 300 ∧ (vp_in (st.1 633 l1.toNatClampNeg) 300 ∧ (((st.1 632 (st.1 633 l1.toNatClampNeg).toNatClampNeg) ≤ l2 → X 0 st) ∧ (¬ (st.1 632 (st.1 633 l1.toNatClampNeg).toNatClampNeg) ≤ l2 → X 1 st)))))) (by omega) h5 (fun _ => ?_) (fun z => absurd q1 z)
      · refine ⟨fun y => z.1 y, fun y => ⟨fun y2 => absurd he y2, fun _ => z.2 y⟩⟩
      · rw [cl1, h633, nI_clamp (n := o) (by omega), h632]
        have z2 := yx_c (N := ysz M o) (l := l2) (x := nI (ysz M o)) (A := X 0 st) (B := X 1 st) (by omega) rfl (fun _ => hX) (fun z => absurd q2 z)
        exact ⟨fun y => z2.1 y, fun y => ⟨iv1, vp_in_nI (by omega) (by omega), z2.2 y⟩⟩
    have hv := m2.1 o k ho hk
    have hw := m3.1 o k ho hk
    have hend : ∀ (u : zs_T) (K' : Int32 → zs_T → Prop), ys_E M u → u.1 635 30 = 0 → ((l3 < 0 → zf_MO_cell_93 K' l2 l3 (nI o) u) ∧ (¬ l3 < 0 → ((l3 ≤ 2 → zf_MO_cell_98 K' l2 l3 (nI o) 0 u) ∧ (¬ l3 ≤ 2 → zf_MO_cell_93 K' l2 l3 (nI o) u)))) → zf_MO_cell l1 l2 l3 u K' := by
      intro u K' mu hu z
      refine yx_mcell m1 mu hu (fun i l4 hi y1 y2 y3 => ?_)
      have y2' := y2 _ (by omega) e1
      have hki := ys_kc_mono (kp := ysk M) hi
      have y4 : ys_kc (ysk M) i = ys_kc (ysk M) o + 1 := by
        rcases y3 with y | y
        · rw [y] at y2' ⊢
          omega
        · rw [e1] at y
          have := (ys_o_lt (by omega) (by omega)).2.mp y
          omega
      obtain ⟨o', y5, y6, y7, y8⟩ := y1 _ y4
      have y9 := ys_kc_inj y6 hko y7
      subst y9
      rw [y8, y4, ys_o_s]
      unfold zf_MO_cell_54
      rw [nI_clamp (n := o') (by omega), (mu.2.1 o' ho).1, e1]
      refine ⟨fun y => absurd y (nI_pos (by omega)), fun _ => pk_lt (ys_kc (ysk M) o') (ys_kc (ysk M) o') (fun y => by omega) (fun _ => ?_)⟩
      have z2 := yx_c3 (N := ysz M o') (l := l2) (x := nI (ysz M o')) (A := zf_MO_cell_80 K' l2 l3 (nI o') u) (B := (l3 < 0 → zf_MO_cell_93 K' l2 l3 (nI o') u) ∧ (¬ l3 < 0 → ((l3 ≤ 2 → zf_MO_cell_98 K' l2 l3 (nI o') 0 u) ∧ (¬ l3 ≤ 2 → zf_MO_cell_93 K' l2 l3 (nI o') u)))) (by omega) rfl (fun _ => z) (fun y => absurd q2 y)
      exact ⟨fun y => z2.1 y, fun y => ⟨vp_in_nI (by omega) (by omega), z2.2 y⟩⟩
    by_cases q3 : yx_in 3 l3
    · refine Or.inl (has _ ⟨fun _ => yx_c2 (N := 2) (by omega) rfl (fun _ => ⟨fun _ => ?_, fun z => absurd z (by decide)⟩) (fun z => absurd q3 z), fun z => absurd z (by decide)⟩)
      have fin : zf_MA_partOfCell l1 l2 l3 st (fun r2 u1 => (vp_in 0 1 ∧ (∀ t4 : zs_T, t4 = zs_l u1 658 (0 : Int32).toNatClampNeg r2.toInt64 → K 0 t4))) := by
        have okv : (vp_in 0 1 ∧ (∀ t4 : zs_T, t4 = zs_l st 658 (0 : Int32).toNatClampNeg (yx_ce (ysc M (16 * o + k)) l3).toInt64 → K 0 t4)) := by
          refine ⟨yx_01, nm_e ?_⟩
          rw [yx_cl0]
          refine hK 0 _ (fun K' hK' => hend _ K' (m3.of (fun d _ _ => rfl) (fun x _ => rfl)) (m4.trans he) (yx_c4 (N := 2) (by omega) rfl (fun _ => nm_e ?_) (fun z => absurd q3 z)))
          rw [yi_s, e2, yi_16, nI_clamp (n := 16 * o + k) (by omega), yi_r _ _ _ _ (by omega)]
          have e653 : (zs_l st 658 0 (yx_ce (ysc M (16 * o + k)) l3).toInt64).1 653 (16 * o + k) = ys_o (ysc M (16 * o + k)).1 := hw.1
          have e654 : (zs_i (zs_l st 658 0 (yx_ce (ysc M (16 * o + k)) l3).toInt64) 635 0 0).1 654 (16 * o + k) = (ysc M (16 * o + k)).2 := by
            rw [yi_r _ _ _ _ (by omega)]
            exact hw.2
          have e653' : (zs_i (zs_l st 658 0 (yx_ce (ysc M (16 * o + k)) l3).toInt64) 635 0 0).1 653 (16 * o + k) = ys_o (ysc M (16 * o + k)).1 := by
            rw [yi_r _ _ _ _ (by omega)]
            exact hw.1
          have kfin : ∀ v, v = yx_ce (ysc M (16 * o + k)) l3 → K' v (zs_i (zs_l st 658 0 (yx_ce (ysc M (16 * o + k)) l3).toInt64) 635 0 0) := by
            intro v ev
            refine hK' v _ ⟨G, (h.l _).r 0⟩ (yi_s _ _ _ _) (fun _ => ?_)
            show (zs_l st 658 0 (yx_ce (ysc M (16 * o + k)) l3).toInt64).2 658 0 = _
            rw [yl_m, if_pos ⟨rfl, rfl⟩, ev]
          have iv : vp_in (nI (16 * o + k)) 4800 := vp_in_nI (by omega) (by omega)
          rw [e653, ys_o_e hv.1]
          refine ⟨fun _ => ⟨iv, br_c (fun c => ?_) (fun c => ?_)⟩, fun z => absurd (by decide) z⟩
          · unfold zf_MO_cell_135
            rw [nI_clamp (n := 16 * o + k) (by omega), e654]
            refine And.intro (fun d0 => And.intro (fun d1 => ⟨fun _ => kfin _ ?_, fun z => absurd rfl z⟩) (fun d1 => ⟨fun _ => ⟨iv, kfin _ ?_⟩, fun z => absurd rfl z⟩)) (fun d0 => ⟨fun _ => kfin _ ?_, fun z => absurd rfl z⟩)
            · unfold yx_ce; rw [if_neg d0, if_neg d1, if_pos c]
            · unfold yx_ce; rw [if_neg d0, if_pos d1, if_pos c]
            · unfold yx_ce; rw [if_pos d0, if_pos c]
          · unfold zf_MO_cell_135
            rw [nI_clamp (n := 16 * o + k) (by omega), e654, e653']
            refine And.intro (fun d0 => And.intro (fun d1 => ⟨fun z => absurd z (by decide), fun _ => ⟨iv, kfin _ ?_⟩⟩) (fun d1 => ⟨fun z => absurd z (by decide), fun _ => ⟨iv, kfin _ ?_⟩⟩)) (fun d0 => ⟨fun z => absurd z (by decide), fun _ => kfin _ ?_⟩)
            · unfold yx_ce; rw [if_neg d0, if_neg d1, if_neg c]
            · unfold yx_ce; rw [if_neg d0, if_pos d1, if_neg c]
            · unfold yx_ce; rw [if_pos d0, if_neg c]
        unfold zf_MA_partOfCell
        rw [cl1, h633, e2, ys_i16, nI_clamp (n := 16 * o + k) (by omega)]
        refine ⟨iv1, vp_in_nI (by omega) (by omega), ys_isA hv (fun c => ?_) (fun c => ?_)⟩
        · rw [yv_lo hv]
          refine br_c (fun d0 => ⟨fun z => absurd z (by decide), fun _ => ?_⟩) (fun d0 => br_c (fun d1 => ⟨fun z => absurd z (by decide), fun _ => ys_objOf hv ?_⟩) (fun d1 => ⟨fun z => absurd z (by decide), fun _ => ?_⟩))
          · unfold yx_ce at okv; rw [if_pos d0, if_neg c] at okv; exact okv
          · unfold yx_ce at okv; rw [if_neg d0, if_pos d1, if_neg c] at okv; exact okv
          · unfold yx_ce at okv; rw [if_neg d0, if_neg d1, if_neg c] at okv; exact okv
        · rw [yv_lo hv]
          refine br_c (fun d0 => ⟨fun _ => ?_, fun z => absurd rfl z⟩) (fun d0 => br_c (fun d1 => ⟨fun _ => ?_, fun z => absurd rfl z⟩) (fun d1 => ⟨fun _ => ?_, fun z => absurd rfl z⟩))
          · unfold yx_ce at okv; rw [if_pos d0, if_pos c] at okv; exact okv
          · unfold yx_ce at okv; rw [if_neg d0, if_pos d1, if_pos c] at okv; exact okv
          · unfold yx_ce at okv; rw [if_neg d0, if_neg d1, if_pos c] at okv; exact okv
      exact fin
    · refine Or.inr (has _ (Or.inl ⟨fun _ => yx_c2 (N := 2) (by omega) rfl (fun z => absurd z q3) (fun _ => Or.inr ⟨fun z => absurd rfl z, fun _ => Or.inr ⟨rfl, ?_⟩⟩), fun z => absurd z (by decide)⟩))
      refine hK 2 st (fun K' hK' => hend st K' m3 (m4.trans he) (yx_c4 (N := 2) (by omega) rfl (fun z => absurd z q3) (fun _ => nm_e ?_)))
      rw [yi_s]
      exact ⟨fun z => absurd z (by decide), fun _ => hK' 0 _ ⟨G, h.r 2⟩ (yi_s _ _ _ _) (fun z => absurd z (by decide))⟩
  · have fin1 : K 1 st := by
      refine hK 1 st (fun K' hK' => ?_)
      by_cases he : st.1 629 6 = 0
      · refine yx_mcell m1 m3 (m4.trans he) (fun i l4 hi y1 y2 y3 => ?_)
        have hki := ys_kc_mono (kp := ysk M) hi
        have y0 := code1 st l4 K' h hK'
        refine br_c (fun y => y0) (fun y => ?_)
        obtain ⟨j, hj, ej⟩ := nI_of y
        rw [ej]
        have hk300 : ys_kc (ysk M) i ≤ 300 := by omega
        refine br_c (fun _ => y0) (fun y5 => ?_)
        have y6 : j + 1 ≤ ys_kc (ysk M) i := by
          apply Classical.byContradiction
          intro z
          exact y5 ((ys_o_lt hk300 hj).1.mpr (by omega))
        have y7 := y2 j hj ej
        have y8 : ys_kc (ysk M) i = j + 1 := by omega
        obtain ⟨o, z1, z2, z3, z4⟩ := y1 j y8
        have hz := m1.2.2.1 o z1
        rw [z4, nI_clamp (n := o) (by omega), (m3.2.1 o z1).1]
        rw [z4] at y0
        have z5 := yx_c3 (N := ysz M o) (l := l2) (x := nI (ysz M o)) (A := zf_MO_cell_80 K' l2 l3 (nI o) st) (B := ((l3 < 0 → zf_MO_cell_93 K' l2 l3 (nI o) st) ∧ (¬ l3 < 0 → ((l3 ≤ 2 → zf_MO_cell_98 K' l2 l3 (nI o) 0 st) ∧ (¬ l3 ≤ 2 → zf_MO_cell_93 K' l2 l3 (nI o) st))))) (by omega) rfl (fun ⟨k, z6, z7⟩ => absurd ⟨o, k, z1, z2, he, by rw [z3]; exact ej, z6, z7⟩ q) (fun _ => y0)
        exact ⟨fun y => z5.1 y, fun y => ⟨vp_in_nI (by omega) (by omega), z5.2 y⟩⟩
      · have z54 : zf_MO_cell_54 K' l1 l2 l3 (-1) (-1) st := by
          have y0 := code1 st (-1) K' h hK'
          refine br_c (fun y => y0) (fun y => br_c (fun _ => y0) (fun y5 => ?_))
          obtain ⟨j, hj, ej⟩ := nI_of y
          refine absurd ?_ y5
          rw [ej, ← ys_o_0]
          exact (ys_o_lt (by omega) hj).1.mpr (by omega)
        exact ⟨1, ⟨fun _ => z54, fun _ => ⟨fun _ => z54, fun z => absurd (m4 ▸ z) he⟩⟩⟩
    have hnone : ∀ X : Int32 → zs_T → Prop, X 0 st → zf_MA_hasKeptCell l1 l2 st X := by
      intro X hX
      refine br_c (fun _ => hX) (fun y => ?_)
      obtain ⟨j, hj, ej⟩ := nI_of y
      refine And.intro (fun _ => br_c (fun _ => hX) (fun y2 => ?_)) (fun he => br_c (fun _ => hX) (fun y2 => ?_))
      · exact absurd (by rw [ej]; exact nI_pos' hj) y2
      · rw [h5, ej, nI_leI (by omega) hj] at y2
        obtain ⟨o, z1, z2, z3⟩ := ys_kc_ex (kp := ysk M) (j := j) (n := ysn M) (by omega)
        have hz := m1.2.2.1 o z1
        have h633 := m2.2.2.1 o z1 z2
        rw [z3] at h633
        have z5 := yx_c (N := ysz M o) (l := l2) (x := nI (ysz M o)) (A := X 0 st) (B := X 1 st) (by omega) rfl (fun ⟨k, z6, z7⟩ => absurd ⟨o, k, z1, z2, he, by rw [z3]; exact ej, z6, z7⟩ q) (fun _ => hX)
        rw [ej, nI_clamp (n := j) hj, h633, nI_clamp (n := o) (by omega), m2.2.1 o z1]
        exact ⟨fun y => z5.1 y, fun y => ⟨vp_in_nI (by omega) (by omega), vp_in_nI (by omega) (by omega), z5.2 y⟩⟩
    exact Or.inr (hnone _ (Or.inr ⟨fun z => absurd rfl z, fun _ => Or.inl ⟨rfl, fin1⟩⟩))
end YQ
