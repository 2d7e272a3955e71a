/-! what is known, in the class: the whole search -/
def yc_K (G : yp_G) (t : zs_T) : Prop := (∀ p, p < 201 → (yR t p ↔ yp_R G p)) ∧ ∀ p, yp_R G p → yk_ok t (24 + 3 * p) ∧ yk_sy t (24 + 3 * p) ∧ ∀ q r s, q < 3 → r < 16 → s < 16 → (yk_F t (24 + 3 * p) q r s ↔ yp_F G p q r s)
section YJ
variable {G : yp_G} {dp : Nat} {st : zs_T}
theorem yk_kbegin {K : zs_T → Prop} (hok : yp_ok G) (hK : ∀ t, zs_ag 17 626 st t → yk_J G (fun _ => False) t → K t) : zf_KN_begin st K := by
  unfold zf_KN_begin
  refine pk_loop (W := fun n i (t : zs_T) => zf_KN_begin_2 K n (nI i) t) (fun i t => zs_ag 17 626 st t ∧ ∀ p, p < i → t.1 19 p = 0 ∧ t.1 20 p = 0) 201 0 st (by omega) ⟨zs_ag.refl, fun p h => by omega⟩ ?_ ?_
  · rintro n t ⟨h1, h2⟩
    have i0 : vp_in 0 201 := vp_in_nI (n := 0) (by omega) (by omega)
    refine pk_le 201 201 (fun _ => ⟨i0, nm_e ⟨i0, nm_e ⟨i0, by decide, ?_⟩⟩⟩) (fun h => by omega)
    rw [yb_n1, show (0 : Int32).toNatClampNeg = 0 from rfl]
    have hn := hok.n
    refine yk_begin (fun u ag hko hE hS => hK u ?_ ?_)
    · exact ((h1.i (by omega) (by omega)).i (by omega) (by omega)).trans (ag.wide (by omega) (by omega))
    · have e19 : ∀ p, u.1 19 p = if p = 0 then 1 else t.1 19 p := fun p => by
        rw [ag.e1 (by omega), yi_r _ _ _ _ (by omega), yi_m]
        by_cases c : p = 0
        · rw [if_pos ⟨rfl, c⟩, if_pos c]
        · rw [if_neg (fun q => c q.2), if_neg c]
      have e20 : ∀ p, u.1 20 p = if p = 0 then 1 else t.1 20 p := fun p => by
        rw [ag.e1 (by omega), yi_m]
        by_cases c : p = 0
        · rw [if_pos ⟨rfl, c⟩, if_pos c]
        · rw [if_neg (fun q => c q.2), if_neg c, yi_r _ _ _ _ (by omega)]
      have hR : ∀ p, p < 201 → (yR u p ↔ p = 0) := fun p hp => by
        unfold yR
        rw [e19]
        by_cases c : p = 0
        · rw [if_pos c]; exact ⟨fun _ => c, fun _ => by decide⟩
        · rw [if_neg c, (h2 p hp).1]; exact ⟨fun h => absurd rfl h, fun h => absurd h c⟩
      have hW : ∀ p, p < 201 → (yW u p ↔ p = 0) := fun p hp => by
        unfold yW
        rw [e20]
        by_cases c : p = 0
        · rw [if_pos c]; exact ⟨fun _ => c, fun _ => by decide⟩
        · rw [if_neg c, (h2 p hp).2]; exact ⟨fun h => absurd rfl h, fun h => absurd h c⟩
      have hF : ∀ q r s, yk_F u 24 q r s ↔ q = 0 ∧ r < 16 ∧ s < 16 ∧ r ≠ s := by
        intro q r s
        constructor
        · rintro ⟨hq, hr, hs, h3⟩
          match q, hq, h3 with
          | 0, _, h3 =>
            have h3 : yE u 24 r s = true := h3
            rw [(hE r s hr hs).1, decide_eq_true_eq] at h3
            exact ⟨rfl, hr, hs, h3⟩
          | 1, _, h3 =>
            have h3 : yH u 24 r s = true := h3
            rw [(hE r s hr hs).2] at h3
            cases h3
          | 2, _, h3 =>
            have h3 : yS u 24 r = true := h3
            rw [hS r] at h3
            cases h3
        · rintro ⟨rfl, hr, hs, h3⟩
          refine yk_F0.mpr ⟨hr, hs, ?_⟩
          rw [(hE r s hr hs).1]
          exact decide_eq_true h3
      refine ⟨fun p hp h => ?_, (hR 0 (by omega)).mpr rfl, fun p hp h => ?_, fun q r s h => ⟨((hF q r s).mp h).1, ((hF q r s).mp h).2.2.2⟩, fun p hp h => (hR p hp).mpr ((hW p hp).mp h), fun p j hp _ h1' h2' hN => ?_⟩
      · rw [(hR p hp).mp h]; exact yp_R_0 G
      · have := (hR p hp).mp h
        subst this
        refine ⟨hko, ⟨fun r s hr hs => ?_, fun r hr => ?_⟩, fun S hS' q r s hq hr hs hx => ?_⟩
        · rw [(hE r s hr hs).1, (hE s r hs hr).1]
          by_cases c : r = s
          · rw [c]
          · have c' : s ≠ r := fun e => c e.symm
            simp [c, c']
        · rw [(hE r r hr hr).1]; simp
        · have := hS'.1 q r s hx
          exact (hF q r s).mpr ⟨this.1, hr, hs, this.2⟩
      · exact absurd ((hW p (by omega)).mpr ((hR p (by omega)).mp h1')) h2'
  · rintro n i t hi ⟨h1, h2⟩ ih
    have ii : vp_in (nI i) 201 := vp_in_nI (by omega) (by omega)
    refine pk_le 201 i (fun h => by omega) (fun _ => ⟨ii, nm_e ⟨ii, nm_e ?_⟩⟩)
    rw [yb_n0, nI_1, nI_clamp (n := i) (by omega)]
    refine ih _ ⟨(h1.i (by omega) (by omega)).i (by omega) (by omega), fun p hp => ?_⟩
    rw [yi_r _ _ _ _ (show 19 ≠ 20 by omega), yi_m, yi_m]
    by_cases c : p = i
    · rw [if_pos ⟨rfl, c⟩, if_pos ⟨rfl, c⟩]; exact ⟨rfl, rfl⟩
    · rw [if_neg (fun q => c q.2), if_neg (fun q => c q.2), yi_r _ _ _ _ (by omega)]
      exact h2 p (by omega)
theorem yk_fo_ta {i : Nat} (hok : yp_ok G) (hi : i < yn G) : ((yp_fo G i = -1) ∨ ∃ j, yp_fo G i = nI j ∧ yp_N G i j) ∧ ((yp_ta G i = -1) ∨ ∃ j, yp_ta G i = nI j ∧ yp_N G i j) ∧ ∀ j, yp_N G i j → yp_fo G i = nI j ∨ yp_ta G i = nI j := by
  have hk := hok.k hi
  refine ⟨?_, ?_, ?_⟩
  · unfold yp_fo
    by_cases c : yk G i = 12 ∨ yk G i = 14
    · rw [if_pos c]; exact Or.inl rfl
    · rw [if_neg c]; exact Or.inr ⟨i + 1, rfl, hi, Or.inl ⟨by omega, by omega, rfl⟩⟩
  · unfold yp_ta
    by_cases c : yk G i = 12
    · rw [if_pos c]; exact Or.inr ⟨_, rfl, hi, Or.inr (Or.inl ⟨c, rfl⟩)⟩
    · rw [if_neg c]
      by_cases c2 : yk G i = 13
      · rw [if_pos c2]; exact Or.inr ⟨_, rfl, hi, Or.inr (Or.inr ⟨c2, rfl⟩)⟩
      · rw [if_neg c2]; exact Or.inl rfl
  · rintro j ⟨_, ⟨h1, h2, h3⟩ | ⟨h1, h2⟩ | ⟨h1, h2⟩⟩
    · left; unfold yp_fo; rw [if_neg (by omega), h3]
    · right; unfold yp_ta; rw [if_pos h1, h2]
    · right; unfold yp_ta; rw [if_neg (by omega), if_pos h1, h2]
theorem yk_flow1 {x : Int32} {K : zs_T → Prop} (h : x = -1) (hK : K st) : zf_KN_flowTo x st K := by
  subst h
  exact ⟨fun h => absurd rfl h, fun _ => hK⟩
/-- an int that may be no point -/
theorem yk_flowX {i k : Nat} {x : Int32} {X : yp_Q} {K : zs_T → Prop} (hok : yp_ok G) (hi : i < yn G) (hx : x = -1 ∨ ∃ j, x = nI j ∧ yp_N G i j) (h : yk_H G i X st)
    (hK : ∀ t, (∀ x, x < 19 ∨ 626 < x → t.1 x = st.1 x ∧ t.2 x = st.2 x) → yk_H G i X t → (∀ j, j < 2 ^ 31 → x = nI j → yk_L j t) → (yk_L k st → yk_L k t) → yk_m t ≤ yk_m st → K t) : zf_KN_flowTo x st K := by
  rcases hx with hx | ⟨j, hx, hN⟩
  · refine yk_flow1 hx (hK st (fun _ _ => ⟨rfl, rfl⟩) h (fun j hj e => absurd (e.symm.trans hx) (yi_m1 hj)) id (Nat.le_refl _))
  · subst hx
    have hn := hok.n
    have := yp_N_le hN
    refine yk_flowH (k := k) hok hi hN h (fun t t1 t2 t3 t4 t5 => hK t t1 t2 (fun j' hj' e => ?_) t4 t5)
    have e' := (nI_eq (by omega) hj').mp e
    rw [← e']; exact t3
theorem yk_proc {i : Nat} {K : zs_T → Prop} (hok : yp_ok G) (hC : yp_C dp G st) (hd : dp + 4 < 12) (hm : ∀ r s, r < 16 → s < 32 → (bt (st.1 16 r) s = true ↔ s < 16 ∧ yp_meet G r s)) (hi : i < yn G) (hJ : yk_J G (fun _ => False) st) (hw : yW st i)
    (hK : ∀ t, zs_ag 17 626 st t → yk_J G (fun _ => False) t → yk_m t < yk_m st → K t) :
    ∀ t203 : zs_T, t203 = zs_i st 20 i (vp_nar .boolean 0) → zf_FA_copy 21 (24 + 3 * i) t203 (fun u206 => zf_FA_pass 21 dp (nI i) u206 (fun u207 => zf_PR_follower dp (nI i) u207 (fun r209 u208 => zf_KN_flowTo r209 u208 (fun u210 => zf_PR_target dp (nI i) u210 (fun r212 u211 => zf_KN_flowTo r212 u211 (fun u213 => K u213)))))) := by
  have hn := hok.n
  refine nm_e ?_
  rw [yb_n0]
  obtain ⟨j1, j2, j3, j4, j5, j6⟩ := hJ
  have hRi : yR st i := j5 i (by omega) hw
  have ag0 : zs_ag 17 626 st (zs_i st 20 i 0) := zs_ag.refl.i (by omega) (by omega)
  refine yk_copyF (by omega) (fun t1 ag1 hF1 hok1 hsy1 => ?_)
  have ag1' : zs_ag 17 626 st t1 := ag0.trans (ag1.wide (by omega) (by omega))
  have e0 : ∀ x, x ≠ 20 → (zs_i st 20 i 0).1 x = st.1 x := fun x hx => yi_r _ _ _ _ hx
  have ui := yk_un (t := zs_i st 20 i 0) (st := st) (d := 24 + 3 * i) (e0 _ (by omega)) (e0 _ (by omega)) (e0 _ (by omega))
  obtain ⟨k1, k2, k3⟩ := j3 i (by omega) hRi
  have hm1 : ∀ r s, r < 16 → s < 32 → (bt (t1.1 16 r) s = true ↔ s < 16 ∧ yp_meet G r s) := by rw [ag1'.e1 (by omega)]; exact hm
  refine yk_pass hok (hC.ag ag1' (by omega)) ⟨hd, by omega⟩ hi hm1 (hok1 (ui.2.1 k1)) (hsy1 (ui.2.2 k2)) (fun t2 hP => ?_)
  obtain ⟨ag2, ok2, sy2, hT⟩ := hP
  have ag2' : zs_ag 17 626 st t2 := ag1'.trans (ag2.wide (by omega) (by omega))
  have e2 : ∀ x, x ≠ 20 → (x < 21 ∨ 23 < x) → t2.1 x = st.1 x := fun x hx hx' => by rw [ag2.e1 (by omega), ag1.e1 (by omega), e0 x hx]
  have e20 : ∀ p, t2.1 20 p = if p = i then 0 else st.1 20 p := fun p => by
    rw [ag2.e1 (by omega), ag1.e1 (by omega), yi_m]
    by_cases c : p = i
    · rw [if_pos ⟨rfl, c⟩, if_pos c]
    · rw [if_neg (fun q => c q.2), if_neg c]
  have hR2 : ∀ p, yR t2 p ↔ yR st p := fun p => by unfold yR; rw [e2 19 (by omega) (by omega)]
  have hW2 : ∀ p, p ≠ i → (yW t2 p ↔ yW st p) := fun p hp => by unfold yW; rw [e20, if_neg hp]
  have hW2' : ¬ yW t2 i := fun h => h (by rw [e20, if_pos rfl])
  have u2 : ∀ p, yk_F t2 (24 + 3 * p) = yk_F st (24 + 3 * p) ∧ (yk_ok st (24 + 3 * p) → yk_ok t2 (24 + 3 * p)) ∧ (yk_sy st (24 + 3 * p) → yk_sy t2 (24 + 3 * p)) := fun p => yk_un (e2 _ (by omega) (by omega)) (e2 _ (by omega) (by omega)) (e2 _ (by omega) (by omega))
  have hF21 : yk_F t1 21 = yk_F st (24 + 3 * i) := by rw [hF1, ui.1]
  have H : yk_H G i (yk_F st (24 + 3 * i)) t2 := by
    refine ⟨⟨fun p hp hr => j1 p hp ((hR2 p).mp hr), (hR2 0).mpr j2, fun p hp hr => ?_, fun q r s hx => ?_, fun p hp h => ?_, fun p j hp hX hr hw' hN => ?_⟩, (hR2 i).mpr hRi, ok2, sy2, fun q r s hq hr hs => ?_, fun _ => (u2 i).1, k3⟩
    · obtain ⟨l1, l2, l3⟩ := j3 p hp ((hR2 p).mp hr)
      exact ⟨(u2 p).2.1 l1, (u2 p).2.2 l2, by rw [(u2 p).1]; exact l3⟩
    · have := (u2 0).1
      rw [show 24 + 3 * 0 = 24 from rfl] at this
      rw [this] at hx
      exact j4 q r s hx
    · by_cases c : p = i
      · subst c; exact absurd h hW2'
      · exact (hR2 p).mpr (j5 p hp ((hW2 p c).mp h))
    · obtain ⟨l1, l2⟩ := j6 p j hp (fun h => h) ((hR2 p).mp hr) (fun e => hw' ((hW2 p hX).mpr e)) hN
      exact ⟨(hR2 j).mpr l1, by rw [(u2 p).1, (u2 j).1]; exact l2⟩
    · rw [hT q r s hq hr hs, hF21]
  have hm2 : yk_m t2 < yk_m st := by
    refine yp_sm_lt (k := i) (fun p hp => ?_) (by omega) ?_
    · unfold yk_w
      rw [(u2 p).1]
      by_cases hr : yR st p
      · rw [if_pos hr, if_pos ((hR2 p).mpr hr)]
        by_cases c : p = i
        · subst c
          rw [if_neg hW2']; omega
        · by_cases hw3 : yW st p
          · rw [if_pos hw3, if_pos ((hW2 p c).mpr hw3)]; omega
          · rw [if_neg hw3, if_neg (fun e => hw3 ((hW2 p c).mp e))]; omega
      · rw [if_neg hr, if_neg (fun e => hr ((hR2 p).mp e))]; omega
    · unfold yk_w
      rw [(u2 i).1, if_pos hRi, if_pos ((hR2 i).mpr hRi), if_neg hW2', if_pos hw]
      omega
  obtain ⟨f1, f2, f3⟩ := yk_fo_ta hok hi
  refine yc_fol hok (hC.ag ag2' (by omega)) hi (yk_flowX (k := 0) hok hi f1 H (fun t3 a3 H3 L3 _ m3 => ?_))
  have ag3 : zs_ag 17 626 st t3 := ag2'.trans (fun x hx => a3 x (by omega))
  refine yc_tar hok (hC.ag ag3 (by omega)) hi (yk_flowX (k := (yp_fo G i).toNatClampNeg) hok hi f2 H3 (fun t4 a4 H4 L4 M4 m4 => ?_))
  obtain ⟨⟨q1, q2, q3, q4, q5, q6⟩, p2, p3, p4, p5, p6, p7⟩ := H4
  refine hK t4 (ag3.trans (fun x hx => a4 x (by omega))) ⟨q1, q2, q3, q4, q5, fun p j hp _ hr hw' hN => ?_⟩ (by omega)
  by_cases c : p = i
  · subst c
    have hjn := yp_N_le hN
    have hL : yk_L j t4 := by
      rcases f3 j hN with e | e
      · have := M4 (by rw [e, nI_clamp (n := j) (by omega)]; exact L3 j (by omega) e)
        rw [e, nI_clamp (n := j) (by omega)] at this
        exact this
      · exact L4 j (by omega) e
    refine ⟨hL.1, fun a b c hx => ?_⟩
    rw [p6 hw']
    exact (p5 a b c hx.1 hx.2.1 hx.2.2.1).mp (hL.2 a b c hx)
  · exact q6 p j hp c hr hw' hN
theorem yk_sweep {B : Int32 → Int32 → zs_T → Prop} {x : Int32} {K : zs_T → Prop} (hok : yp_ok G) (hC : yp_C dp G st) (hd : dp + 4 < 12) (hm : ∀ r s, r < 16 → s < 32 → (bt (st.1 16 r) s = true ↔ s < 16 ∧ yp_meet G r s)) (hJ : yk_J G (fun _ => False) st)
    (hB : ∀ (g : Bool) (t : zs_T), zs_ag 17 626 st t → yk_J G (fun _ => False) t → (g = false → t = st ∧ ∀ p, p < yn G → ¬ yW st p) → (g = true → yk_m t < yk_m st) → B (yb g) (x + 1) t) : ∃ n, zf_KN_find_25 dp K B n 0 x 0 st := by
  have hn := hok.n
  refine pk_loop (W := fun n i (t : Bool × zs_T) => zf_KN_find_25 dp K B n (yb t.1) x (nI i) t.2) (fun i t => zs_ag 17 626 st t.2 ∧ yk_J G (fun _ => False) t.2 ∧ (t.1 = false → t.2 = st ∧ ∀ p, p < i → ¬ yW st p) ∧ (t.1 = true → yk_m t.2 < yk_m st)) (yn G) 0 (false, st) (by omega) ⟨zs_ag.refl, hJ, fun _ => ⟨rfl, fun p h => by omega⟩, fun h => by cases h⟩ ?_ ?_
  · rintro n ⟨g, t⟩ ⟨h1, h2, h3, h4⟩
    exact pk_le (yn G) (yn G) (fun _ => hB g t h1 h2 h3 h4) (fun h => by omega) (hC.ag h1 (by omega)).1
  · rintro n i ⟨g, t⟩ hi ⟨h1, h2, h3, h4⟩ ih
    have ii : vp_in (nI i) 201 := vp_in_nI (by omega) (by omega)
    have hCt : yp_C dp G t := hC.ag h1 (by omega)
    refine pk_le (yn G) i (fun h => by omega) (fun _ => ⟨ii, ?_⟩) hCt.1
    simp only [zf_KN_find_102]
    rw [nI_1, nI_clamp (n := i) (by omega)]
    refine br_c (fun c => ih (g, t) ⟨h1, h2, fun e => ⟨(h3 e).1, fun p hp => ?_⟩, h4⟩) (fun c => ⟨ii, fun t203 e203 => ⟨ii, by omega, ?_⟩⟩)
    · by_cases ep : p = i
      · subst ep
        have e' : t = st := (h3 e).1
        intro hw
        exact hw (by rw [← e']; exact c)
      · exact (h3 e).2 p (by omega)
    · refine yk_proc (st := t) hok hCt hd (by rw [show t.1 16 = st.1 16 from h1.e1 (by omega)]; exact hm) hi h2 c (fun u u1 u2 u3 => ih (true, u) ⟨h1.trans u1, u2, (fun e => by cases e), fun _ => ?_⟩) t203 e203
      show yk_m u < yk_m st
      cases g with
      | false =>
        have e' : t = st := (h3 rfl).1
        rw [← e']; exact u3
      | true =>
        have : yk_m t < yk_m st := h4 rfl
        omega
theorem yk_final {t : zs_T} (hok : yp_ok G) (hJ : yk_J G (fun _ => False) t) (hw : ∀ p, p < yn G → ¬ yW t p) : yc_K G t := by
  have hn := hok.n
  obtain ⟨j1, j2, j3, j4, j5, j6⟩ := hJ
  have hR : ∀ p, yp_R G p → yR t p := fun p hp => hp (fun p => yR t p ∧ yp_R G p) ⟨j2, yp_R_0 G⟩ (fun i j h hN => ⟨(j6 i j hN.1 (fun h => h) h.1 (hw i hN.1) hN).1, yp_R_s h.2 hN⟩) |>.1
  refine ⟨fun p hp => ⟨j1 p hp, hR p⟩, fun p hp => ?_⟩
  have hp' := yp_R_le hp
  obtain ⟨k1, k2, k3⟩ := j3 p (by omega) (hR p hp)
  refine ⟨k1, k2, fun q r s hq hr hs => ⟨fun hx => ?_, fun ⟨S, hS, hx⟩ => k3 S hS q r s hq hr hs hx⟩⟩
  refine ⟨fun p => yk_F t (24 + 3 * p), ⟨fun q r s hx => j4 q r s hx, fun i j hi hN q r s hx => ?_⟩, hx⟩
  exact (j6 i j hN.1 (fun h => h) (hR i hi) (hw i hN.1) hN).2 q r s hx
/-- the whole search: the cells 17 .. 626 hold what is to be known -/
theorem yk_find {K : zs_T → Prop} (hok : yp_ok G) (hC : yp_C dp G st) (hd : dp + 4 < 12) (hA : yc_A G st) (hK : ∀ t, zs_ag 17 626 st t → yc_K G t → K t) : zf_KN_find dp st K := by
  have hm := hA.2.2.1
  unfold zf_KN_find
  refine yk_kbegin hok (fun t0 ag0 hJ0 => ?_)
  refine loop_m (σ := Bool × Nat × zs_T) (fun n s => zf_KN_find_9 dp K n (yb s.1) (nI s.2.1) s.2.2) (fun s => zs_ag 17 626 st s.2.2 ∧ yk_J G (fun _ => False) s.2.2 ∧ (s.1 = false → ∀ p, p < yn G → ¬ yW s.2.2 p) ∧ (s.1 = true → s.2.1 + yk_m s.2.2 ≤ 154770)) (fun s => yk_m s.2.2 + (if s.1 then 1 else 0)) ?_ (true, 0, t0) ⟨ag0, hJ0, (fun h => by cases h), fun _ => by have := yk_m_le t0; simpa using this⟩
  rintro n ⟨g, k, t⟩ ⟨h1, h2, h3, h4⟩ ih
  cases g with
  | false => exact ⟨fun _ => hK t h1 (yk_final hok h2 (h3 rfl)), fun h => absurd rfl h⟩
  | true =>
    have h6 : k + yk_m t ≤ 154770 := h4 rfl
    refine ⟨(fun h => by cases h), fun _ => ?_⟩
    refine pk_le 1000000 k (fun h => by omega) (fun _ => ?_)
    refine yk_sweep hok (hC.ag h1 (by omega)) hd (by rw [show t.1 16 = st.1 16 from h1.e1 (by omega)]; exact hm) h2 (fun g' t' k1 k2 k3 k4 => ?_)
    rw [nI_1]
    refine ih (g', k + 1, t') ⟨h1.trans k1, k2, fun e => ?_, fun e => ?_⟩ ?_
    · have e' : g' = false := e
      have := k3 e'
      show ∀ p, p < yn G → ¬ yW t' p
      rw [this.1]; exact this.2
    · have e' : g' = true := e
      have k5 : yk_m t' < yk_m t := k4 e'
      show k + 1 + yk_m t' ≤ 154770
      omega
    · show yk_m t' + (if g' = true then 1 else 0) < yk_m t + 1
      cases g' with
      | false =>
        have := (k3 rfl).1
        rw [this]; simp
      | true =>
        have k5 : yk_m t' < yk_m t := k4 rfl
        simp; omega
end YJ
