/-! what is free, in the class -/
def yf (t : zs_T) (i r : Nat) : Prop := bt (t.1 628 i) r = true
def yc_F (G : yp_G) (t : zs_T) : Prop := ∀ i r, i ≤ yn G → r < 32 → (bt (t.1 628 i) r = true ↔ r < 16 ∧ yp_fr G i r)
section YK
variable {G : yp_G} {dp : Nat} {st : zs_T}
theorem yf_before {j : Nat} {K : Int32 → zs_T → Prop} (hok : yp_ok G) (hC : yp_C dp G st) (hd : dp + 4 < 12) (hA : yc_A G st) (hQ : yc_K G st) (hR : yp_R G j) (hK : ∀ v, (∀ r, r < 16 → (bt v r = true ↔ yp_B G (yf st) j r)) → K v st) : zf_FR_freeBefore dp (nI j) st K := by
  have hn := hok.n
  have hj := yp_R_le hR
  unfold zf_FR_freeBefore
  refine ⟨vp_in_nI (by omega) (by omega), ?_⟩
  rw [hC.1, nI_clamp (n := j) (by omega)]
  refine And.intro (fun c => ?_) (fun c => ?_)
  · have c' : j ≠ yn G := fun e => c (by rw [e])
    have hjn : j < yn G := by omega
    have iv : vp_in (nI j) 200 := vp_in_nI (by omega) (by omega)
    obtain ⟨c1, c2, c3, c4⟩ := hC.2 j hjn
    have hk := hok.k hjn
    refine ⟨iv, iv, ?_⟩
    rw [c2, c3]
    have h57 : ∀ s0 : Int32, (∀ r, r < 16 → (bt s0 r = true ↔ yf st j r ∧ ¬ (yk G j ≤ 9 ∧ r = ya G j))) → zf_FR_freeBefore_57 dp K (nI j) (st.1 628 j) (nI (ya G j)) (yx G j) s0 st := by
      intro s0 hs0
      unfold zf_FR_freeBefore_57
      rw [nI_clamp (n := j) (by omega), c1]
      refine ⟨iv, ?_⟩
      refine pk_eq (yk G j) 1 (fun h => ?_) (fun h1 => ?_)
      · have ha := hok.a hjn (by omega)
        have he := hok.e hjn (by omega)
        rw [hok.x hjn (by omega)]
        refine And.intro (fun c5 => hK _ (fun r hr => ?_)) (fun c5 => hK _ (fun r hr => ?_))
        · have c6 : ya G j ≠ ye G j := fun e => c5 (by rw [e])
          rw [b_or, yb_mv _ (by omega) (by omega) (by omega), Bool.or_eq_true, hs0 r hr, Bool.and_eq_true, decide_eq_true_eq]
          unfold yp_B yf
          grind
        · have c6 : ya G j = ye G j := (nI_eq (by omega) (by omega)).mp c5
          rw [hs0 r hr]
          unfold yp_B yf
          grind
      refine pk_eq (yk G j) 9 (fun h => ?_) (fun h9 => ?_)
      · have he := hok.e hjn (by omega)
        rw [hok.x hjn (by omega), nI_clamp (n := ye G j) (by omega)]
        refine ⟨vp_in_nI (by omega) (by omega), hK _ (fun r hr => ?_)⟩
        have hm := hA.2.2.1 (ye G j) r he (by omega)
        have hm2 : yp_meet G (ye G j) r ↔ yp_meet G r (ye G j) := ⟨yp_meet_c, yp_meet_c⟩
        rw [b_and, yb_not _ (by omega), Bool.and_eq_true, hs0 r hr, Bool.not_eq_true']
        unfold yp_B yf
        grind
      refine pk_eq (yk G j) 10 (fun h => ?_) (fun h10 => ?_)
      · have ha := hok.a hjn (by omega)
        rw [nI_clamp (n := ya G j) (by omega)]
        refine ⟨vp_in_nI (by omega) (by omega), by omega, vp_in_nI (by omega) (by omega), hK _ (fun r hr => ?_)⟩
        obtain ⟨q1, q2, q3⟩ := hQ.2 j hR
        have q4 := q3 0 r (ya G j) (by omega) hr ha
        rw [yk_F0] at q4
        have q5 := q2.1 r (ya G j) hr ha
        have q6 : bt (st.1 (24 + 3 * j + 1) (ya G j)) r = yE st (24 + 3 * j) (ya G j) r := rfl
        rw [b_or, b_or, yb_one (by omega) (by omega), Bool.or_eq_true, Bool.or_eq_true, hs0 r hr, q6, ← q5, decide_eq_true_eq]
        unfold yp_B yf
        grind
      refine hK _ (fun r hr => ?_)
      rw [hs0 r hr]
      unfold yp_B yf
      grind
    refine yc_sets hok hC hjn ?_
    by_cases hk9 : yk G j ≤ 9
    · rw [decide_eq_true hk9]
      refine ⟨(fun h => by cases h), fun _ => h57 _ (fun r hr => ?_)⟩
      have ha := hok.a hjn (by omega)
      rw [b_and, yb_not _ (by omega), yb_one (by omega) (by omega)]
      unfold yf
      grind
    · rw [decide_eq_false hk9]
      refine ⟨fun _ => h57 _ (fun r hr => ?_), fun h => absurd rfl h⟩
      unfold yf
      grind
  · have c' : j = yn G := (nI_eq (by omega) (by omega)).mp c
    refine hK _ (fun r hr => ?_)
    unfold yp_B yf
    grind
theorem yf_next {i : Nat} {K : Int32 → zs_T → Prop} (hok : yp_ok G) (hC : yp_C dp G st) (hd : dp + 4 < 12) (hA : yc_A G st) (hQ : yc_K G st) (hi : i < yn G) (hR : yp_R G i) (hK : ∀ v, (∀ r, r < 32 → (bt v r = true ↔ r < 16 ∧ ∀ j, yp_N G i j → yp_B G (yf st) j r)) → K v st) : zf_FR_freeBeforeNext dp (nI i) st K := by
  have hn := hok.n
  obtain ⟨f1, f2, f3⟩ := yk_fo_ta hok hi
  unfold zf_FR_freeBeforeNext
  have h32 : ∀ w : Int32, (∀ r, r < 32 → (bt w r = true ↔ r < 16 ∧ ∀ j, j < 2 ^ 31 → yp_fo G i = nI j → yp_B G (yf st) j r)) → zf_FR_freeBeforeNext_32 dp K (nI i) w st := by
    intro w hw
    unfold zf_FR_freeBeforeNext_32
    refine yc_tar hok hC hi ?_
    rcases f2 with e | ⟨j, e, hN⟩
    · refine br_t e (hK w (fun r hr => (hw r hr).trans ⟨fun h => ⟨h.1, fun j hN => ?_⟩, fun h => ⟨h.1, fun j hj e' => ?_⟩⟩))
      · have := yp_N_le hN
        rcases f3 j hN with e' | e'
        · exact h.2 j (by omega) e'
        · exact absurd (e'.symm.trans e) (yi_m1 (by omega))
      · rcases f1 with e1 | ⟨j', e1, hN'⟩
        · exact absurd (e'.symm.trans e1) (yi_m1 hj)
        · have := yp_N_le hN'
          have e2 := (nI_eq (by omega) hj).mp (e1.symm.trans e')
          rw [← e2]; exact h.2 j' hN'
    · have hj := yp_N_le hN
      rw [e]
      refine br_f (yi_m1 (by omega)) (yf_before hok hC hd hA hQ (yp_R_s hR hN) (fun v hv => hK _ (fun r hr => ?_)))
      rw [b_and, Bool.and_eq_true, hw r hr]
      constructor
      · rintro ⟨h1, h2⟩
        refine ⟨h1.1, fun j' hN' => ?_⟩
        have := yp_N_le hN'
        rcases f3 j' hN' with e' | e'
        · exact h1.2 j' (by omega) e'
        · have e2 := (nI_eq (by omega) (by omega)).mp (e.symm.trans e')
          rw [← e2]; exact (hv r h1.1).mp h2
      · rintro ⟨h1, h2⟩
        refine ⟨⟨h1, fun j' hj' e' => ?_⟩, (hv r h1).mpr (h2 j hN)⟩
        rcases f1 with e1 | ⟨j2, e1, hN'⟩
        · exact absurd (e'.symm.trans e1) (yi_m1 hj')
        · have := yp_N_le hN'
          have e2 := (nI_eq (by omega) hj').mp (e1.symm.trans e')
          rw [← e2]; exact h2 j2 hN'
  refine yc_fol hok hC hi ?_
  rcases f1 with e | ⟨j, e, hN⟩
  · refine br_t e (h32 _ (fun r hr => ?_))
    rw [b_65535, decide_eq_true_eq]
    exact ⟨fun h => ⟨h, fun j hj e' => absurd (e'.symm.trans e) (yi_m1 hj)⟩, fun h => h.1⟩
  · have hj := yp_N_le hN
    rw [e]
    refine br_f (yi_m1 (by omega)) (yf_before hok hC hd hA hQ (yp_R_s hR hN) (fun v hv => h32 _ (fun r hr => ?_)))
    rw [b_and, b_65535, Bool.and_eq_true, decide_eq_true_eq]
    constructor
    · rintro ⟨h1, h2⟩
      refine ⟨h1, fun j' hj' e' => ?_⟩
      have e2 := (nI_eq (by omega) hj').mp (e.symm.trans e')
      rw [← e2]; exact (hv r h1).mp h2
    · rintro ⟨h1, h2⟩
      exact ⟨h1, (hv r h1).mpr (h2 j (by omega) e)⟩
end YK
