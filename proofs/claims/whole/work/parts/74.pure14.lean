/-! what is free, in the class: the whole search -/
def yf_o (G : yp_G) (t : zs_T) (i r : Nat) : Prop := (yk G i = 14 → yp_un G r) ∧ ∀ j, yp_N G i j → yp_B G (yf t) j r
def yf_I (G : yp_G) (t : zs_T) : Prop := (∀ i r, i ≤ yn G → 16 ≤ r → r < 32 → bt (t.1 628 i) r = false) ∧ (∀ i r, i ≤ yn G → r < 16 → yf t i r → yp_R G i ∧ (i = yn G → yp_un G r)) ∧ (∀ B i r, yp_fs G B → i ≤ yn G → r < 16 → B i r → yf t i r) ∧ ∀ i r, i < yn G → r < 16 → yp_R G i → yf_o G t i r → yf t i r
noncomputable def yf_c (t : zs_T) : Nat := yp_c (fun q => yf t (q / 16) (q % 16)) 3216
theorem yi_same (t : zs_T) (d j : Nat) : zs_i t d j (t.1 d j) = t := by
  refine Prod.ext (funext fun d' => funext fun j' => ?_) rfl
  rw [yi_m]
  by_cases h : d' = d ∧ j' = j
  · rw [if_pos h, h.1, h.2]
  · rw [if_neg h]
theorem yi_pm (n : Nat) : nI n + (-1) = nI n - 1 := (Int32.sub_eq_add_neg (nI n) 1).symm
section YL
variable {G : yp_G} {dp : Nat} {st : zs_T}
theorem yf_o_mono {a b : zs_T} {i r : Nat} (hok : yp_ok G) (hr : r < 16) (h : ∀ i r, i ≤ yn G → r < 16 → yf a i r → yf b i r) (ho : yf_o G a i r) : yf_o G b i r := by
  refine ⟨ho.1, fun j hN => ?_⟩
  have hj := yp_N_le hN
  refine yp_B_mono (h j r hj hr) (fun hk hjn => ?_) (ho.2 j hN)
  have hjn' : j < yn G := by omega
  exact h j _ hj (hok.a hjn' (by omega))
theorem yf_up {t : zs_T} {i : Nat} {v : Int32} (hok : yp_ok G) (hI : yf_I G t) (hi : i < yn G) (hR : yp_R G i) (hv : ∀ r, r < 32 → (bt v r = true ↔ r < 16 ∧ yf_o G t i r)) : yf_I G (zs_i t 628 i v) ∧ (∀ p r, p ≤ yn G → r < 16 → yf (zs_i t 628 i v) p r → yf t p r) ∧ (t.1 628 i = v ∨ yf_c (zs_i t 628 i v) < yf_c t) := by
  have hn := hok.n
  obtain ⟨h1, h2, h3, h4⟩ := hI
  have e : ∀ p, (zs_i t 628 i v).1 628 p = if p = i then v else t.1 628 p := fun p => by
    rw [yi_m]
    by_cases c : p = i
    · rw [if_pos ⟨rfl, c⟩, if_pos c]
    · rw [if_neg (fun q => c q.2), if_neg c]
  have hdown : ∀ p r, p ≤ yn G → r < 16 → yf (zs_i t 628 i v) p r → yf t p r := by
    intro p r hp hr h
    unfold yf at h
    rw [e] at h
    by_cases c : p = i
    · rw [if_pos c] at h
      rw [c]
      exact h4 i r hi hr hR ((hv r (by omega)).mp h).2
    · rw [if_neg c] at h; exact h
  refine ⟨⟨fun p r hp hr hr' => ?_, fun p r hp hr h => h2 p r hp hr (hdown p r hp hr h), fun B p r hB hp hr h => ?_, fun p r hp hr hRp ho => ?_⟩, hdown, ?_⟩
  · rw [e]
    by_cases c : p = i
    · rw [if_pos c]
      exact ts_nt (fun q => by have := (hv r hr').mp q; omega)
    · rw [if_neg c]; exact h1 p r hp hr hr'
  · unfold yf
    rw [e]
    by_cases c : p = i
    · rw [if_pos c]
      subst c
      refine (hv r (by omega)).mpr ⟨hr, fun hk => (hB p r h).2.1 (Or.inr hk), fun j hN => ?_⟩
      have hj := yp_N_le hN
      refine yp_B_mono (h3 B j r hB hj hr) (fun hk hjn => ?_) ((hB p r h).2.2 j hN)
      have hjn' : j < yn G := by omega
      exact h3 B j _ hB hj (hok.a hjn' (by omega))
    · rw [if_neg c]; exact h3 B p r hB hp hr h
  · have ho' := yf_o_mono hok hr hdown ho
    unfold yf
    rw [e]
    by_cases c : p = i
    · rw [if_pos c]
      rw [c] at ho'
      exact (hv r (by omega)).mpr ⟨hr, ho'⟩
    · rw [if_neg c]; exact h4 p r hp hr hRp ho'
  · by_cases c : t.1 628 i = v
    · exact Or.inl c
    · right
      have : ∃ r, r < 32 ∧ bt (t.1 628 i) r ≠ bt v r := by
        apply Classical.byContradiction
        intro hc
        exact c (b_ext (fun r hr => Classical.byContradiction (fun q => hc ⟨r, hr, q⟩)))
      obtain ⟨r, hr, hne⟩ := this
      have hv' := hv r hr
      have h16 : r < 16 := by
        apply Classical.byContradiction
        intro q
        have q1 := h1 i r (by omega) (by omega) hr
        have q2 : bt v r = false := ts_nt (fun q => by have := hv'.mp q; omega)
        exact hne (q1.trans q2.symm)
      have hold : yf t i r := by
        cases hb : bt (t.1 628 i) r with
        | true => exact hb
        | false =>
          cases hb2 : bt v r with
          | false => exact absurd (hb.trans hb2.symm) hne
          | true => exact h4 i r hi h16 hR (hv'.mp hb2).2
      have hnew : ¬ yf (zs_i t 628 i v) i r := by
        unfold yf
        rw [e, if_pos rfl]
        intro q
        exact hne (Eq.trans hold q.symm)
      refine yp_c_lt (k := i * 16 + r) (fun q hq hx => ?_) (by omega) ?_ ?_
      · by_cases c1 : q / 16 ≤ yn G
        · exact hdown (q / 16) (q % 16) c1 (by omega) hx
        · unfold yf at hx ⊢
          rw [e, if_neg (by omega)] at hx
          exact hx
      · rw [show (i * 16 + r) / 16 = i by omega, show (i * 16 + r) % 16 = r by omega]; exact hnew
      · rw [show (i * 16 + r) / 16 = i by omega, show (i * 16 + r) % 16 = r by omega]; exact hold
theorem yf_sweep {l x : Int32} {B : Int32 → Int32 → Int32 → zs_T → Prop} {K : zs_T → Prop} (hok : yp_ok G) (hC : yp_C dp G st) (hd : dp + 4 < 12) (hA : yc_A G st) (hQ : yc_K G st) (hl : ∀ r, r < 32 → (bt l r = true ↔ r < 16 ∧ yp_un G r)) (hI : yf_I G st)
    (hB : ∀ (g : Bool) (t : zs_T), zs_ag 627 628 st t → yf_I G t → (g = false → t = st ∧ ∀ p, p < yn G → yp_R G p → ∀ r, r < 16 → yf st p r → yf_o G st p r) → (g = true → yf_c t < yf_c st) → B l (yb g) (x + 1) t) : ∃ n, zf_FR_find_103 dp K B n l 0 x (nI (yn G) - 1) st := by
  have hn := hok.n
  refine ⟨yn G + 1, pk_loopD (W := fun n i (t : Bool × zs_T) => zf_FR_find_103 dp K B n l (yb t.1) x (nI i - 1) t.2) (fun i t => i ≤ yn G ∧ zs_ag 627 628 st t.2 ∧ yf_I G t.2 ∧ (t.1 = false → t.2 = st ∧ ∀ p, i ≤ p → p < yn G → yp_R G p → ∀ r, r < 16 → yf st p r → yf_o G st p r) ∧ (t.1 = true → yf_c t.2 < yf_c st)) ?_ ?_ (yn G) (false, st) ⟨Nat.le_refl _, zs_ag.refl, hI, fun _ => ⟨rfl, fun p h1 h2 => by omega⟩, fun h => by cases h⟩⟩
  · rintro n ⟨g, t⟩ ⟨_, h1, h2, h3, h4⟩
    exact br_t (by show nI 0 - 1 < 0; decide) (hB g t h1 h2 (fun e => ⟨(h3 e).1, fun p hp => (h3 e).2 p (by omega) hp⟩) h4)
  · rintro n i ⟨g, t⟩ ⟨h0, h1, h2, h3, h4⟩ ih
    have hi : i < yn G := by omega
    show zf_FR_find_103 dp K B (n + 1) l (yb g) x (nI (i + 1) - 1) t
    rw [nI_pred]
    have ii : vp_in (nI i) 201 := vp_in_nI (by omega) (by omega)
    have hCt : yp_C dp G t := hC.ag h1 (by omega)
    have hAt : yc_A G t := by
      have := hA
      unfold yc_A yc_M yc_I yc_b at this ⊢
      rw [h1.e1 (show 16 < 627 ∨ _ by omega), h1.e1 (show 12 < 627 ∨ _ by omega), h1.e2 (show 13 < 627 ∨ _ by omega), h1.e2 (show 14 < 627 ∨ _ by omega)]
      exact this
    have hQt : yc_K G t := by
      refine ⟨fun p hp => ?_, fun p hp => ?_⟩
      · have := hQ.1 p hp
        unfold yR at this ⊢
        rw [h1.e1 (by omega)]; exact this
      · have hp' := yp_R_le hp
        have u := yk_un (t := t) (st := st) (d := 24 + 3 * p) (h1.e1 (by omega)) (h1.e1 (by omega)) (h1.e1 (by omega))
        obtain ⟨q1, q2, q3⟩ := hQ.2 p hp
        exact ⟨u.2.1 q1, u.2.2 q2, by rw [u.1]; exact q3⟩
    refine br_f (nI_pos (by omega)) ⟨ii, ?_⟩
    rw [nI_clamp (n := i) (by omega)]
    have hRi := hQt.1 i (by omega)
    unfold yR at hRi
    simp only [zf_FR_find_184]
    rw [yi_pm]
    refine br_c (fun c => ih (g, t) ⟨by omega, h1, h2, fun e => ⟨(h3 e).1, fun p hp hp' hR => ?_⟩, h4⟩) (fun c => ⟨ii, vp_in_nI (by omega) (by omega), ?_⟩)
    · by_cases ep : p = i
      · subst ep; exact absurd c (hRi.mpr hR)
      · exact (h3 e).2 p (by omega) hp' hR
    · have hR := hRi.mp c
      have h159 : ∀ v : Int32, (∀ r, r < 32 → (bt v r = true ↔ r < 16 ∧ yf_o G t i r)) → zf_FR_find_159 dp K B (zf_FR_find_103 dp K B n) l (yb g) x (nI i) (t.1 628 i) v (nI i) t := by
        intro v hv
        obtain ⟨u1, u2, u3⟩ := yf_up hok h2 hi hR hv
        unfold zf_FR_find_159
        refine ⟨ii, nm_e ?_⟩
        simp only [zf_FR_find_184, zf_FR_find_177, zf_FR_find_182]
        rw [yi_pm, nI_clamp (n := i) (by omega), yi_s]
        have ag' : zs_ag 627 628 st (zs_i t 628 i v) := h1.i (by omega) (by omega)
        cases g with
        | true =>
          refine ⟨fun _ => ih (true, _) ⟨by omega, ag', u1, (fun e => by cases e), fun _ => ?_⟩, fun h => by cases h⟩
          have h5 : yf_c t < yf_c st := h4 rfl
          show yf_c (zs_i t 628 i v) < yf_c st
          rcases u3 with u3 | u3
          · rw [← u3, yi_same]; exact h5
          · exact Nat.lt_trans u3 h5
        | false =>
          have ets : t = st := (h3 rfl).1
          refine ⟨fun h => absurd rfl h, fun _ => ⟨ii, br_c (fun e => ih (false, _) ⟨by omega, ag', u1, fun _ => ⟨?_, fun p hp hp' hRp r hr hy => ?_⟩, fun h => by cases h⟩) (fun e => ih (true, _) ⟨by omega, ag', u1, (fun e => by cases e), fun _ => ?_⟩)⟩⟩
          · show zs_i t 628 i v = st
            rw [e, yi_same]; exact ets
          · by_cases ep : p = i
            · subst ep
              rw [← ets] at hy ⊢
              refine ((hv r (by omega)).mp ?_).2
              rw [e]; exact hy
            · exact (h3 rfl).2 p (by omega) hp' hRp r hr hy
          · show yf_c (zs_i t 628 i v) < yf_c st
            rw [← ets]
            exact u3.resolve_left (fun q => e q.symm)
      have hk := hok.k hi
      rw [(hCt.2 i hi).1]
      refine And.intro (fun c14 => ?_) (fun c14 => ?_)
      · have c' : yk G i ≠ 14 := fun e => c14 (by rw [e]; rfl)
        exact yf_next hok hCt hd hAt hQt hi hR (fun v hv => h159 v (fun r hr => (hv r hr).trans ⟨fun q => ⟨q.1, fun k => absurd k c', q.2⟩, fun q => ⟨q.1, q.2.2⟩⟩))
      · have c' : yk G i = 14 := (nI_eq (by omega) (by omega)).mp c14
        refine h159 l (fun r hr => (hl r hr).trans ⟨fun q => ⟨q.1, fun _ => q.2, fun j hN => ?_⟩, fun q => ⟨q.1, q.2.1 c'⟩⟩)
        obtain ⟨_, ⟨a1, a2, a3⟩ | ⟨a1, a2⟩ | ⟨a1, a2⟩⟩ := hN
        · exact absurd c' a2
        · omega
        · omega
theorem yf_find {K : zs_T → Prop} (hok : yp_ok G) (hC : yp_C dp G st) (hd : dp + 4 < 12) (hA : yc_A G st) (hQ : yc_K G st) (hK : ∀ t, zs_ag 627 628 st t → yc_F G t → K t) : zf_FR_find dp st K := by
  have hn := hok.n
  have hl := hA.2.2.2
  unfold zf_FR_find
  refine pk_loop (W := fun n i (t : zs_T) => zf_FR_find_9 dp K n (st.1 12 5) (nI i) t) (fun i t => zs_ag 627 628 st t ∧ ∀ p, p < i → t.1 628 p = @ite Int32 (yp_R G p) (Classical.propDecidable _) 65535 0) (yn G) 0 st (by omega) ⟨zs_ag.refl, fun p h => by omega⟩ ?_ ?_
  · rintro n t ⟨h1, h2⟩
    have hCt : yp_C dp G t := hC.ag h1 (by omega)
    have inn : vp_in (nI (yn G)) 201 := vp_in_nI (by omega) (by omega)
    refine pk_le (yn G) (yn G) (fun _ => ?_) (fun h => by omega) hCt.1
    rw [hCt.1]
    refine ⟨inn, ?_⟩
    rw [nI_clamp (n := yn G) (by omega)]
    have hRn := hQ.1 (yn G) (by omega)
    unfold yR at hRn
    rw [show t.1 19 = st.1 19 from h1.e1 (by omega)]
    have h73 : ∀ v : Int32, (∀ r, r < 32 → (bt v r = true ↔ yp_R G (yn G) ∧ r < 16 ∧ yp_un G r)) → zf_FR_find_73 dp K (st.1 12 5) v (nI (yn G)) t := by
      intro v hv
      unfold zf_FR_find_73
      refine ⟨inn, nm_e ?_⟩
      rw [nI_clamp (n := yn G) (by omega)]
      have agu : zs_ag 627 628 st (zs_i t 628 (yn G) v) := h1.i (by omega) (by omega)
      have eu : ∀ p, p ≤ yn G → (zs_i t 628 (yn G) v).1 628 p = if p = yn G then v else @ite Int32 (yp_R G p) (Classical.propDecidable _) 65535 0 := fun p hp => by
        rw [yi_m]
        by_cases c : p = yn G
        · rw [if_pos ⟨rfl, c⟩, if_pos c]
        · rw [if_neg (fun q => c q.2), if_neg c]; exact h2 p (by omega)
      have hIu : yf_I G (zs_i t 628 (yn G) v) := by
        refine ⟨fun p r hp h16 h32 => ?_, fun p r hp hr h => ?_, fun B p r hB hp hr h => ?_, fun p r hp hr hR _ => ?_⟩
        · rw [eu p hp]
          by_cases c : p = yn G
          · rw [if_pos c]; exact ts_nt (fun q => by have := (hv r h32).mp q; omega)
          · rw [if_neg c]
            by_cases c2 : yp_R G p
            · rw [if_pos c2, b_65535, decide_eq_false (by omega)]
            · rw [if_neg c2, b_0]
        · unfold yf at h
          rw [eu p hp] at h
          by_cases c : p = yn G
          · rw [if_pos c] at h
            have := (hv r (by omega)).mp h
            exact ⟨by rw [c]; exact this.1, fun _ => this.2.2⟩
          · rw [if_neg c] at h
            by_cases c2 : yp_R G p
            · exact ⟨c2, fun e => absurd e c⟩
            · rw [if_neg c2, b_0] at h; cases h
        · unfold yf
          rw [eu p hp]
          have := hB p r h
          by_cases c : p = yn G
          · rw [if_pos c]
            exact (hv r (by omega)).mpr ⟨by rw [← c]; exact this.1, hr, this.2.1 (Or.inl c)⟩
          · rw [if_neg c, if_pos this.1, b_65535, decide_eq_true hr]
        · unfold yf
          rw [eu p (by omega), if_neg (by omega), if_pos hR, b_65535, decide_eq_true hr]
      refine loop_m (σ := Bool × Nat × zs_T) (fun n s => zf_FR_find_80 dp K n (st.1 12 5) (yb s.1) (nI s.2.1) s.2.2) (fun s => zs_ag 627 628 st s.2.2 ∧ yf_I G s.2.2 ∧ (s.1 = false → ∀ p, p < yn G → yp_R G p → ∀ r, r < 16 → yf s.2.2 p r → yf_o G s.2.2 p r) ∧ (s.1 = true → s.2.1 + yf_c s.2.2 ≤ 3216)) (fun s => yf_c s.2.2 + (if s.1 then 1 else 0)) ?_ (true, 0, zs_i t 628 (yn G) v) ⟨agu, hIu, (fun h => by cases h), fun _ => by have := yp_c_le (fun q => yf (zs_i t 628 (yn G) v) (q / 16) (q % 16)) 3216; unfold yf_c; simpa using this⟩
      rintro m ⟨g, k, w⟩ ⟨w1, w2, w3, w4⟩ ih
      cases g with
      | false =>
        refine ⟨fun _ => hK w w1 (fun p r hp hr => ?_), fun h => absurd rfl h⟩
        obtain ⟨y1, y2, y3, y4⟩ := w2
        have w5 := w3 rfl
        constructor
        · intro hy
          have h16 : r < 16 := by
            apply Classical.byContradiction
            intro q
            have : bt (w.1 628 p) r = false := y1 p r hp (by omega) hr
            rw [this] at hy; cases hy
          refine ⟨h16, fun p r => p ≤ yn G ∧ r < 16 ∧ yf w p r, fun p r hx => ?_, ⟨hp, h16, hy⟩⟩
          obtain ⟨x1, x2, x3⟩ := hx
          have x4 := y2 p r x1 x2 x3
          refine ⟨x4.1, fun e => ?_, fun j hN => ?_⟩
          · by_cases e2 : p = yn G
            · exact x4.2 e2
            · exact (w5 p (by omega) x4.1 r x2 x3).1 (e.resolve_left e2)
          · have hpn := hN.1
            have hj := yp_N_le hN
            refine yp_B_mono (fun q => ⟨hj, x2, q⟩) (fun hk hjn q => ?_) ((w5 p hpn x4.1 r x2 x3).2 j hN)
            have hjn' : j < yn G := by omega
            exact ⟨hj, hok.a hjn' (by omega), q⟩
        · rintro ⟨h16, B, hB, hx⟩
          exact y3 B p r hB hp h16 hx
      | true =>
        have h6 : k + yf_c w ≤ 3216 := w4 rfl
        refine ⟨(fun h => by cases h), fun _ => ?_⟩
        refine pk_le 1000000 k (fun h => by omega) (fun _ => ?_)
        have hCw : yp_C dp G w := hC.ag w1 (by omega)
        have hAw : yc_A G w := by
          have := hA
          unfold yc_A yc_M yc_I yc_b at this ⊢
          rw [w1.e1 (show 16 < 627 ∨ _ by omega), w1.e1 (show 12 < 627 ∨ _ by omega), w1.e2 (show 13 < 627 ∨ _ by omega), w1.e2 (show 14 < 627 ∨ _ by omega)]
          exact this
        have hQw : yc_K G w := by
          refine ⟨fun p hp => ?_, fun p hp => ?_⟩
          · have := hQ.1 p hp
            unfold yR at this ⊢
            rw [w1.e1 (by omega)]; exact this
          · have hp' := yp_R_le hp
            have u := yk_un (t := w) (st := st) (d := 24 + 3 * p) (w1.e1 (by omega)) (w1.e1 (by omega)) (w1.e1 (by omega))
            obtain ⟨q1, q2, q3⟩ := hQ.2 p hp
            exact ⟨u.2.1 q1, u.2.2 q2, by rw [u.1]; exact q3⟩
        rw [hCw.1]
        refine yf_sweep hok hCw hd hAw hQw hl w2 (fun g' t' k1 k2 k3 k4 => ?_)
        rw [nI_1]
        refine ih (g', k + 1, t') ⟨w1.trans k1, k2, fun e => ?_, fun e => ?_⟩ ?_
        · have e' : g' = false := e
          have := k3 e'
          show ∀ p, p < yn G → yp_R G p → ∀ r, r < 16 → yf t' p r → yf_o G t' p r
          rw [this.1]; exact this.2
        · have e' : g' = true := e
          have k5 : yf_c t' < yf_c w := k4 e'
          show k + 1 + yf_c t' ≤ 3216
          omega
        · show yf_c t' + (if g' = true then 1 else 0) < yf_c w + 1
          cases g' with
          | false =>
            have := (k3 rfl).1
            rw [this]; simp
          | true =>
            have k5 : yf_c t' < yf_c w := k4 rfl
            simp; omega
    refine br_c (fun c => h73 0 (fun r hr => ?_)) (fun c => h73 _ (fun r hr => ?_))
    · rw [b_0]
      exact ⟨(fun h => by cases h), fun h => absurd c (hRn.mpr h.1)⟩
    · exact (hl r hr).trans ⟨fun h => ⟨hRn.mp c, h⟩, fun h => h.2⟩
  · rintro n i t hi ⟨h1, h2⟩ ih
    have hCt : yp_C dp G t := hC.ag h1 (by omega)
    have ii : vp_in (nI i) 201 := vp_in_nI (by omega) (by omega)
    refine pk_le (yn G) i (fun h => by omega) (fun _ => ⟨ii, ?_⟩) hCt.1
    have hRi := hQ.1 i (by omega)
    unfold yR at hRi
    rw [nI_clamp (n := i) (by omega), show t.1 19 = st.1 19 from h1.e1 (by omega)]
    have h40 : ∀ v : Int32, v = @ite Int32 (yp_R G i) (Classical.propDecidable _) 65535 0 → zf_FR_find_40 dp K (zf_FR_find_9 dp K n) (st.1 12 5) (nI i) v (nI i) t := by
      intro v hv
      unfold zf_FR_find_40
      refine ⟨ii, nm_e ?_⟩
      rw [nI_1, nI_clamp (n := i) (by omega)]
      refine ih _ ⟨h1.i (by omega) (by omega), fun p hp => ?_⟩
      rw [yi_m]
      by_cases c : p = i
      · rw [if_pos ⟨rfl, c⟩, hv, c]
      · rw [if_neg (fun q => c q.2)]; exact h2 p (by omega)
    refine br_c (fun c => h40 0 (by rw [if_neg (fun e => hRi.mpr e c)])) (fun c => h40 65535 (by rw [if_pos (hRi.mp c)]))
/-- all that is looked for, in the class -/
def yc_X (G : yp_G) (t : zs_T) : Prop := yc_A G t ∧ yc_K G t ∧ yc_F G t
theorem yc_look {K : zs_T → Prop} (hok : yp_ok G) (hC : yp_C dp G st) (hd : dp + 4 < 12) (hK : ∀ t, zs_ag 12 628 st t → yc_X G t → K t) : zf_TS_lookThrough dp st K := by
  unfold zf_TS_lookThrough
  refine yc_find hok hC hd (fun t1 a1 A1 => yk_find hok (hC.ag a1 (by omega)) hd A1 (fun t2 a2 Q2 => ?_))
  have A2 : yc_A G t2 := by
    have := A1
    unfold yc_A yc_M yc_I yc_b at this ⊢
    rw [a2.e1 (show 16 < 17 ∨ _ by omega), a2.e1 (show 12 < 17 ∨ _ by omega), a2.e2 (show 13 < 17 ∨ _ by omega), a2.e2 (show 14 < 17 ∨ _ by omega)]
    exact this
  have C2 : yp_C dp G t2 := (hC.ag a1 (by omega)).ag a2 (by omega)
  refine yf_find hok C2 hd A2 Q2 (fun t3 a3 F3 => hK t3 ?_ ⟨?_, ?_, F3⟩)
  · exact ((a1.wide (by omega) (by omega)).trans (a2.wide (by omega) (by omega))).trans (a3.wide (by omega) (by omega))
  · have := A2
    unfold yc_A yc_M yc_I yc_b at this ⊢
    rw [a3.e1 (show 16 < 627 ∨ _ by omega), a3.e1 (show 12 < 627 ∨ _ by omega), a3.e2 (show 13 < 627 ∨ _ by omega), a3.e2 (show 14 < 627 ∨ _ by omega)]
    exact this
  · have hn := hok.n
    refine ⟨fun p hp => ?_, fun p hp => ?_⟩
    · have := Q2.1 p hp
      unfold yR at this ⊢
      rw [a3.e1 (by omega)]; exact this
    · have hp' := yp_R_le hp
      have u := yk_un (t := t3) (st := t2) (d := 24 + 3 * p) (a3.e1 (by omega)) (a3.e1 (by omega)) (a3.e1 (by omega))
      obtain ⟨q1, q2, q3⟩ := Q2.2 p hp
      exact ⟨u.2.1 q1, u.2.2 q2, by rw [u.1]; exact q3⟩
end YL
