/-! what is known, in the class: one point passed on -/
/-- sums -/
def yp_sm (f : Nat → Nat) : Nat → Nat
  | 0 => 0
  | n + 1 => yp_sm f n + f n
theorem yp_sm_le {f g : Nat → Nat} {n : Nat} (h : ∀ i, i < n → f i ≤ g i) : yp_sm f n ≤ yp_sm g n := by
  induction n with
  | zero => exact Nat.le_refl 0
  | succ n ih => have := ih (fun i hi => h i (by omega)); have := h n (by omega); unfold yp_sm; omega
theorem yp_sm_lt {f g : Nat → Nat} {n k : Nat} (h : ∀ i, i < n → f i ≤ g i) (hk : k < n) (h2 : f k < g k) : yp_sm f n < yp_sm g n := by
  induction n with
  | zero => omega
  | succ n ih =>
    unfold yp_sm
    have h3 := h n (by omega)
    by_cases e : k = n
    · subst e
      have := yp_sm_le (f := f) (g := g) (n := k) (fun i hi => h i (by omega))
      omega
    · have := ih (fun i hi => h i (by omega)) (by omega)
      omega
theorem yp_sm_c {f : Nat → Nat} {n c : Nat} (h : ∀ i, i < n → f i ≤ c) : yp_sm f n ≤ n * c := by
  induction n with
  | zero => simp [yp_sm]
  | succ n ih => have := ih (fun i hi => h i (by omega)); have := h n (by omega); unfold yp_sm; rw [Nat.succ_mul]; omega
noncomputable def yk_n (F : yp_Q) : Nat := yp_c (fun x => F (x / 256) (x / 16 % 16) (x % 16)) 768
theorem yk_n_le (F : yp_Q) : yk_n F ≤ 768 := yp_c_le _ _
theorem yk_n_mono {F F' : yp_Q} (h : ∀ q r s, F q r s → F' q r s) : yk_n F ≤ yk_n F' := yp_c_mono (fun _ _ hx => h _ _ _ hx)
theorem yk_n_lt {F F' : yp_Q} (h : ∀ q r s, F q r s → F' q r s) {q r s : Nat} (hq : q < 3) (hr : r < 16) (hs : s < 16) (h1 : ¬ F q r s) (h2 : F' q r s) : yk_n F < yk_n F' := by
  have e1 : (q * 256 + r * 16 + s) / 256 = q := by omega
  have e2 : (q * 256 + r * 16 + s) / 16 % 16 = r := by omega
  have e3 : (q * 256 + r * 16 + s) % 16 = s := by omega
  exact yp_c_lt (k := q * 256 + r * 16 + s) (fun _ _ hx => h _ _ _ hx) (by omega) (by rw [e1, e2, e3]; exact h1) (by rw [e1, e2, e3]; exact h2)
noncomputable def yk_w (t : zs_T) (p : Nat) : Nat := @ite Nat (yR t p) (Classical.propDecidable _) (yk_n (yk_F t (24 + 3 * p)) + @ite Nat (yW t p) (Classical.propDecidable _) 1 0) 770
noncomputable def yk_m (t : zs_T) : Nat := yp_sm (yk_w t) 201
theorem yk_w_le (t : zs_T) (p : Nat) : yk_w t p ≤ 770 := by
  unfold yk_w
  have := yk_n_le (yk_F t (24 + 3 * p))
  split
  · split <;> omega
  · omega
theorem yk_m_le (t : zs_T) : yk_m t ≤ 154770 := by
  have := yp_sm_c (f := yk_w t) (n := 201) (c := 770) (fun i _ => yk_w_le t i)
  unfold yk_m
  omega
/-- what holds while it is sought, but for the passing on from those in X -/
def yk_J (G : yp_G) (X : Nat → Prop) (t : zs_T) : Prop := (∀ p, p < 201 → yR t p → yp_R G p) ∧ yR t 0 ∧ (∀ p, p < 201 → yR t p → yk_ok t (24 + 3 * p) ∧ yk_sy t (24 + 3 * p) ∧ ∀ S, yp_S G S → yp_le (S p) (yk_F t (24 + 3 * p))) ∧ (∀ q r s, yk_F t 24 q r s → q = 0 ∧ r ≠ s) ∧ (∀ p, p < 201 → yW t p → yR t p) ∧ ∀ p j, p < yn G → ¬ X p → yR t p → ¬ yW t p → yp_N G p j → yR t j ∧ ∀ q r s, yk_F t (24 + 3 * j) q r s → yp_T G p (yk_F t (24 + 3 * p)) q r s
/-- while i is passed on: X its facts, as they were -/
def yk_H (G : yp_G) (i : Nat) (X : yp_Q) (t : zs_T) : Prop := yk_J G (fun p => p = i) t ∧ yR t i ∧ yk_ok t 21 ∧ yk_sy t 21 ∧ (∀ q r s, q < 3 → r < 16 → s < 16 → (yk_F t 21 q r s ↔ yp_T G i X q r s)) ∧ (¬ yW t i → yk_F t (24 + 3 * i) = X) ∧ ∀ S, yp_S G S → yp_le (S i) X
def yk_L (j : Nat) (t : zs_T) : Prop := yR t j ∧ ∀ q r s, yk_F t (24 + 3 * j) q r s → yk_F t 21 q r s
theorem yk_flowH {G : yp_G} {i j k : Nat} {X : yp_Q} {st : zs_T} {K : zs_T → Prop} (hok : yp_ok G) (hi : i < yn G) (hN : yp_N G i j) (h : yk_H G i X st)
    (hK : ∀ t, (∀ x, x < 19 ∨ 626 < x → t.1 x = st.1 x ∧ t.2 x = st.2 x) → yk_H G i X t → yk_L j t → (yk_L k st → yk_L k t) → yk_m t ≤ yk_m st → K t) : zf_KN_flowTo (nI j) st K := by
  have hn := hok.n
  have hj := yp_N_le hN
  obtain ⟨⟨j1, j2, j3, j4, j5, j6⟩, h2, h3, h4, h5, h6, h7⟩ := h
  have hRi : yp_R G i := j1 i (by omega) h2
  have hRj : yp_R G j := yp_R_s hRi hN
  refine yk_flow (by omega) (fun hr => ⟨(j3 j (by omega) hr).1, (j3 j (by omega) hr).2.1⟩) h3 h4 (fun t fr f19 f20 tR tW tok tsy tF tWm tWn tWi => ?_)
  have u : ∀ p, p ≠ j → yk_F t (24 + 3 * p) = yk_F st (24 + 3 * p) ∧ (yk_ok st (24 + 3 * p) → yk_ok t (24 + 3 * p)) ∧ (yk_sy st (24 + 3 * p) → yk_sy t (24 + 3 * p)) := fun p hp => yk_un (fr _ (by omega) (by omega) (by omega)).1 (fr _ (by omega) (by omega) (by omega)).1 (fr _ (by omega) (by omega) (by omega)).1
  have u21 := yk_un (t := t) (st := st) (d := 21) (fr _ (by omega) (by omega) (by omega)).1 (fr _ (by omega) (by omega) (by omega)).1 (fr _ (by omega) (by omega) (by omega)).1
  have hsol : ∀ S, yp_S G S → yp_le (S j) (yk_F st 21) := fun S hS q r s hq hr hs hx => (h5 q r s hq hr hs).mpr (yp_T_mono hok hi (h7 S hS) q r s hq hr hs (hS.2 i j hRi hN q r s hx))
  have hLj : yk_L j t := ⟨(tR j).mpr (Or.inr rfl), fun q r s hx => by rw [u21.1]; exact ((tF q r s).mp hx).2⟩
  have hdown : yR st j → ∀ q r s, yk_F t (24 + 3 * j) q r s → yk_F st (24 + 3 * j) q r s := fun hr q r s hx => ((tF q r s).mp hx).1 hr
  have hJ : yk_J G (fun p => p = i) t := by
    refine ⟨fun p hp hr => ?_, (tR 0).mpr (Or.inl j2), fun p hp hr => ?_, ?_, fun p hp hw => ?_, fun p q hp hX hr hw hN' => ?_⟩
    · rcases (tR p).mp hr with hr | hr
      · exact j1 p hp hr
      · rw [hr]; exact hRj
    · by_cases c : p = j
      · subst c
        refine ⟨tok, tsy, fun S hS q r s hq hr' hs hx => (tF q r s).mpr ⟨fun hr2 => (j3 p hp hr2).2.2 S hS q r s hq hr' hs hx, hsol S hS q r s hq hr' hs hx⟩⟩
      · have hr' := ((tR p).mp hr).resolve_right c
        obtain ⟨k1, k2, k3⟩ := j3 p hp hr'
        obtain ⟨u1, u2, u3⟩ := u p c
        exact ⟨u2 k1, u3 k2, fun S hS => by rw [u1]; exact k3 S hS⟩
    · intro q r s hx
      by_cases c : j = 0
      · subst c
        exact j4 q r s (hdown j2 q r s hx)
      · have u1 := (u 0 (fun e => c e.symm)).1
        rw [show 24 + 3 * 0 = 24 from rfl] at u1
        rw [u1] at hx
        exact j4 q r s hx
    · by_cases c : p = j
      · exact (tR p).mpr (Or.inr c)
      · exact (tR p).mpr (Or.inl (j5 p hp ((tW p c).mp hw)))
    · by_cases c : p = j
      · subst c
        have hr' : yR st p := Classical.byContradiction (fun e => hw (tWn e))
        have hw' : ¬ (yW st p ∨ ∃ q r s, yk_F st (24 + 3 * p) q r s ∧ ¬ yk_F st 21 q r s) := fun e => hw ((tWi hr').mpr e)
        have hsame : yk_F t (24 + 3 * p) = yk_F st (24 + 3 * p) := by
          funext a b c
          apply propext
          refine ⟨hdown hr' a b c, fun hx => (tF a b c).mpr ⟨fun _ => hx, Classical.byContradiction (fun e => hw' (Or.inr ⟨a, b, c, hx, e⟩))⟩⟩
        obtain ⟨k1, k2⟩ := j6 p q hp hX hr' (fun e => hw' (Or.inl e)) hN'
        refine ⟨(tR q).mpr (Or.inl k1), fun a b c hx => ?_⟩
        rw [hsame]
        apply k2
        by_cases c' : q = p
        · subst c'; rw [hsame] at hx; exact hx
        · rw [(u q c').1] at hx; exact hx
      · have hr' := ((tR p).mp hr).resolve_right c
        obtain ⟨k1, k2⟩ := j6 p q hp hX hr' (fun e => hw ((tW p c).mpr e)) hN'
        refine ⟨(tR q).mpr (Or.inl k1), fun a b d hx => ?_⟩
        rw [(u p c).1]
        apply k2
        by_cases c' : q = j
        · subst c'; exact hdown k1 a b d hx
        · rw [(u q c').1] at hx; exact hx
  refine hK t (fun x hx => fr x (by omega) (by omega) (by omega)) ⟨hJ, (tR i).mpr (Or.inl h2), u21.2.1 h3, u21.2.2 h4, fun q r s hq hr hs => by rw [u21.1]; exact h5 q r s hq hr hs, fun hw => ?_, h7⟩ hLj (fun hk => ?_) ?_
  · by_cases c : i = j
    · subst c
      have hw' : ¬ (yW st i ∨ ∃ q r s, yk_F st (24 + 3 * i) q r s ∧ ¬ yk_F st 21 q r s) := fun e => hw ((tWi h2).mpr e)
      rw [← h6 (fun e => hw' (Or.inl e))]
      funext a b c
      apply propext
      exact ⟨hdown h2 a b c, fun hx => (tF a b c).mpr ⟨fun _ => hx, Classical.byContradiction (fun e => hw' (Or.inr ⟨a, b, c, hx, e⟩))⟩⟩
    · rw [(u i c).1]
      exact h6 (fun e => hw ((tW i c).mpr e))
  · refine ⟨(tR k).mpr (Or.inl hk.1), fun q r s hx => ?_⟩
    by_cases c : k = j
    · subst c; exact hLj.2 q r s hx
    · rw [u21.1]
      rw [(u k c).1] at hx
      exact hk.2 q r s hx
  · refine yp_sm_le (fun p hp => ?_)
    unfold yk_w
    by_cases c : p = j
    · subst c
      rw [if_pos hLj.1]
      by_cases hr : yR st p
      · rw [if_pos hr]
        by_cases hl : ∃ q r s, yk_F st (24 + 3 * p) q r s ∧ ¬ yk_F st 21 q r s
        · obtain ⟨q, r, s, l1, l2⟩ := hl
          have := yk_n_lt (F := yk_F t (24 + 3 * p)) (F' := yk_F st (24 + 3 * p)) (hdown hr) l1.1 l1.2.1 l1.2.2.1 (fun e => l2 ((tF q r s).mp e).2) l1
          split <;> split <;> omega
        · have h8 := yk_n_mono (F := yk_F t (24 + 3 * p)) (F' := yk_F st (24 + 3 * p)) (hdown hr)
          have h9 : yW t p ↔ yW st p := (tWi hr).trans ⟨fun e => e.elim id (fun e => absurd e hl), Or.inl⟩
          by_cases hw : yW st p
          · rw [if_pos hw, if_pos (h9.mpr hw)]; omega
          · rw [if_neg hw, if_neg (fun e => hw (h9.mp e))]; omega
      · rw [if_neg hr]
        have := yk_n_le (yk_F t (24 + 3 * p))
        split <;> omega
    · rw [(u p c).1]
      have h8 : yR t p ↔ yR st p := (tR p).trans ⟨fun e => e.resolve_right c, Or.inl⟩
      have h9 := tW p c
      by_cases hr : yR st p
      · rw [if_pos hr, if_pos (h8.mpr hr)]
        by_cases hw : yW st p
        · rw [if_pos hw, if_pos (h9.mpr hw)]; omega
        · rw [if_neg hw, if_neg (fun e => hw (h9.mp e))]; omega
      · rw [if_neg hr, if_neg (fun e => hr (h8.mp e))]; omega
