/-! thrift, as mathematics -/
/-- the least below n, or n -/
noncomputable def yt_lv (p : Nat → Prop) : Nat → Nat
  | 0 => 0
  | n + 1 => @ite Nat (yt_lv p n < n) (Classical.propDecidable _) (yt_lv p n) (@ite Nat (p n) (Classical.propDecidable _) n (n + 1))
theorem yt_lv_le (p : Nat → Prop) (n : Nat) : yt_lv p n ≤ n := by
  induction n with
  | zero => exact Nat.le_refl 0
  | succ n ih =>
    unfold yt_lv
    by_cases c : yt_lv p n < n
    · rw [if_pos c]; omega
    · rw [if_neg c]
      by_cases c2 : p n
      · rw [if_pos c2]; omega
      · rw [if_neg c2]; omega
theorem yt_lv_no {p : Nat → Prop} {n v : Nat} (h : v < yt_lv p n) : ¬ p v := by
  induction n with
  | zero => exact absurd h (Nat.not_lt_zero v)
  | succ n ih =>
    have l := yt_lv_le p n
    unfold yt_lv at h
    by_cases c : yt_lv p n < n
    · rw [if_pos c] at h; exact ih h
    · rw [if_neg c] at h
      by_cases c2 : p n
      · rw [if_pos c2] at h; exact ih (by omega)
      · rw [if_neg c2] at h
        by_cases c3 : v = n
        · rw [c3]; exact c2
        · exact ih (by omega)
theorem yt_lv_p {p : Nat → Prop} {n : Nat} (h : yt_lv p n < n) : p (yt_lv p n) := by
  induction n with
  | zero => exact absurd h (Nat.not_lt_zero _)
  | succ n ih =>
    unfold yt_lv at h ⊢
    by_cases c : yt_lv p n < n
    · rw [if_pos c]; exact ih c
    · rw [if_neg c] at h ⊢
      by_cases c2 : p n
      · rw [if_pos c2]; exact c2
      · rw [if_neg c2] at h; omega
theorem yt_lv_eq {p : Nat → Prop} {n v : Nat} (h1 : v < n) (h2 : p v) (h3 : ∀ w, w < v → ¬ p w) : yt_lv p n = v := by
  rcases Nat.lt_trichotomy (yt_lv p n) v with h | h | h
  · exact absurd (yt_lv_p (by omega)) (h3 _ h)
  · exact h
  · exact absurd h2 (yt_lv_no h)
/-- an edit: kind, first, second, fate -/
abbrev yt_e : Type := Option (Nat × Nat × Nat × Nat)
def yt_o {α : Type} (c : Bool) (e : yt_e) (g : Nat × Nat × Nat × Nat → α) (d : α) : α := match c, e with
  | true, some e => g e
  | _, _ => d
theorem yt_o_f {α : Type} (e : yt_e) (g : Nat × Nat × Nat × Nat → α) (d : α) : yt_o false e g d = d := rfl
theorem yt_o_n {α : Type} (c : Bool) (g : Nat × Nat × Nat × Nat → α) (d : α) : yt_o c none g d = d := by cases c <;> rfl
theorem yt_o_s {α : Type} (e : Nat × Nat × Nat × Nat) (g : Nat × Nat × Nat × Nat → α) (d : α) : yt_o true (some e) g d = g e := rfl
def yt_ap (E : Nat → yt_e) (k : Nat) (H : yp_G) : yp_G := (yn H, fun i => yt_o (decide (i < k)) (E i) (fun e => e.1) (yk H i), fun i => yt_o (decide (i < k)) (E i) (fun e => e.2.1) (ya H i), fun i => yt_o (decide (i < k)) (E i) (fun e => nI e.2.2.1) (yx H i), fun i => yt_o (decide (i < k)) (E i) (fun _ => 0) (yd H i))
def yt_fa (E : Nat → yt_e) (k : Nat) (f : Nat → Nat) : Nat → Nat := fun i => yt_o (decide (i < k)) (E i) (fun e => e.2.2.2) (f i)
def yt_n (E : Nat → yt_e) : Nat → Nat
  | 0 => 0
  | k + 1 => yt_n E k + yt_o true (E k) (fun _ => 1) 0
theorem yt_dec0 (i : Nat) : decide (i < 0) = false := decide_eq_false (by omega)
theorem yt_ap_0 (E : Nat → yt_e) (H : yp_G) : yt_ap E 0 H = H := by
  unfold yt_ap
  simp only [yt_dec0, yt_o_f]
  rfl
theorem yt_fa_0 (E : Nat → yt_e) (f : Nat → Nat) : yt_fa E 0 f = f := by
  unfold yt_fa
  simp only [yt_dec0, yt_o_f]
theorem yt_step {α : Type} {E : Nat → yt_e} {k i : Nat} (g : Nat × Nat × Nat × Nat → α) (d : α) (h : i ≠ k ∨ E k = none) : yt_o (decide (i < k + 1)) (E i) g d = yt_o (decide (i < k)) (E i) g d := by
  by_cases c : i = k
  · subst c
    rcases h with h | h
    · exact absurd rfl h
    · rw [h, yt_o_n, yt_o_n]
  · by_cases c2 : i < k
    · rw [decide_eq_true c2, decide_eq_true (by omega)]
    · rw [decide_eq_false c2, decide_eq_false (by omega)]
theorem yt_at {α : Type} {E : Nat → yt_e} {k : Nat} {e : Nat × Nat × Nat × Nat} (g : Nat × Nat × Nat × Nat → α) (d : α) (h : E k = some e) : yt_o (decide (k < k + 1)) (E k) g d = g e := by
  rw [decide_eq_true (by omega), h, yt_o_s]
theorem yt_be {α : Type} {E : Nat → yt_e} {k : Nat} (g : Nat × Nat × Nat × Nat → α) (d : α) : yt_o (decide (k < k)) (E k) g d = d := by
  rw [decide_eq_false (by omega), yt_o_f]
theorem yt_ap_none {E : Nat → yt_e} {k : Nat} {H : yp_G} (h : E k = none) : yt_ap E (k + 1) H = yt_ap E k H := by
  unfold yt_ap
  congr 1
  congr 1
  · funext i; exact yt_step _ _ (Or.inr h)
  · congr 1
    · funext i; exact yt_step _ _ (Or.inr h)
    · congr 1
      · funext i; exact yt_step _ _ (Or.inr h)
      · funext i; exact yt_step _ _ (Or.inr h)
theorem yt_fa_none {E : Nat → yt_e} {k : Nat} {f : Nat → Nat} (h : E k = none) : yt_fa E (k + 1) f = yt_fa E k f := by
  funext i
  exact yt_step _ _ (Or.inr h)
theorem yt_n_none {E : Nat → yt_e} {k : Nat} (h : E k = none) : yt_n E (k + 1) = yt_n E k := by
  show yt_n E k + yt_o true (E k) (fun _ => 1) 0 = _
  rw [h, yt_o_n]
  rfl
theorem yt_n_some {E : Nat → yt_e} {k : Nat} {e : Nat × Nat × Nat × Nat} (h : E k = some e) : yt_n E (k + 1) = yt_n E k + 1 := by
  show yt_n E k + yt_o true (E k) (fun _ => 1) 0 = _
  rw [h, yt_o_s]
theorem yt_n_le (E : Nat → yt_e) (k : Nat) : yt_n E k ≤ k := by
  induction k with
  | zero => exact Nat.le_refl 0
  | succ k ih =>
    cases h : E k with
    | none => rw [yt_n_none h]; omega
    | some e => rw [yt_n_some h]; omega
theorem yt_n_0 {E : Nat → yt_e} {k : Nat} (h : yt_n E k = 0) : ∀ i, i < k → E i = none := by
  induction k with
  | zero => exact fun i hi => absurd hi (Nat.not_lt_zero i)
  | succ k ih =>
    intro i hi
    cases h2 : E k with
    | none =>
      rw [yt_n_none h2] at h
      by_cases c : i = k
      · rw [c]; exact h2
      · exact ih h i (by omega)
    | some e => rw [yt_n_some h2] at h; omega
theorem yt_ap_all {E : Nat → yt_e} {k : Nat} {H : yp_G} {f : Nat → Nat} (h : ∀ i, i < k → E i = none) : yt_ap E k H = H ∧ yt_fa E k f = f := by
  induction k with
  | zero => exact ⟨yt_ap_0 E H, yt_fa_0 E f⟩
  | succ k ih =>
    rw [yt_ap_none (h k (by omega)), yt_fa_none (h k (by omega))]
    exact ih (fun i hi => h i (by omega))
theorem yt_ap_ok {E : Nat → yt_e} {k : Nat} {H : yp_G} (hok : yp_ok H) (h : ∀ i e, i < yn H → E i = some e → yp_w e.1 e.2.1 (nI e.2.2.1) 0) : yp_ok (yt_ap E k H) := by
  refine ⟨hok.1, fun i hi => ?_⟩
  have hi' : i < yn H := hi
  show yp_w (yt_o (decide (i < k)) (E i) (fun e => e.1) (yk H i)) (yt_o (decide (i < k)) (E i) (fun e => e.2.1) (ya H i)) (yt_o (decide (i < k)) (E i) (fun e => nI e.2.2.1) (yx H i)) (yt_o (decide (i < k)) (E i) (fun _ => 0) (yd H i))
  cases hc : decide (i < k) with
  | false => exact hok.2 i hi'
  | true =>
    cases he : E i with
    | none => exact hok.2 i hi'
    | some e => exact h i e hi' he
theorem yt_ap_w {E : Nat → yt_e} {N : Nat} {H : yp_G} (h : ∀ i e, i < N → E i = some e → (yk H i = 9 ∨ yk H i = 10) ∧ e.1 ≠ 9 ∧ e.1 ≠ 10) : ∀ m, m ≤ N → yp_c (fun i => yk (yt_ap E N H) i = 9 ∨ yk (yt_ap E N H) i = 10) m + yt_n E m = yp_c (fun i => yk H i = 9 ∨ yk H i = 10) m := by
  intro m
  induction m with
  | zero => intro _; rfl
  | succ m ih =>
    intro hm
    have ih' := ih (by omega)
    cases he : E m with
    | none =>
      rw [yt_n_none he]
      have e : yk (yt_ap E N H) m = yk H m := by
        show yt_o (decide (m < N)) (E m) (fun e => e.1) (yk H m) = _
        rw [he, yt_o_n]
      unfold yp_c
      rw [e]
      omega
    | some x =>
      rw [yt_n_some he]
      have e : yk (yt_ap E N H) m = x.1 := by
        show yt_o (decide (m < N)) (E m) (fun e => e.1) (yk H m) = _
        rw [he, decide_eq_true (by omega), yt_o_s]
      obtain ⟨h1, h2, h3⟩ := h m x (by omega) he
      unfold yp_c
      rw [e, if_neg (by omega), if_pos h1]
      omega
/-- the two passes -/
noncomputable def yt_fv (H : yp_G) (i : Nat) : Nat := yt_lv (fun v => yp_F H i 1 (ye H i) v) 16
noncomputable def yt_F (H : yp_G) (i : Nat) : yt_e := @ite yt_e (yp_R H i ∧ yk H i = 9 ∧ yt_fv H i < 16) (Classical.propDecidable _) (some (1, ya H i, yt_fv H i, 1)) (@ite yt_e (yp_R H i ∧ yk H i = 10 ∧ yp_F H i 1 (ya H i) (ye H i)) (Classical.propDecidable _) (some (15, 0, 0, 2)) none)
noncomputable def yt_D (H : yp_G) (i : Nat) : yt_e := @ite yt_e (yp_R H i ∧ yk H i = 10 ∧ yp_F H i 2 (ya H i) 0 ∧ yp_fr H i (ya H i)) (Classical.propDecidable _) (some (15, 0, 0, 3)) none
section YT
variable {H : yp_G} {i : Nat}
theorem yt_F_l (h1 : yp_R H i) (h2 : yk H i = 9) (h3 : yt_fv H i < 16) : yt_F H i = some (1, ya H i, yt_fv H i, 1) := by
  unfold yt_F
  rw [if_pos ⟨h1, h2, h3⟩]
theorem yt_F_s (h1 : yp_R H i) (h2 : yk H i = 10) (h3 : yp_F H i 1 (ya H i) (ye H i)) : yt_F H i = some (15, 0, 0, 2) := by
  unfold yt_F
  rw [if_neg (fun q => by omega), if_pos ⟨h1, h2, h3⟩]
theorem yt_F_n (h1 : ¬ (yp_R H i ∧ yk H i = 9 ∧ yt_fv H i < 16)) (h2 : ¬ (yp_R H i ∧ yk H i = 10 ∧ yp_F H i 1 (ya H i) (ye H i))) : yt_F H i = none := by
  unfold yt_F
  rw [if_neg h1, if_neg h2]
theorem yt_D_s (h : yp_R H i ∧ yk H i = 10 ∧ yp_F H i 2 (ya H i) 0 ∧ yp_fr H i (ya H i)) : yt_D H i = some (15, 0, 0, 3) := by
  unfold yt_D
  rw [if_pos h]
theorem yt_D_n (h : ¬ (yp_R H i ∧ yk H i = 10 ∧ yp_F H i 2 (ya H i) 0 ∧ yp_fr H i (ya H i))) : yt_D H i = none := by
  unfold yt_D
  rw [if_neg h]
theorem yt_w15 : yp_w 15 0 (nI 0) 0 := by
  refine ⟨by omega, by omega, by omega, fun _ => by omega, fun _ => ⟨by decide, by decide⟩, fun h => absurd h.2 (by omega), fun h => absurd h.2.1 (by omega), fun h => by omega⟩
theorem yt_F_e {e : Nat × Nat × Nat × Nat} (hok : yp_ok H) (hi : i < yn H) (h : yt_F H i = some e) : yp_w e.1 e.2.1 (nI e.2.2.1) 0 ∧ (yk H i = 9 ∨ yk H i = 10) ∧ e.1 ≠ 9 ∧ e.1 ≠ 10 := by
  by_cases c : yp_R H i ∧ yk H i = 9 ∧ yt_fv H i < 16
  · rw [yt_F_l c.1 c.2.1 c.2.2] at h
    cases h
    have ha := hok.a hi (by omega)
    have hv := c.2.2
    have hc : (nI (yt_fv H i)).toNatClampNeg = yt_fv H i := nI_clamp (by omega)
    refine ⟨⟨by omega, by show ya H i ≤ 200; omega, by omega, fun _ => ha, fun _ => ?_, fun _ => ?_, fun _ => ?_, fun h => ?_⟩, Or.inl c.2.1, by omega, by omega⟩
    · show nI (yt_fv H i) = nI (nI (yt_fv H i)).toNatClampNeg ∧ (nI (yt_fv H i)).toNatClampNeg ≤ 200
      rw [hc]
      exact ⟨rfl, by omega⟩
    · show (nI (yt_fv H i)).toNatClampNeg ≤ 16
      rw [hc]; omega
    · show (nI (yt_fv H i)).toNatClampNeg < 16
      rw [hc]; omega
    · exact absurd h (by omega)
  · by_cases c2 : yp_R H i ∧ yk H i = 10 ∧ yp_F H i 1 (ya H i) (ye H i)
    · rw [yt_F_s c2.1 c2.2.1 c2.2.2] at h
      cases h
      exact ⟨yt_w15, Or.inr c2.2.1, by omega, by omega⟩
    · rw [yt_F_n c c2] at h
      cases h
theorem yt_D_e {e : Nat × Nat × Nat × Nat} (h : yt_D H i = some e) : yp_w e.1 e.2.1 (nI e.2.2.1) 0 ∧ (yk H i = 9 ∨ yk H i = 10) ∧ e.1 ≠ 9 ∧ e.1 ≠ 10 := by
  by_cases c2 : yp_R H i ∧ yk H i = 10 ∧ yp_F H i 2 (ya H i) 0 ∧ yp_fr H i (ya H i)
  · rw [yt_D_s c2] at h
    cases h
    exact ⟨yt_w15, Or.inr c2.2.1, by omega, by omega⟩
  · rw [yt_D_n c2] at h
    cases h
end YT
/-- rounds -/
abbrev yt_t : Type := yp_G × (Nat → Nat)
noncomputable def yt_1 (s : yt_t) : yt_t := (yt_ap (yt_F s.1) (yn s.1) s.1, yt_fa (yt_F s.1) (yn s.1) s.2)
noncomputable def yt_2 (s : yt_t) : yt_t := (yt_ap (yt_D s.1) (yn s.1) s.1, yt_fa (yt_D s.1) (yn s.1) s.2)
noncomputable def yt_c1 (s : yt_t) : Nat := yt_n (yt_F s.1) (yn s.1)
noncomputable def yt_c2 (s : yt_t) : Nat := yt_n (yt_D s.1) (yn s.1)
noncomputable def yt_c (s : yt_t) : Nat := yt_c1 s + yt_c2 (yt_1 s)
noncomputable def yt_s (G : yp_G) : Nat → yt_t
  | 0 => (G, fun _ => 0)
  | j + 1 => yt_2 (yt_1 (yt_s G j))
noncomputable def yt_tot (G : yp_G) : Nat → Nat
  | 0 => 0
  | j + 1 => yt_tot G j + yt_c (yt_s G j)
noncomputable def yt_w (H : yp_G) : Nat := yp_c (fun i => yk H i = 9 ∨ yk H i = 10) (yn H)
def yt_M (G : yp_G) (m : Nat) : Prop := 1 ≤ m ∧ yt_c (yt_s G (m - 1)) = 0 ∧ ∀ j, j + 1 < m → yt_c (yt_s G j) ≠ 0
theorem yt_M_u {G : yp_G} {m m' : Nat} (h : yt_M G m) (h' : yt_M G m') : m = m' := by
  rcases Nat.lt_trichotomy m m' with c | c | c
  · exact absurd h.2.1 (h'.2.2 (m - 1) (by have := h.1; omega))
  · exact c
  · exact absurd h'.2.1 (h.2.2 (m' - 1) (by have := h'.1; omega))
theorem yt_1_ok {s : yt_t} (h : yp_ok s.1) : yp_ok (yt_1 s).1 ∧ yn (yt_1 s).1 = yn s.1 := ⟨yt_ap_ok h (fun _ _ hi he => (yt_F_e h hi he).1), rfl⟩
theorem yt_2_ok {s : yt_t} (h : yp_ok s.1) : yp_ok (yt_2 s).1 ∧ yn (yt_2 s).1 = yn s.1 := ⟨yt_ap_ok h (fun _ _ _ he => (yt_D_e he).1), rfl⟩
theorem yt_s_ok {G : yp_G} (h : yp_ok G) (j : Nat) : yp_ok (yt_s G j).1 ∧ yn (yt_s G j).1 = yn G := by
  induction j with
  | zero => exact ⟨h, rfl⟩
  | succ j ih =>
    have h1 := yt_1_ok ih.1
    have h2 := yt_2_ok h1.1
    exact ⟨h2.1, h2.2.trans (h1.2.trans ih.2)⟩
theorem yt_1_w {s : yt_t} (h : yp_ok s.1) : yt_w (yt_1 s).1 + yt_c1 s = yt_w s.1 := yt_ap_w (fun _ _ hi he => (yt_F_e h hi he).2) (yn s.1) (Nat.le_refl _)
theorem yt_2_w {s : yt_t} : yt_w (yt_2 s).1 + yt_c2 s = yt_w s.1 := yt_ap_w (fun _ _ _ he => (yt_D_e he).2) (yn s.1) (Nat.le_refl _)
theorem yt_tot_w {G : yp_G} (h : yp_ok G) (j : Nat) : yt_tot G j + yt_w (yt_s G j).1 = yt_w G := by
  induction j with
  | zero => show 0 + yt_w G = yt_w G; omega
  | succ j ih =>
    have h1 := yt_1_w (yt_s_ok h j).1
    have h2 := yt_2_w (s := yt_1 (yt_s G j))
    show yt_tot G j + (yt_c1 (yt_s G j) + yt_c2 (yt_1 (yt_s G j))) + yt_w (yt_2 (yt_1 (yt_s G j))).1 = yt_w G
    omega
theorem yt_tot_le {G : yp_G} (h : yp_ok G) (j : Nat) : yt_tot G j ≤ 200 := by
  have h1 := yt_tot_w h j
  have h2 : yt_w G ≤ yn G := yp_c_le _ _
  have h3 := h.n
  omega
theorem yt_tot_ge {G : yp_G} {j : Nat} (h : ∀ j', j' < j → yt_c (yt_s G j') ≠ 0) : j ≤ yt_tot G j := by
  induction j with
  | zero => exact Nat.zero_le _
  | succ j ih =>
    have h1 := ih (fun j' hj => h j' (by omega))
    have h2 := h j (by omega)
    show j + 1 ≤ yt_tot G j + yt_c (yt_s G j)
    omega
theorem yt_j_le {G : yp_G} (hok : yp_ok G) {j : Nat} (h : ∀ j', j' + 1 < j → yt_c (yt_s G j') ≠ 0) : j ≤ 201 := by
  have h1 := yt_tot_ge (G := G) (j := j - 1) (fun j' hj => h j' (by omega))
  have h2 := yt_tot_le hok (j - 1)
  omega
