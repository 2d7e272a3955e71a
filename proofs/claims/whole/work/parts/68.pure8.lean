/-! what comes from an instruction, in the class: as the mathematics has it -/
def yk_F (t : zs_T) (d : Nat) : yp_Q := fun q r s => q < 3 ∧ r < 16 ∧ s < 16 ∧ (match q with | 0 => yE t d r s = true | 1 => yH t d r s = true | _ => yS t d r = true)
def yk_sy (t : zs_T) (d : Nat) : Prop := (∀ r s, r < 16 → s < 16 → yE t d r s = yE t d s r) ∧ ∀ r, r < 16 → yE t d r r = false
theorem yk_F0 {t : zs_T} {d r s : Nat} : yk_F t d 0 r s ↔ r < 16 ∧ s < 16 ∧ yE t d r s = true := ⟨fun h => h.2, fun h => ⟨by omega, h⟩⟩
theorem yk_F1 {t : zs_T} {d r s : Nat} : yk_F t d 1 r s ↔ r < 16 ∧ s < 16 ∧ yH t d r s = true := ⟨fun h => h.2, fun h => ⟨by omega, h⟩⟩
theorem yk_F2 {t : zs_T} {d r s : Nat} : yk_F t d 2 r s ↔ r < 16 ∧ s < 16 ∧ yS t d r = true := ⟨fun h => h.2, fun h => ⟨by omega, h⟩⟩
/-- what a pass owes -/
def yk_P (G : yp_G) (i : Nat) (st : zs_T) (d : Nat) (t : zs_T) : Prop := zs_ag d (d + 2) st t ∧ yk_ok t d ∧ yk_sy t d ∧ ∀ q r s, q < 3 → r < 16 → s < 16 → (yk_F t d q r s ↔ yp_T G i (yk_F st d) q r s)
theorem yk_hi {t : zs_T} {d : Nat} (h : ∀ r s, r < 16 → 16 ≤ s → s < 32 → yE t d r s = false ∧ yH t d r s = false) (h2 : ∀ s, 16 ≤ s → s < 32 → yS t d s = false) : yk_ok t d := by
  refine ⟨fun r s hr hs => ?_, fun s hs => ?_⟩
  · by_cases c : s < 32
    · exact h r s hr hs c
    · exact ⟨b_big (by omega), b_big (by omega)⟩
  · by_cases c : s < 32
    · exact h2 s hs c
    · exact b_big (by omega)
section YH
variable {G : yp_G} {i d : Nat} {st t : zs_T}
/-- a kind that only sets -/
theorem yk_pset (hk : yk G i ≤ 9) (h1 : yk G i ≠ 1) (h7 : yk G i ≠ 7) (h8 : yk G i ≠ 8) (h9 : yk G i ≠ 9) (hok : yk_ok st d) (hsy : yk_sy st d) (ag : zs_ag d (d + 2) st t) (hE : ∀ r s, r < 16 → s < 32 → yE t d r s = (yE st d r s && (decide (r ≠ ya G i) && decide (s ≠ ya G i))) ∧ yH t d r s = (yH st d r s && (decide (r ≠ ya G i) && decide (s ≠ ya G i)))) (hS : ∀ s, s < 32 → yS t d s = (yS st d s && decide (s ≠ ya G i))) : yk_P G i st d t := by
  refine ⟨ag, yk_hi (fun r s hr hs hs' => ?_) (fun s hs hs' => ?_), ⟨fun r s hr hs => ?_, fun r hr => ?_⟩, ?_⟩
  · rw [(hE r s hr hs').1, (hE r s hr hs').2, (hok.1 r s hr hs).1, (hok.1 r s hr hs).2]; exact ⟨rfl, rfl⟩
  · rw [hS s hs', hok.2 s hs]; rfl
  · rw [(hE r s hr (by omega)).1, (hE s r hs (by omega)).1, hsy.1 r s hr hs, Bool.and_comm (decide (r ≠ ya G i))]
  · rw [(hE r r hr (by omega)).1, hsy.2 r hr]; rfl
  · intro q r s hq hr hs
    match q, hq with
    | 0, _ =>
      rw [yk_F0, (hE r s hr (by omega)).1]
      simp only [yp_T, yk_F0, yk_F1]
      grind
    | 1, _ =>
      rw [yk_F1, (hE r s hr (by omega)).2]
      simp only [yp_T, yk_F0, yk_F1]
      grind
    | 2, _ =>
      rw [yk_F2, hS r (by omega)]
      simp only [yp_T, yk_F0, yk_F1, yk_F2]
      grind
/-- the same facts go on -/
theorem yk_pid (hk : (9 < yk G i ∧ yk G i ≠ 10) ∨ (yk G i = 1 ∧ ya G i = ye G i)) (hok : yk_ok st d) (hsy : yk_sy st d) : yk_P G i st d st := by
  refine ⟨zs_ag.refl, hok, hsy, ?_⟩
  intro q r s hq hr hs
  match q, hq with
  | 0, _ => simp only [yp_T, yk_F0, yk_F1]; grind
  | 1, _ => simp only [yp_T, yk_F0, yk_F1]; grind
  | 2, _ => simp only [yp_T, yk_F0, yk_F1, yk_F2]; grind
/-- SHIFT and MAKE -/
theorem yk_psure (hk : yk G i = 7 ∧ ye G i < 16 ∨ yk G i = 8) (ha : ya G i < 16) (hok : yk_ok st d) (hsy : yk_sy st d) (ag : zs_ag d (d + 2) st t) (hE : ∀ r s, r < 16 → s < 32 → yE t d r s = (yE st d r s && (decide (r ≠ ya G i) && decide (s ≠ ya G i))) ∧ yH t d r s = (yH st d r s && (decide (r ≠ ya G i) && decide (s ≠ ya G i)))) (hS : ∀ s, s < 32 → yS t d s = ((yS st d s && decide (s ≠ ya G i)) || (decide (s = ya G i) || (decide (yk G i = 7) && decide (s = ye G i))))) : yk_P G i st d t := by
  refine ⟨ag, yk_hi (fun r s hr hs hs' => ?_) (fun s hs hs' => ?_), ⟨fun r s hr hs => ?_, fun r hr => ?_⟩, ?_⟩
  · rw [(hE r s hr hs').1, (hE r s hr hs').2, (hok.1 r s hr hs).1, (hok.1 r s hr hs).2]; exact ⟨rfl, rfl⟩
  · rw [hS s hs', hok.2 s hs]
    have e1 : ¬ s = ya G i := by omega
    have e2 : ¬ (yk G i = 7 ∧ s = ye G i) := by omega
    grind
  · rw [(hE r s hr (by omega)).1, (hE s r hs (by omega)).1, hsy.1 r s hr hs, Bool.and_comm (decide (r ≠ ya G i))]
  · rw [(hE r r hr (by omega)).1, hsy.2 r hr]; rfl
  · intro q r s hq hr hs
    match q, hq with
    | 0, _ =>
      rw [yk_F0, (hE r s hr (by omega)).1]
      simp only [yp_T, yk_F0, yk_F1]
      grind
    | 1, _ =>
      rw [yk_F1, (hE r s hr (by omega)).2]
      simp only [yp_T, yk_F0, yk_F1]
      grind
    | 2, _ =>
      rw [yk_F2, hS r (by omega)]
      simp only [yp_T, yk_F0, yk_F1, yk_F2]
      grind
/-- MOVE: u is behind forget -/
theorem yk_pmove {u : zs_T} (hk : yk G i = 1) (ha : ya G i < 16) (he : ye G i < 16) (hab : ya G i ≠ ye G i) (hok : yk_ok st d) (hsy : yk_sy st d) (ag : zs_ag d (d + 2) st t)
    (hE : ∀ r s, r < 16 → s < 32 → yE u d r s = (yE st d r s && (decide (r ≠ ya G i) && decide (s ≠ ya G i))) ∧ yH u d r s = (yH st d r s && (decide (r ≠ ya G i) && decide (s ≠ ya G i)))) (hS : ∀ s, s < 32 → yS u d s = (yS st d s && decide (s ≠ ya G i)))
    (hE' : ∀ r s, r < 16 → s < 32 → yE t d r s = (if r = ya G i then (yE u d (ye G i) s || (decide (s = ya G i) && yE u d (ye G i) (ye G i))) || decide (s = ye G i) else if r = ye G i then (yE u d (ye G i) s || (decide (s = ya G i) && yE u d (ye G i) (ye G i))) || decide (s = ya G i) else (yE u d r s || (decide (s = ya G i) && yE u d r (ye G i)))) ∧ yH t d r s = (if r = ya G i then (yH u d (ye G i) s || (decide (s = ya G i) && yH u d (ye G i) (ye G i))) else (yH u d r s || (decide (s = ya G i) && yH u d r (ye G i))))) (hS' : ∀ s, s < 32 → yS t d s = (yS u d s || (decide (s = ya G i) && yS u d (ye G i)))) : yk_P G i st d t := by
  have hEt : ∀ r s, r < 16 → s < 32 → yE t d r s = (if r = ya G i then (yE st d (ye G i) s && decide (s ≠ ya G i)) || decide (s = ye G i) else if s = ya G i then (decide (r = ye G i) || yE st d r (ye G i)) else yE st d r s) := by
    intro r s hr hs
    rw [(hE' r s hr hs).1, (hE (ye G i) s he hs).1, (hE (ye G i) (ye G i) he (by omega)).1, (hE r s hr hs).1, (hE r (ye G i) hr (by omega)).1]
    have h1 := hsy.2 (ye G i) he
    grind
  have hHt : ∀ r s, r < 16 → s < 32 → yH t d r s = (if r = ya G i then (if s = ya G i then yH st d (ye G i) (ye G i) else yH st d (ye G i) s) else if s = ya G i then yH st d r (ye G i) else yH st d r s) := by
    intro r s hr hs
    rw [(hE' r s hr hs).2, (hE (ye G i) s he hs).2, (hE (ye G i) (ye G i) he (by omega)).2, (hE r s hr hs).2, (hE r (ye G i) hr (by omega)).2]
    grind
  have hSt : ∀ s, s < 32 → yS t d s = (if s = ya G i then yS st d (ye G i) else yS st d s) := by
    intro s hs
    rw [hS' s hs, hS s hs, hS (ye G i) (by omega)]
    grind
  refine ⟨ag, yk_hi (fun r s hr hs hs' => ?_) (fun s hs hs' => ?_), ⟨fun r s hr hs => ?_, fun r hr => ?_⟩, ?_⟩
  · rw [hEt r s hr hs', hHt r s hr hs', (hok.1 r s hr hs).1, (hok.1 r s hr hs).2, (hok.1 (ye G i) s he hs).1, (hok.1 (ye G i) s he hs).2]
    have e1 : ¬ s = ya G i := by omega
    have e2 : ¬ s = ye G i := by omega
    grind
  · rw [hSt s hs', hok.2 s hs, if_neg (by omega)]
  · rw [hEt r s hr (by omega), hEt s r hs (by omega)]
    have h1 := hsy.1 r s hr hs
    have h2 := hsy.1 (ye G i) s he hs
    have h3 := hsy.1 r (ye G i) hr he
    grind
  · rw [hEt r r hr (by omega)]
    have h1 := hsy.2 r hr
    grind
  · intro q r s hq hr hs
    have h2 := hsy.1 (ye G i) s he hs
    have h3 := hsy.1 r (ye G i) hr he
    match q, hq with
    | 0, _ =>
      rw [yk_F0, hEt r s hr (by omega)]
      simp only [yp_T, yk_F0, yk_F1]
      grind
    | 1, _ =>
      rw [yk_F1, hHt r s hr (by omega)]
      simp only [yp_T, yk_F0, yk_F1]
      grind
    | 2, _ =>
      rw [yk_F2, hSt r (by omega)]
      simp only [yp_T, yk_F0, yk_F1, yk_F2]
      grind
/-- LOAD -/
theorem yk_pload (hk : yk G i = 9) (ha : ya G i < 16) (he : ye G i < 16) (hok : yk_ok st d) (hsy : yk_sy st d) (ag : zs_ag d (d + 2) st t)
    (hEt : ∀ r s, r < 16 → s < 32 → yE t d r s = ((if r = ya G i then (yH st d (ye G i) s && decide (s ≠ ya G i)) else (yE st d r s && decide (s ≠ ya G i))) || (decide (s = ya G i) && (yH st d (ye G i) r && decide (r ≠ ya G i)))))
    (hHt : ∀ r s, r < 16 → s < 32 → yH t d r s = ((yH st d r s && (decide (r ≠ ya G i) && decide (s ≠ ya G i))) || (decide (s = ya G i) && ((yE st d (ye G i) r || decide (r = ye G i)) && decide (r ≠ ya G i)))))
    (hSt : ∀ s, s < 32 → yS t d s = ((yS st d s && decide (s ≠ ya G i)) || ((yE st d (ye G i) s || decide (s = ye G i)) && decide (s ≠ ya G i)))) : yk_P G i st d t := by
  refine ⟨ag, yk_hi (fun r s hr hs hs' => ?_) (fun s hs hs' => ?_), ⟨fun r s hr hs => ?_, fun r hr => ?_⟩, ?_⟩
  · rw [hEt r s hr hs', hHt r s hr hs', (hok.1 r s hr hs).1, (hok.1 r s hr hs).2, (hok.1 (ye G i) s he hs).2]
    have e1 : ¬ s = ya G i := by omega
    have e2 : ¬ s = ye G i := by omega
    grind
  · rw [hSt s hs', hok.2 s hs, (hok.1 (ye G i) s he hs).1]
    have e1 : ¬ s = ya G i := by omega
    have e2 : ¬ s = ye G i := by omega
    grind
  · rw [hEt r s hr (by omega), hEt s r hs (by omega)]
    have h1 := hsy.1 r s hr hs
    grind
  · rw [hEt r r hr (by omega)]
    have h1 := hsy.2 r hr
    grind
  · intro q r s hq hr hs
    match q, hq with
    | 0, _ =>
      rw [yk_F0, hEt r s hr (by omega)]
      simp only [yp_T, yk_F0, yk_F1]
      grind
    | 1, _ =>
      rw [yk_F1, hHt r s hr (by omega)]
      simp only [yp_T, yk_F0, yk_F1]
      grind
    | 2, _ =>
      rw [yk_F2, hSt r (by omega)]
      simp only [yp_T, yk_F0, yk_F1, yk_F2]
      grind
/-- STORE -/
theorem yk_pstore {l : Int32} (hk : yk G i = 10) (ha : ya G i < 16) (he : ye G i < 16) (hl : ∀ r, r < 16 → (bt l r = true ↔ yp_meet G r (ya G i))) (hok : yk_ok st d) (hsy : yk_sy st d) (ag : zs_ag d (d + 2) st t)
    (hEt : ∀ r s, r < 16 → s < 32 → yE t d r s = yE st d r s)
    (hHt : ∀ r s, r < 16 → s < 32 → yH t d r s = ((yH st d r s && (!bt l r || (yE st d (ye G i) s || decide (s = ye G i)))) || ((yE st d (ya G i) r || decide (r = ya G i)) && (yE st d (ye G i) s || decide (s = ye G i)))))
    (hSt : ∀ s, s < 32 → yS t d s = (yS st d s || (yE st d (ya G i) s || decide (s = ya G i)))) : yk_P G i st d t := by
  refine ⟨ag, yk_hi (fun r s hr hs hs' => ?_) (fun s hs hs' => ?_), ⟨fun r s hr hs => ?_, fun r hr => ?_⟩, ?_⟩
  · rw [hEt r s hr hs', hHt r s hr hs', (hok.1 r s hr hs).1, (hok.1 r s hr hs).2, (hok.1 (ye G i) s he hs).1]
    have e1 : ¬ s = ya G i := by omega
    have e2 : ¬ s = ye G i := by omega
    grind
  · rw [hSt s hs', hok.2 s hs, (hok.1 (ya G i) s ha hs).1]
    have e1 : ¬ s = ya G i := by omega
    grind
  · rw [hEt r s hr (by omega), hEt s r hs (by omega)]
    exact hsy.1 r s hr hs
  · rw [hEt r r hr (by omega)]
    exact hsy.2 r hr
  · intro q r s hq hr hs
    have h2 := hsy.1 (ye G i) s he hs
    have h3 := hl r hr
    match q, hq with
    | 0, _ =>
      rw [yk_F0, hEt r s hr (by omega)]
      simp only [yp_T, yk_F0, yk_F1]
      grind
    | 1, _ =>
      rw [yk_F1, hHt r s hr (by omega)]
      simp only [yp_T, yk_F0, yk_F1]
      grind
    | 2, _ =>
      rw [yk_F2, hSt r (by omega)]
      simp only [yp_T, yk_F0, yk_F1, yk_F2]
      grind
end YH
