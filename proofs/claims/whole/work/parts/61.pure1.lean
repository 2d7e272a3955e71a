/-! the program, and what is to be found of it, as mathematics -/
/-- a program: how many, kinds, firsts, seconds as they stand, thirds -/
abbrev yp_G : Type := Nat × (Nat → Nat) × (Nat → Nat) × (Nat → Int32) × (Nat → Nat)
def yn (G : yp_G) : Nat := G.1
def yk (G : yp_G) (i : Nat) : Nat := G.2.1 i
def ya (G : yp_G) (i : Nat) : Nat := G.2.2.1 i
def yx (G : yp_G) (i : Nat) : Int32 := G.2.2.2.1 i
def yd (G : yp_G) (i : Nat) : Nat := G.2.2.2.2 i
def ye (G : yp_G) (i : Nat) : Nat := (yx G i).toNatClampNeg
def yp_w (k a : Nat) (x : Int32) (c : Nat) : Prop := k ≤ 15 ∧ a ≤ 200 ∧ c ≤ 15 ∧ (k ≠ 12 → a < 16) ∧ (k ≠ 0 → x = nI x.toNatClampNeg ∧ x.toNatClampNeg ≤ 200) ∧ (1 ≤ k ∧ k ≤ 11 → x.toNatClampNeg ≤ 16) ∧ (1 ≤ k ∧ k ≤ 11 ∧ k ≠ 8 → x.toNatClampNeg < 16) ∧ (k = 8 → 1 ≤ x.toNatClampNeg ∧ c ≤ 1)
def yp_ok (G : yp_G) : Prop := yn G ≤ 200 ∧ ∀ i, i < yn G → yp_w (yk G i) (ya G i) (yx G i) (yd G i)
/-- it stands in the class's rows, in the reference's rows -/
def yp_C (d : Nat) (G : yp_G) (st : zs_T) : Prop := st.1 d 4 = nI (yn G) ∧ ∀ i, i < yn G → st.1 (d + 1) i = nI (yk G i) ∧ st.1 (d + 2) i = nI (ya G i) ∧ st.1 (d + 3) i = yx G i ∧ st.1 (d + 4) i = nI (yd G i)
def yp_D (b : Nat) (G : yp_G) (st : zs_T) : Prop := st.1 635 5 = nI (yn G) ∧ ∀ i, i < yn G → st.1 636 (b + i) = nI (yk G i) ∧ st.1 637 (b + i) = nI (ya G i) ∧ st.1 638 (b + i) = yx G i ∧ st.1 639 (b + i) = nI (yd G i)
theorem yp_C.ag {d lo hi : Nat} {G : yp_G} {st st' : zs_T} (h : yp_C d G st) (ha : zs_ag lo hi st st') (hd : d + 4 < lo ∨ hi < d) : yp_C d G st' := by
  unfold yp_C
  rw [ha.e1 (d := d) (by omega), ha.e1 (d := d + 1) (by omega), ha.e1 (d := d + 2) (by omega), ha.e1 (d := d + 3) (by omega), ha.e1 (d := d + 4) (by omega)]
  exact h
section YW
variable {G : yp_G} {i : Nat}
theorem yp_ok.w (h : yp_ok G) (hi : i < yn G) : yp_w (yk G i) (ya G i) (yx G i) (yd G i) := h.2 i hi
theorem yp_ok.n (h : yp_ok G) : yn G ≤ 200 := h.1
theorem yp_ok.k (h : yp_ok G) (hi : i < yn G) : yk G i ≤ 15 := (h.w hi).1
theorem yp_ok.a2 (h : yp_ok G) (hi : i < yn G) : ya G i ≤ 200 := (h.w hi).2.1
theorem yp_ok.d (h : yp_ok G) (hi : i < yn G) : yd G i ≤ 15 := (h.w hi).2.2.1
theorem yp_ok.a (h : yp_ok G) (hi : i < yn G) (hk : yk G i ≠ 12) : ya G i < 16 := (h.w hi).2.2.2.1 hk
theorem yp_ok.x (h : yp_ok G) (hi : i < yn G) (hk : yk G i ≠ 0) : yx G i = nI (ye G i) := ((h.w hi).2.2.2.2.1 hk).1
theorem yp_ok.e2 (h : yp_ok G) (hi : i < yn G) (hk : yk G i ≠ 0) : ye G i ≤ 200 := ((h.w hi).2.2.2.2.1 hk).2
theorem yp_ok.e (h : yp_ok G) (hi : i < yn G) (hk : 1 ≤ yk G i ∧ yk G i ≤ 11 ∧ yk G i ≠ 8) : ye G i < 16 := (h.w hi).2.2.2.2.2.2.1 hk
theorem yp_ok.m (h : yp_ok G) (hi : i < yn G) (hk : yk G i = 8) : 1 ≤ ye G i ∧ ye G i ≤ 16 ∧ yd G i ≤ 1 := ⟨((h.w hi).2.2.2.2.2.2.2 hk).1, (h.w hi).2.2.2.2.2.1 ⟨by omega, by omega⟩, ((h.w hi).2.2.2.2.2.2.2 hk).2⟩
end YW
/-- MAY and CELLS: the least families -/
def yp_cl (G : yp_G) (i : Nat) (M I : Nat → Nat → Prop) : Prop := (yk G i = 8 → M (ya G i) i) ∧ (yk G i = 1 ∨ yk G i = 7 → ∀ s, M (ye G i) s → M (ya G i) s) ∧ (yk G i = 9 → ∀ s t, M (ye G i) s → I s t → M (ya G i) t) ∧ (yk G i = 10 → ∀ s t, M (ya G i) s → M (ye G i) t → I s t)
def yp_cls (G : yp_G) (M I : Nat → Nat → Prop) : Prop := ∀ i, i < yn G → yp_cl G i M I
def yp_M (G : yp_G) (r s : Nat) : Prop := ∀ M I, yp_cls G M I → M r s
def yp_I (G : yp_G) (s t : Nat) : Prop := ∀ M I, yp_cls G M I → I s t
theorem yp_MI (G : yp_G) : yp_cls G (yp_M G) (yp_I G) := by
  intro i hi
  refine ⟨fun h M I hc => (hc i hi).1 h, fun h s hs M I hc => (hc i hi).2.1 h s (hs M I hc), fun h s t hs ht M I hc => (hc i hi).2.2.1 h s t (hs M I hc) (ht M I hc), fun h s t hs ht M I hc => (hc i hi).2.2.2 h s t (hs M I hc) (ht M I hc)⟩
theorem yp_site (G : yp_G) : yp_cls G (fun _ s => s < yn G ∧ yk G s = 8) (fun s t => (s < yn G ∧ yk G s = 8) ∧ t < yn G ∧ yk G t = 8) :=
  fun i hi => ⟨fun h => ⟨hi, h⟩, fun _ _ h => h, fun _ _ _ _ h => h.2, fun _ _ _ h h2 => ⟨h, h2⟩⟩
theorem yp_M_s {G : yp_G} {r s : Nat} (h : yp_M G r s) : s < yn G ∧ yk G s = 8 := h _ _ (yp_site G)
theorem yp_I_s {G : yp_G} {s t : Nat} (h : yp_I G s t) : (s < yn G ∧ yk G s = 8) ∧ t < yn G ∧ yk G t = 8 := h _ _ (yp_site G)
def yp_meet (G : yp_G) (r q : Nat) : Prop := ∃ s, yp_M G r s ∧ yp_M G q s
theorem yp_meet_c {G : yp_G} {r q : Nat} (h : yp_meet G r q) : yp_meet G q r := h.elim (fun s h => ⟨s, h.2, h.1⟩)
def yp_un (G : yp_G) (r : Nat) : Prop := ∀ s, yp_M G r s → ¬ yd G s = 1
/-- what may come behind, what can be reached -/
def yp_N (G : yp_G) (i j : Nat) : Prop := i < yn G ∧ ((yk G i ≠ 12 ∧ yk G i ≠ 14 ∧ j = i + 1) ∨ (yk G i = 12 ∧ j = min (ya G i) (yn G)) ∨ (yk G i = 13 ∧ j = min (ye G i) (yn G)))
def yp_R (G : yp_G) (i : Nat) : Prop := ∀ R : Nat → Prop, R 0 → (∀ i j, R i → yp_N G i j → R j) → R i
theorem yp_N_le {G : yp_G} {i j : Nat} (h : yp_N G i j) : j ≤ yn G := by
  obtain ⟨h1, h2 | h2 | h2⟩ := h <;> omega
theorem yp_R_0 (G : yp_G) : yp_R G 0 := fun _ h _ => h
theorem yp_R_s {G : yp_G} {i j : Nat} (h : yp_R G i) (hn : yp_N G i j) : yp_R G j := fun R h0 hs => hs i j (h R h0 hs) hn
theorem yp_R_le {G : yp_G} {i : Nat} (h : yp_R G i) : i ≤ yn G := h (fun i => i ≤ yn G) (Nat.zero_le _) (fun _ _ _ hn => yp_N_le hn)
/-- what comes from an instruction: facts 0 EQUAL, 1 HOLDS, 2 SURE -/
abbrev yp_Q : Type := Nat → Nat → Nat → Prop
def yp_T (G : yp_G) (i : Nat) (F : yp_Q) (q r s : Nat) : Prop := match q with
  | 0 => (F 0 r s ∧ ¬ (yk G i ≤ 9 ∧ ¬ (yk G i = 1 ∧ ya G i = ye G i) ∧ (r = ya G i ∨ s = ya G i))) ∨ (yk G i = 1 ∧ ya G i ≠ ye G i ∧ ((r = ya G i ∧ s ≠ ya G i ∧ (s = ye G i ∨ F 0 (ye G i) s)) ∨ (s = ya G i ∧ r ≠ ya G i ∧ (r = ye G i ∨ F 0 (ye G i) r)))) ∨ (yk G i = 9 ∧ ((r = ya G i ∧ s ≠ ya G i ∧ F 1 (ye G i) s) ∨ (s = ya G i ∧ r ≠ ya G i ∧ F 1 (ye G i) r)))
  | 1 => (F 1 r s ∧ ¬ (yk G i ≤ 9 ∧ ¬ (yk G i = 1 ∧ ya G i = ye G i) ∧ (r = ya G i ∨ s = ya G i)) ∧ (yk G i = 10 → yp_meet G r (ya G i) → (s = ye G i ∨ F 0 s (ye G i)))) ∨ (yk G i = 1 ∧ ya G i ≠ ye G i ∧ ((r = ya G i ∧ s ≠ ya G i ∧ F 1 (ye G i) s) ∨ (s = ya G i ∧ r ≠ ya G i ∧ F 1 r (ye G i)) ∨ (r = ya G i ∧ s = ya G i ∧ F 1 (ye G i) (ye G i)))) ∨ (yk G i = 9 ∧ s = ya G i ∧ r ≠ ya G i ∧ (r = ye G i ∨ F 0 (ye G i) r)) ∨ (yk G i = 10 ∧ (r = ya G i ∨ F 0 (ya G i) r) ∧ (s = ye G i ∨ F 0 (ye G i) s))
  | _ => (F 2 r 0 ∧ ¬ (yk G i ≤ 9 ∧ ¬ (yk G i = 1 ∧ ya G i = ye G i) ∧ r = ya G i)) ∨ (yk G i = 1 ∧ ya G i ≠ ye G i ∧ r = ya G i ∧ F 2 (ye G i) 0) ∨ ((yk G i = 7 ∨ yk G i = 8) ∧ r = ya G i) ∨ (yk G i = 7 ∧ r = ye G i) ∨ (yk G i = 9 ∧ r ≠ ya G i ∧ (r = ye G i ∨ F 0 (ye G i) r)) ∨ (yk G i = 10 ∧ (r = ya G i ∨ F 0 (ya G i) r))
def yp_S (G : yp_G) (F : Nat → yp_Q) : Prop := (∀ q r s, F 0 q r s → q = 0 ∧ r ≠ s) ∧ ∀ i j, yp_R G i → yp_N G i j → ∀ q r s, F j q r s → yp_T G i (F i) q r s
def yp_F (G : yp_G) (i : Nat) : yp_Q := fun q r s => ∃ F, yp_S G F ∧ F i q r s
/-- of registers alone -/
def yp_le (F F' : yp_Q) : Prop := ∀ q r s, q < 3 → r < 16 → s < 16 → F q r s → F' q r s
theorem yp_T_mono {G : yp_G} {i : Nat} (hok : yp_ok G) (hi : i < yn G) {F F' : yp_Q} (h : yp_le F F') : yp_le (yp_T G i F) (yp_T G i F') := by
  have ha := fun hk => hok.a hi hk
  have he := fun hk => hok.e hi hk
  intro q r s hq hr hs
  match q, hq with
  | 0, _ =>
    rintro (⟨h1, h2⟩ | ⟨h1, h2, h3⟩ | ⟨h1, h3⟩)
    · exact Or.inl ⟨h 0 r s (by omega) hr hs h1, h2⟩
    · have he' := he (by omega)
      refine Or.inr (Or.inl ⟨h1, h2, ?_⟩)
      rcases h3 with ⟨h3, h4, h5 | h5⟩ | ⟨h3, h4, h5 | h5⟩
      · exact Or.inl ⟨h3, h4, Or.inl h5⟩
      · exact Or.inl ⟨h3, h4, Or.inr (h 0 _ _ (by omega) he' hs h5)⟩
      · exact Or.inr ⟨h3, h4, Or.inl h5⟩
      · exact Or.inr ⟨h3, h4, Or.inr (h 0 _ _ (by omega) he' hr h5)⟩
    · have he' := he (by omega)
      refine Or.inr (Or.inr ⟨h1, ?_⟩)
      rcases h3 with ⟨h3, h4, h5⟩ | ⟨h3, h4, h5⟩
      · exact Or.inl ⟨h3, h4, h 1 _ _ (by omega) he' hs h5⟩
      · exact Or.inr ⟨h3, h4, h 1 _ _ (by omega) he' hr h5⟩
  | 1, _ =>
    rintro (⟨h1, h2, h3⟩ | ⟨h1, h2, h3⟩ | ⟨h1, h2, h3, h4⟩ | ⟨h1, h2, h3⟩)
    · refine Or.inl ⟨h 1 r s (by omega) hr hs h1, h2, fun hk hm => ?_⟩
      rcases h3 hk hm with h4 | h4
      · exact Or.inl h4
      · exact Or.inr (h 0 _ _ (by omega) hs (he (by omega)) h4)
    · have he' := he (by omega)
      refine Or.inr (Or.inl ⟨h1, h2, ?_⟩)
      rcases h3 with ⟨h3, h4, h5⟩ | ⟨h3, h4, h5⟩ | ⟨h3, h4, h5⟩
      · exact Or.inl ⟨h3, h4, h 1 _ _ (by omega) he' hs h5⟩
      · exact Or.inr (Or.inl ⟨h3, h4, h 1 _ _ (by omega) hr he' h5⟩)
      · exact Or.inr (Or.inr ⟨h3, h4, h 1 _ _ (by omega) he' he' h5⟩)
    · have he' := he (by omega)
      refine Or.inr (Or.inr (Or.inl ⟨h1, h2, h3, ?_⟩))
      rcases h4 with h4 | h4
      · exact Or.inl h4
      · exact Or.inr (h 0 _ _ (by omega) he' hr h4)
    · have he' := he (by omega)
      have ha' := ha (by omega)
      refine Or.inr (Or.inr (Or.inr ⟨h1, ?_, ?_⟩))
      · exact h2.imp id (h 0 _ _ (by omega) ha' hr)
      · exact h3.imp id (h 0 _ _ (by omega) he' hs)
  | 2, _ =>
    rintro (⟨h1, h2⟩ | ⟨h1, h2, h3, h4⟩ | h1 | h1 | ⟨h1, h2, h3⟩ | ⟨h1, h2⟩)
    · exact Or.inl ⟨h 2 r 0 (by omega) hr (by omega) h1, h2⟩
    · exact Or.inr (Or.inl ⟨h1, h2, h3, h 2 _ 0 (by omega) (he (by omega)) (by omega) h4⟩)
    · exact Or.inr (Or.inr (Or.inl h1))
    · exact Or.inr (Or.inr (Or.inr (Or.inl h1)))
    · exact Or.inr (Or.inr (Or.inr (Or.inr (Or.inl ⟨h1, h2, h3.imp id (h 0 _ _ (by omega) (he (by omega)) hr)⟩))))
    · exact Or.inr (Or.inr (Or.inr (Or.inr (Or.inr ⟨h1, h2.imp id (h 0 _ _ (by omega) (ha (by omega)) hr)⟩))))
/-- what is free -/
def yp_B (G : yp_G) (B : Nat → Nat → Prop) (j r : Nat) : Prop := ((j = yn G ∨ yk G j = 14) ∧ B j r) ∨ (j ≠ yn G ∧ yk G j ≠ 14 ∧ ¬ (yk G j ≤ 9 ∧ r = ya G j) ∧ (((B j r ∨ (yk G j = 1 ∧ r = ye G j ∧ B j (ya G j))) ∧ ¬ (yk G j = 9 ∧ yp_meet G r (ye G j))) ∨ (yk G j = 10 ∧ (r = ya G j ∨ yp_F G j 0 r (ya G j)))))
def yp_fs (G : yp_G) (B : Nat → Nat → Prop) : Prop := ∀ i r, B i r → yp_R G i ∧ (i = yn G ∨ yk G i = 14 → yp_un G r) ∧ ∀ j, yp_N G i j → yp_B G B j r
def yp_fr (G : yp_G) (i r : Nat) : Prop := ∃ B, yp_fs G B ∧ B i r
theorem yp_B_mono {G : yp_G} {B B' : Nat → Nat → Prop} {j r : Nat} (h1 : B j r → B' j r) (h2 : yk G j = 1 → j ≠ yn G → B j (ya G j) → B' j (ya G j)) (hb : yp_B G B j r) : yp_B G B' j r := by
  rcases hb with ⟨h3, h4⟩ | ⟨h3, h4, h5, ⟨h6 | ⟨h6, h7, h8⟩, h9⟩ | h6⟩
  · exact Or.inl ⟨h3, h1 h4⟩
  · exact Or.inr ⟨h3, h4, h5, Or.inl ⟨Or.inl (h1 h6), h9⟩⟩
  · exact Or.inr ⟨h3, h4, h5, Or.inl ⟨Or.inr ⟨h6, h7, h2 h6 h3 h8⟩, h9⟩⟩
  · exact Or.inr ⟨h3, h4, h5, Or.inr h6⟩
