/-! the reference's machine: one step -/
def ys_E (m : ys_M) (t : zs_T) : Prop := (∀ o k, o < ysn m → k < ysz m o → t.1 653 (16 * o + k) = ys_o (ysc m (16 * o + k)).1 ∧ t.1 654 (16 * o + k) = (ysc m (16 * o + k)).2) ∧ (∀ o, o < ysn m → t.1 655 o = nI (ysz m o) ∧ t.1 656 o = yb (ysk m o)) ∧ t.1 635 26 = nI (ysn m) ∧ (∀ i, i < ysq m → t.1 657 i = ysp m i) ∧ t.1 635 28 = nI (ysq m)
def ys_D (m : ys_M) (t : zs_T) : Prop := (∀ r, r < 16 → t.1 651 r = ys_o (ysr m r).1 ∧ t.1 652 r = (ysr m r).2) ∧ t.1 635 30 = yse m ∧ ys_E m t
def ys_fd (a t : zs_T) : Prop := zs_ag 635 657 a t ∧ (∀ d, 636 ≤ d → d ≤ 650 → t.1 d = a.1 d) ∧ ∀ x, x < 26 ∨ x = 29 → t.1 635 x = a.1 635 x
theorem ys_fd.refl {a : zs_T} : ys_fd a a := ⟨zs_ag.refl, fun _ _ _ => rfl, fun _ _ => rfl⟩
theorem ys_fd.trans {a b c : zs_T} (h : ys_fd a b) (h2 : ys_fd b c) : ys_fd a c := ⟨h.1.trans h2.1, fun d hd hd' => (h2.2.1 d hd hd').trans (h.2.1 d hd hd'), fun x hx => (h2.2.2 x hx).trans (h.2.2 x hx)⟩
theorem ys_fd.i {a b : zs_T} (h : ys_fd a b) {d j : Nat} {v : Int32} (h1 : 651 ≤ d) (h2 : d ≤ 657) : ys_fd a (zs_i b d j v) :=
  ⟨h.1.i (by omega) (by omega), fun d' _ _ => by rw [yi_r _ _ _ _ (by omega)]; exact h.2.1 d' (by omega) (by omega), fun x hx => by rw [yi_r _ _ _ _ (by omega)]; exact h.2.2 x hx⟩
theorem ys_fd.f {a b : zs_T} (h : ys_fd a b) {j : Nat} {v : Int32} (h1 : 26 ≤ j) (h2 : j ≠ 29) : ys_fd a (zs_i b 635 j v) :=
  ⟨h.1.i (by omega) (by omega), fun d' _ _ => by rw [yi_r _ _ _ _ (by omega)]; exact h.2.1 d' (by omega) (by omega), fun x hx => by rw [yi_n _ _ _ (by omega)]; exact h.2.2 x hx⟩
section YS
variable {m : ys_M} {st : zs_T}
theorem ys_D.x (h : ys_D m st) (e : Int32) : ys_D (ys_x m e) (zs_i st 635 30 e) := by
  obtain ⟨h1, h2, h3, h4, h5, h6, h7⟩ := h
  refine ⟨fun r hr => ?_, yi_s _ _ _ _, fun o k ho hk => ?_, fun o ho => ?_, ?_, fun i hi => ?_, ?_⟩
  · rw [yi_r _ _ _ _ (by omega), yi_r _ _ _ _ (by omega)]; exact h1 r hr
  · rw [yi_r _ _ _ _ (by omega), yi_r _ _ _ _ (by omega)]; exact h3 o k ho hk
  · rw [yi_r _ _ _ _ (by omega), yi_r _ _ _ _ (by omega)]; exact h4 o ho
  · rw [yi_n _ _ _ (by omega)]; exact h5
  · rw [yi_r _ _ _ _ (by omega)]; exact h6 i hi
  · rw [yi_n _ _ _ (by omega)]; exact h7
theorem ys_D.w (h : ys_D m st) {a : Nat} {v : ys_v} : ys_D (ys_w m a v) (zs_i (zs_i st 651 a (ys_o v.1)) 652 a v.2) := by
  obtain ⟨h1, h2, h3, h4, h5, h6, h7⟩ := h
  refine ⟨fun r hr => ?_, ?_, fun o k ho hk => ?_, fun o ho => ?_, ?_, fun i hi => ?_, ?_⟩
  · show (zs_i (zs_i st 651 a (ys_o v.1)) 652 a v.2).1 651 r = ys_o (ys_u (ysr m) a v r).1 ∧ (zs_i (zs_i st 651 a (ys_o v.1)) 652 a v.2).1 652 r = (ys_u (ysr m) a v r).2
    rw [yi_r _ 652 _ _ (by omega : 651 ≠ 652), yi_m, yi_m, yi_r _ 651 _ _ (by omega : 652 ≠ 651)]
    by_cases c : r = a
    · rw [if_pos ⟨rfl, c⟩, if_pos ⟨rfl, c⟩, c, ys_u_s]; exact ⟨rfl, rfl⟩
    · rw [if_neg (fun q => c q.2), if_neg (fun q => c q.2), ys_u_n _ _ c]; exact h1 r hr
  · rw [yi_r _ _ _ _ (by omega), yi_r _ _ _ _ (by omega)]; exact h2
  · rw [yi_r _ _ _ _ (by omega), yi_r _ _ _ _ (by omega), yi_r _ _ _ _ (by omega), yi_r _ _ _ _ (by omega)]; exact h3 o k ho hk
  · rw [yi_r _ _ _ _ (by omega), yi_r _ _ _ _ (by omega), yi_r _ _ _ _ (by omega), yi_r _ _ _ _ (by omega)]; exact h4 o ho
  · rw [yi_r _ _ _ _ (by omega), yi_r _ _ _ _ (by omega)]; exact h5
  · rw [yi_r _ _ _ _ (by omega), yi_r _ _ _ _ (by omega)]; exact h6 i hi
  · rw [yi_r _ _ _ _ (by omega), yi_r _ _ _ _ (by omega)]; exact h7
theorem ys_D.p (h : ys_D m st) (v : Int32) : ys_D (ysr m, ysc m, ysz m, ysk m, ysn m, ys_u (ysp m) (ysq m) v, ysq m + 1, ysa m + 1, yse m) (zs_i (zs_i st 657 (ysq m) v) 635 28 (nI (ysq m + 1))) := by
  obtain ⟨h1, h2, h3, h4, h5, h6, h7⟩ := h
  refine ⟨fun r hr => ?_, ?_, fun o k ho hk => ?_, fun o ho => ?_, ?_, fun i hi => ?_, yi_s _ _ _ _⟩
  · rw [yi_r _ _ _ _ (by omega), yi_r _ _ _ _ (by omega), yi_r _ _ _ _ (by omega), yi_r _ _ _ _ (by omega)]; exact h1 r hr
  · rw [yi_n _ _ _ (by omega), yi_r _ _ _ _ (by omega)]; exact h2
  · rw [yi_r _ _ _ _ (by omega), yi_r _ _ _ _ (by omega), yi_r _ _ _ _ (by omega), yi_r _ _ _ _ (by omega)]; exact h3 o k ho hk
  · rw [yi_r _ _ _ _ (by omega), yi_r _ _ _ _ (by omega), yi_r _ _ _ _ (by omega), yi_r _ _ _ _ (by omega)]; exact h4 o ho
  · rw [yi_n _ _ _ (by omega), yi_r _ _ _ _ (by omega)]; exact h5
  · have hi' : i < ysq m + 1 := hi
    show (zs_i (zs_i st 657 (ysq m) v) 635 28 (nI (ysq m + 1))).1 657 i = ys_u (ysp m) (ysq m) v i
    rw [yi_r _ _ _ _ (by omega), yi_m]
    by_cases c : i = ysq m
    · rw [if_pos ⟨rfl, c⟩, c, ys_u_s]
    · rw [if_neg (fun q => c q.2), ys_u_n _ _ c]
      exact h6 i (by omega)
theorem ys_D.sto (h : ys_D m st) {j : Nat} {v : ys_v} : ys_D (ysr m, ys_u (ysc m) j v, ysz m, ysk m, ysn m, ysp m, ysq m, ysa m + 1, yse m) (zs_i (zs_i st 653 j (ys_o v.1)) 654 j v.2) := by
  obtain ⟨h1, h2, h3, h4, h5, h6, h7⟩ := h
  refine ⟨fun r hr => ?_, ?_, fun o k ho hk => ?_, fun o ho => ?_, ?_, fun i hi => ?_, ?_⟩
  · rw [yi_r _ _ _ _ (by omega), yi_r _ _ _ _ (by omega), yi_r _ _ _ _ (by omega), yi_r _ _ _ _ (by omega)]; exact h1 r hr
  · rw [yi_r _ _ _ _ (by omega), yi_r _ _ _ _ (by omega)]; exact h2
  · show (zs_i (zs_i st 653 j (ys_o v.1)) 654 j v.2).1 653 (16 * o + k) = ys_o (ys_u (ysc m) j v (16 * o + k)).1 ∧ (zs_i (zs_i st 653 j (ys_o v.1)) 654 j v.2).1 654 (16 * o + k) = (ys_u (ysc m) j v (16 * o + k)).2
    rw [yi_r _ 654 _ _ (by omega : 653 ≠ 654), yi_m, yi_m, yi_r _ 653 _ _ (by omega : 654 ≠ 653)]
    by_cases c : 16 * o + k = j
    · rw [if_pos ⟨rfl, c⟩, if_pos ⟨rfl, c⟩, c, ys_u_s]; exact ⟨rfl, rfl⟩
    · rw [if_neg (fun q => c q.2), if_neg (fun q => c q.2), ys_u_n _ _ c]; exact h3 o k ho hk
  · rw [yi_r _ _ _ _ (by omega), yi_r _ _ _ _ (by omega), yi_r _ _ _ _ (by omega), yi_r _ _ _ _ (by omega)]; exact h4 o ho
  · rw [yi_r _ _ _ _ (by omega), yi_r _ _ _ _ (by omega)]; exact h5
  · rw [yi_r _ _ _ _ (by omega), yi_r _ _ _ _ (by omega)]; exact h6 i hi
  · rw [yi_r _ _ _ _ (by omega), yi_r _ _ _ _ (by omega)]; exact h7
theorem ys_put {a : Nat} {o n : Int32} {K : zs_T → Prop} (ha : a < 16) (hK : K (zs_i (zs_i st 651 a o) 652 a n)) : zf_MO_put (nI a) o n st K := by
  unfold zf_MO_put
  rw [nI_clamp (n := a) (by omega)]
  exact ⟨vp_in_nI (by omega) (by omega), nm_e ⟨vp_in_nI (by omega) (by omega), nm_e hK⟩⟩
theorem ys_mmake {a x c : Nat} {K : zs_T → Prop} (hm : ys_ok m) (ha : a < 16) (hx : x ≤ 16) (hc : c < 2 ^ 31) (h : ys_D m st) (hT : ysn m = 300 → K (zs_i st 635 30 3)) (hN : ¬ ysn m = 300 → ∀ t, ys_fd st t → ys_D (ys_mk m a x c) t → K t) : zf_MO_make (nI a) (nI x) (nI c) st K := by
  have hn := hm.1
  obtain ⟨h1, h2, h3, h4, h5, h6, h7⟩ := h
  have em : ¬ ysn m = 300 → ys_mk m a x c = (ys_u (ysr m) a (ysn m + 1, 0), fun j => if 16 * ysn m ≤ j ∧ j < 16 * ysn m + x then (0, 0) else ysc m j, ys_u (ysz m) (ysn m) x, ys_u (ysk m) (ysn m) (decide (c = 1)), ysn m + 1, ysp m, ysq m, ysa m + 1, yse m) := by
    intro c3
    unfold ys_mk
    rw [if_neg c3]
  unfold zf_MO_make
  rw [h5]
  refine yi_ne (ysn m) 300 (fun c3 => ⟨vp_in_nI (by omega) (by omega), nm_e ?_⟩) (fun c3 => nm_e (hT c3))
  rw [nI_clamp (n := ysn m) (by omega), yi_r _ _ _ _ (by omega : 635 ≠ 655), h5]
  have h44 : zf_MO_make_44 K (nI a) (nI x) (yb (decide (c = 1))) (nI (ysn m)) (zs_i st 655 (ysn m) (nI x)) := by
    unfold zf_MO_make_44
    rw [nI_clamp (n := ysn m) (by omega), yb_nar]
    refine ⟨vp_in_nI (by omega) (by omega), nm_e ?_⟩
    refine pk_loop (W := fun n j (t : zs_T) => zf_MO_make_48 K n (nI a) (nI x) (nI j) t) (fun j t => zs_ag 653 654 (zs_i (zs_i st 655 (ysn m) (nI x)) 656 (ysn m) (yb (decide (c = 1)))) t ∧ ∀ i, t.1 653 i = (if 16 * ysn m ≤ i ∧ i < 16 * ysn m + j then -1 else st.1 653 i) ∧ t.1 654 i = if 16 * ysn m ≤ i ∧ i < 16 * ysn m + j then 0 else st.1 654 i) x 0 (zs_i (zs_i st 655 (ysn m) (nI x)) 656 (ysn m) (yb (decide (c = 1)))) (by omega) ⟨zs_ag.refl, fun i => ?_⟩ ?_ ?_
    · rw [yi_r _ _ _ _ (by omega), yi_r _ _ _ _ (by omega), yi_r _ _ _ _ (by omega), yi_r _ _ _ _ (by omega), if_neg (by omega), if_neg (by omega)]
      exact ⟨rfl, rfl⟩
    · rintro n t ⟨g1, g2⟩
      have r26 : t.1 635 26 = nI (ysn m) := by
        rw [g1.e1 (by omega), yi_r _ _ _ _ (by omega), yi_r _ _ _ _ (by omega)]
        exact h5
      refine pk_le x x (fun _ => ?_) (fun h => by omega)
      rw [r26]
      refine ys_put ha (nm_e ?_)
      rw [yi_r _ _ _ _ (by omega : 635 ≠ 652), yi_r _ _ _ _ (by omega : 635 ≠ 651), r26, nI_1]
      have fg : ys_fd st t := by
        have f0 : ys_fd st (zs_i (zs_i st 655 (ysn m) (nI x)) 656 (ysn m) (yb (decide (c = 1)))) := (ys_fd.refl.i (by omega) (by omega)).i (by omega) (by omega)
        exact f0.trans ⟨g1.wide (by omega) (by omega), fun d _ _ => g1.e1 (by omega), fun x _ => by rw [g1.e1 (by omega)]⟩
      refine hN c3 _ (((fg.i (by omega) (by omega)).i (by omega) (by omega)).f (by omega) (by omega)) ?_
      rw [em c3]
      refine ⟨fun r hr => ?_, ?_, fun o k ho hk => ?_, fun o ho => ?_, yi_s _ _ _ _, fun i hi => ?_, ?_⟩
      · show (zs_i (zs_i (zs_i t 651 a (nI (ysn m))) 652 a 0) 635 26 (nI (ysn m + 1))).1 651 r = ys_o (ys_u (ysr m) a (ysn m + 1, 0) r).1 ∧ (zs_i (zs_i (zs_i t 651 a (nI (ysn m))) 652 a 0) 635 26 (nI (ysn m + 1))).1 652 r = (ys_u (ysr m) a (ysn m + 1, 0) r).2
        rw [yi_r _ 635 _ _ (by omega : 651 ≠ 635), yi_r _ 635 _ _ (by omega : 652 ≠ 635), yi_r _ 652 _ _ (by omega : 651 ≠ 652), yi_m, yi_m, yi_r _ 651 _ _ (by omega : 652 ≠ 651)]
        by_cases cc : r = a
        · rw [if_pos ⟨rfl, cc⟩, if_pos ⟨rfl, cc⟩, cc, ys_u_s]
          exact ⟨(ys_o_s _).symm, rfl⟩
        · rw [if_neg (fun q => cc q.2), if_neg (fun q => cc q.2), ys_u_n _ _ cc, g1.e1 (by omega), g1.e1 (by omega), yi_r _ _ _ _ (by omega), yi_r _ _ _ _ (by omega), yi_r _ _ _ _ (by omega), yi_r _ _ _ _ (by omega)]
          exact h1 r hr
      · show (zs_i (zs_i (zs_i t 651 a (nI (ysn m))) 652 a 0) 635 26 (nI (ysn m + 1))).1 635 30 = yse m
        rw [yi_n _ _ _ (by omega), yi_r _ _ _ _ (by omega), yi_r _ _ _ _ (by omega), g1.e1 (by omega), yi_r _ _ _ _ (by omega), yi_r _ _ _ _ (by omega)]
        exact h2
      · have ho' : o < ysn m + 1 := ho
        have hk' : k < ys_u (ysz m) (ysn m) x o := hk
        show (zs_i (zs_i (zs_i t 651 a (nI (ysn m))) 652 a 0) 635 26 (nI (ysn m + 1))).1 653 (16 * o + k) = ys_o (if 16 * ysn m ≤ 16 * o + k ∧ 16 * o + k < 16 * ysn m + x then ((0, 0) : ys_v) else ysc m (16 * o + k)).1 ∧ (zs_i (zs_i (zs_i t 651 a (nI (ysn m))) 652 a 0) 635 26 (nI (ysn m + 1))).1 654 (16 * o + k) = (if 16 * ysn m ≤ 16 * o + k ∧ 16 * o + k < 16 * ysn m + x then ((0, 0) : ys_v) else ysc m (16 * o + k)).2
        rw [yi_r _ 635 _ _ (by omega : 653 ≠ 635), yi_r _ 635 _ _ (by omega : 654 ≠ 635), yi_r _ 652 _ _ (by omega : 653 ≠ 652), yi_r _ 652 _ _ (by omega : 654 ≠ 652), yi_r _ 651 _ _ (by omega : 653 ≠ 651), yi_r _ 651 _ _ (by omega : 654 ≠ 651), (g2 (16 * o + k)).1, (g2 (16 * o + k)).2]
        by_cases cc : 16 * ysn m ≤ 16 * o + k ∧ 16 * o + k < 16 * ysn m + x
        · rw [if_pos cc, if_pos cc, if_pos cc]
          exact ⟨ys_o_0.symm, rfl⟩
        · rw [if_neg cc, if_neg cc, if_neg cc]
          by_cases c2 : o = ysn m
          · rw [c2, ys_u_s] at hk'
            omega
          · rw [ys_u_n _ _ c2] at hk'
            exact h3 o k (by omega) hk'
      · have ho' : o < ysn m + 1 := ho
        show (zs_i (zs_i (zs_i t 651 a (nI (ysn m))) 652 a 0) 635 26 (nI (ysn m + 1))).1 655 o = nI (ys_u (ysz m) (ysn m) x o) ∧ (zs_i (zs_i (zs_i t 651 a (nI (ysn m))) 652 a 0) 635 26 (nI (ysn m + 1))).1 656 o = yb (ys_u (ysk m) (ysn m) (decide (c = 1)) o)
        rw [yi_r _ 635 _ _ (by omega : 655 ≠ 635), yi_r _ 635 _ _ (by omega : 656 ≠ 635), yi_r _ 652 _ _ (by omega : 655 ≠ 652), yi_r _ 652 _ _ (by omega : 656 ≠ 652), yi_r _ 651 _ _ (by omega : 655 ≠ 651), yi_r _ 651 _ _ (by omega : 656 ≠ 651), g1.e1 (by omega), g1.e1 (by omega), yi_r _ 656 _ _ (by omega : 655 ≠ 656), yi_m, yi_m, yi_r _ 655 _ _ (by omega : 656 ≠ 655)]
        by_cases cc : o = ysn m
        · rw [if_pos ⟨rfl, cc⟩, if_pos ⟨rfl, cc⟩, cc, ys_u_s, ys_u_s]
          exact ⟨rfl, rfl⟩
        · rw [if_neg (fun q => cc q.2), if_neg (fun q => cc q.2), ys_u_n _ _ cc, ys_u_n _ _ cc]
          exact h4 o (by omega)
      · show (zs_i (zs_i (zs_i t 651 a (nI (ysn m))) 652 a 0) 635 26 (nI (ysn m + 1))).1 657 i = ysp m i
        rw [yi_r _ 635 _ _ (by omega : 657 ≠ 635), yi_r _ 652 _ _ (by omega : 657 ≠ 652), yi_r _ 651 _ _ (by omega : 657 ≠ 651), g1.e1 (by omega), yi_r _ _ _ _ (by omega), yi_r _ _ _ _ (by omega)]
        exact h6 i hi
      · show (zs_i (zs_i (zs_i t 651 a (nI (ysn m))) 652 a 0) 635 26 (nI (ysn m + 1))).1 635 28 = nI (ysq m)
        rw [yi_n _ _ _ (by omega), yi_r _ _ _ _ (by omega), yi_r _ _ _ _ (by omega), g1.e1 (by omega), yi_r _ _ _ _ (by omega), yi_r _ _ _ _ (by omega)]
        exact h7
    · rintro n j t hj ⟨g1, g2⟩ ih
      have r26 : t.1 635 26 = nI (ysn m) := by
        rw [g1.e1 (by omega), yi_r _ _ _ _ (by omega), yi_r _ _ _ _ (by omega)]
        exact h5
      refine pk_le x j (fun h => by omega) (fun _ => ?_)
      rw [r26, yi_16, nI_clamp (n := 16 * ysn m + j) (by omega), nI_1]
      refine ⟨vp_in_nI (by omega) (by omega), nm_e ?_⟩
      rw [yi_r _ _ _ _ (by omega : 635 ≠ 653), r26, yi_16, nI_clamp (n := 16 * ysn m + j) (by omega)]
      refine ⟨vp_in_nI (by omega) (by omega), nm_e (ih _ ⟨(g1.i (by omega) (by omega)).i (by omega) (by omega), fun i => ?_⟩)⟩
      refine ⟨?_, ?_⟩
      · rw [yi_r _ 654 _ _ (by omega : 653 ≠ 654), yi_m]
        by_cases cc : i = 16 * ysn m + j
        · rw [if_pos ⟨rfl, cc⟩, if_pos (by omega)]
        · rw [if_neg (fun q => cc q.2), (g2 i).1]
          by_cases c2 : 16 * ysn m ≤ i ∧ i < 16 * ysn m + j
          · rw [if_pos c2, if_pos (by omega)]
          · rw [if_neg c2, if_neg (by omega)]
      · rw [yi_m]
        by_cases cc : i = 16 * ysn m + j
        · rw [if_pos ⟨rfl, cc⟩, if_pos (by omega)]
        · rw [if_neg (fun q => cc q.2), yi_r _ 653 _ _ (by omega : 654 ≠ 653), (g2 i).2]
          by_cases c2 : 16 * ysn m ≤ i ∧ i < 16 * ysn m + j
          · rw [if_pos c2, if_pos (by omega)]
          · rw [if_neg c2, if_neg (by omega)]
  refine yi_ne c 1 (fun c1 => ?_) (fun c1 => ?_)
  · rw [decide_eq_false c1] at h44
    exact h44
  · rw [decide_eq_true c1] at h44
    exact h44
/-- past what is not of this kind -/
theorem ys_n579 {k i : Nat} {l2 l3 : Int32} {K : Int32 → zs_T → Prop} (hk : k ≤ 15) (h : k < 12 ∨ 14 ≤ k) (hK : K (nI (i + 1)) st) : zf_MO_step_579 K (nI i) l2 l3 (nI k) st := by
  unfold zf_MO_step_579
  rw [nI_1]
  exact yi_ne k 12 (fun _ => yi_ne k 13 (fun _ => hK) (fun c => by omega)) (fun c => by omega)
theorem ys_n545 {k i : Nat} {l2 l3 : Int32} {K : Int32 → zs_T → Prop} (hk : k ≤ 15) (h : k < 12 ∨ k = 15) (hK : K (nI (i + 1)) st) : zf_MO_step_545 K (nI i) l2 l3 (nI k) st := by
  unfold zf_MO_step_545
  refine yi_ne k 13 (fun _ => ?_) (fun c => by omega)
  unfold zf_MO_step_567
  exact yi_ne k 14 (fun _ => ys_n579 hk (by omega) hK) (fun c => by omega)
theorem ys_n513 {k i : Nat} {l2 l3 : Int32} {K : Int32 → zs_T → Prop} (hk : k ≤ 15) (h : k < 11 ∨ k = 15) (hK : K (nI (i + 1)) st) : zf_MO_step_513 K (nI i) l2 l3 (nI k) st := by
  unfold zf_MO_step_513
  exact yi_ne k 11 (fun _ => ys_n545 hk (by omega) hK) (fun c => by omega)
theorem ys_n434 {k i : Nat} {l2 l3 : Int32} {K : Int32 → zs_T → Prop} (hk : k ≤ 15) (h : k < 10 ∨ k = 15) (hK : K (nI (i + 1)) st) : zf_MO_step_434 K (nI i) l2 l3 (nI k) st := by
  unfold zf_MO_step_434
  exact yi_ne k 10 (fun _ => ys_n513 hk (by omega) hK) (fun c => by omega)
theorem ys_n362 {k i : Nat} {l2 l3 : Int32} {K : Int32 → zs_T → Prop} (hk : k ≤ 15) (h : k < 9 ∨ k = 15) (hK : K (nI (i + 1)) st) : zf_MO_step_362 K (nI i) l2 l3 (nI k) st := by
  unfold zf_MO_step_362
  exact yi_ne k 9 (fun _ => ys_n434 hk (by omega) hK) (fun c => by omega)
theorem ys_n347 {k i : Nat} {l2 l3 l4 : Int32} {K : Int32 → zs_T → Prop} (hk : k ≤ 15) (h : k < 8 ∨ k = 15) (hK : K (nI (i + 1)) st) : zf_MO_step_347 K (nI i) l2 l3 l4 (nI k) st := by
  unfold zf_MO_step_347
  exact yi_ne k 8 (fun _ => ys_n362 hk (by omega) hK) (fun c => by omega)
theorem ys_n254 {k i : Nat} {l2 l3 l4 : Int32} {K : Int32 → zs_T → Prop} (hk : k ≤ 15) (h : k < 7 ∨ k = 15) (hK : K (nI (i + 1)) st) : zf_MO_step_254 K (nI i) l2 l3 l4 (nI k) st := by
  unfold zf_MO_step_254
  exact yi_ne k 7 (fun _ => ys_n347 hk (by omega) hK) (fun c => by omega)
theorem ys_n204 {k i : Nat} {l2 l3 l4 : Int32} {K : Int32 → zs_T → Prop} (hk : k ≤ 15) (h : k < 6 ∨ k = 15) (hK : K (nI (i + 1)) st) : zf_MO_step_204 K (nI i) l2 l3 l4 (nI k) st := by
  unfold zf_MO_step_204
  exact yi_ne k 6 (fun _ => ys_n254 hk (by omega) hK) (fun c => by omega)
theorem ys_n85 {k i : Nat} {l2 l3 l4 : Int32} {K : Int32 → zs_T → Prop} (hk : k ≤ 15) (h : k < 2) (hK : K (nI (i + 1)) st) : zf_MO_step_85 K (nI i) l2 l3 l4 (nI k) st := by
  unfold zf_MO_step_85
  exact pk_le k 1 (fun _ => ys_n204 hk (by omega) hK) (fun c => by omega)
theorem ys_n62 {k i : Nat} {l2 l3 l4 : Int32} {K : Int32 → zs_T → Prop} (hk : k ≤ 15) (h : k < 1) (hK : K (nI (i + 1)) st) : zf_MO_step_62 K (nI i) l2 l3 l4 (nI k) st := by
  unfold zf_MO_step_62
  exact yi_ne k 1 (fun _ => ys_n85 hk (by omega) hK) (fun c => by omega)
end YS
