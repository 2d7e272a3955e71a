/-! what comes from an instruction, in the class -/
section YG
variable {d : Nat} {st : zs_T} {K : zs_T → Prop}
theorem yk_move {a b : Nat} (ha : a < 16) (hb : b < 16) (hab : a ≠ b) (hK : ∀ t, zs_ag d (d + 2) st t → (∀ r s, r < 16 → s < 32 → yE t d r s = (if r = a then (yE st d b s || (decide (s = a) && yE st d b b)) || decide (s = b) else if r = b then (yE st d b s || (decide (s = a) && yE st d b b)) || decide (s = a) else (yE st d r s || (decide (s = a) && yE st d r b))) ∧ yH t d r s = (if r = a then (yH st d b s || (decide (s = a) && yH st d b b)) else (yH st d r s || (decide (s = a) && yH st d r b)))) → (∀ s, s < 32 → yS t d s = (yS st d s || (decide (s = a) && yS st d b))) → K t) : ∃ n, zf_FA_passMove_13 d K n (nI a) (nI b) 0 st := by
  refine pk_loop (W := fun n r (t : zs_T) => zf_FA_passMove_13 d K n (nI a) (nI b) (nI r) t) (fun r t => yk_I d (fun r x => x ||| (((x >>> (nI b &&& 31)) &&& 1) <<< (nI a &&& 31))) (fun r x => x ||| (((x >>> (nI b &&& 31)) &&& 1) <<< (nI a &&& 31))) st r t) 16 0 st (by omega) yk_I_0 ?_ ?_
  · rintro n t h
    have ia : vp_in (nI a) 16 := vp_in_nI (by omega) (by omega)
    have ib : vp_in (nI b) 16 := vp_in_nI (by omega) (by omega)
    refine pk_le 16 16 (fun _ => ⟨ib, ia, nm_e ⟨ib, ia, nm_e ⟨ib, ib, nm_e (nm_e (hK _ ?_ ?_ ?_))⟩⟩⟩) (fun h => by omega)
    · exact (((h.ag.i (by omega) (by omega)).i (by omega) (by omega)).i (by omega) (by omega)).i (by omega) (by omega)
    · intro r s hr hs
      have e1 : ∀ r, r < 16 → bt (t.1 (d + 1) r) s = (yE st d r s || (decide (s = a) && yE st d r b)) := by
        intro r hr
        rw [h.2.2.1, if_pos hr, b_or, yb_mv _ (by omega) (by omega) hs]; rfl
      have e2 : ∀ r, r < 16 → bt (t.1 (d + 2) r) s = (yH st d r s || (decide (s = a) && yH st d r b)) := by
        intro r hr
        rw [h.2.2.2, if_pos hr, b_or, yb_mv _ (by omega) (by omega) hs]; rfl
      constructor
      · show bt _ s = _
        rw [nI_clamp (n := a) (by omega), nI_clamp (n := b) (by omega), yi_r _ _ _ _ (show d + 1 ≠ d by omega)]
        by_cases c1 : r = b
        · subst c1
          rw [yi_s, yi_r _ _ _ _ (show d + 1 ≠ d + 2 by omega), yi_n _ _ _ (fun e => hab e.symm), b_or, yb_one (by omega) hs, e1 r hr, if_neg (fun e => hab e.symm), if_pos rfl]
        · rw [yi_n _ _ _ c1, yi_r _ _ _ _ (show d + 1 ≠ d + 2 by omega)]
          by_cases c2 : r = a
          · subst c2
            rw [yi_s, b_or, yb_one (by omega) hs, e1 b hb, if_pos rfl]
          · rw [yi_n _ _ _ c2, e1 r hr, if_neg c2, if_neg c1]
      · show bt _ s = _
        rw [nI_clamp (n := a) (by omega), nI_clamp (n := b) (by omega), yi_r _ _ _ _ (show d + 2 ≠ d by omega), yi_r _ _ _ _ (show d + 2 ≠ d + 1 by omega)]
        by_cases c2 : r = a
        · subst c2
          rw [yi_s, yi_r _ _ _ _ (show d + 2 ≠ d + 1 by omega), e2 b hb, if_pos rfl]
        · rw [yi_n _ _ _ c2, yi_r _ _ _ _ (show d + 2 ≠ d + 1 by omega), e2 r hr, if_neg c2]
    · intro s hs
      unfold yS
      rw [yi_s, yi_r _ _ _ _ (by omega), yi_r _ _ _ _ (by omega), yi_r _ _ _ _ (by omega), h.2.1 d (by omega) (by omega), b_or, yb_mv _ (by omega) (by omega) hs]
  · rintro n r t hr h ih
    have ir : vp_in (nI r) 16 := vp_in_nI (by omega) (by omega)
    refine pk_le 16 r (fun h => by omega) (fun _ => ⟨ir, ir, ir, nm_e ⟨ir, ir, ir, nm_e ?_⟩⟩)
    rw [nI_1, nI_clamp (n := r) (by omega), yi_r _ _ _ _ (show d + 2 ≠ d + 1 by omega)]
    exact ih _ (yk_I_w h)
theorem yk_load {a : Nat} {l m : Int32} (ha : a < 16) (hK : ∀ t, zs_ag d (d + 2) st t → (∀ r s, r < 16 → s < 32 → yE t d r s = (yE st d r s || (decide (s = a) && bt m r)) ∧ yH t d r s = (yH st d r s || (decide (s = a) && bt l r))) → (∀ s, yS t d s = yS st d s) → K t) : ∃ n, zf_FA_passLoad_57 d K n (nI a) l m 0 st := by
  refine pk_loop (W := fun n r (t : zs_T) => zf_FA_passLoad_57 d K n (nI a) l m (nI r) t) (fun r t => yk_I d (fun r x => x ||| (((m >>> (nI r &&& 31)) &&& 1) <<< (nI a &&& 31))) (fun r x => x ||| (((l >>> (nI r &&& 31)) &&& 1) <<< (nI a &&& 31))) st r t) 16 0 st (by omega) yk_I_0 ?_ ?_
  · rintro n t h
    refine pk_le 16 16 (fun _ => hK _ h.ag ?_ ?_) (fun h => by omega)
    · intro r s hr hs
      unfold yE yH
      rw [h.2.2.1, h.2.2.2, if_pos hr, if_pos hr, b_or, b_or, yb_mv _ (by omega) (by omega) hs, yb_mv _ (by omega) (by omega) hs]
      exact ⟨rfl, rfl⟩
    · intro s
      unfold yS
      rw [h.2.1 d (by omega) (by omega)]
  · rintro n r t hr h ih
    have ir : vp_in (nI r) 16 := vp_in_nI (by omega) (by omega)
    refine pk_le 16 r (fun h => by omega) (fun _ => ⟨ir, ir, nm_e ⟨ir, ir, nm_e ?_⟩⟩)
    rw [nI_1, nI_clamp (n := r) (by omega), yi_r _ _ _ _ (show d + 1 ≠ d + 2 by omega)]
    exact ih _ (yk_I_w' h)
theorem yk_store {l m k : Int32} (hK : ∀ t, zs_ag d (d + 2) st t → (∀ r s, r < 16 → s < 32 → yE t d r s = yE st d r s ∧ yH t d r s = ((yH st d r s && (!bt l r || bt k s)) || (bt m r && bt k s))) → (∀ s, yS t d s = (yS st d s || bt m s)) → K t) : ∃ n, zf_FA_passStore_27 d K n l m k 0 st := by
  refine pk_loop (W := fun n r (t : zs_T) => zf_FA_passStore_27 d K n l m k (nI r) t) (fun r t => yk_I d (fun r x => x) (fun r x => if bt m r then ((if bt l r then x &&& k else x) ||| k) else (if bt l r then x &&& k else x)) st r t) 16 0 st (by omega) yk_I_0 ?_ ?_
  · rintro n t h
    refine pk_le 16 16 (fun _ => nm_e (hK _ (h.ag.i (by omega) (by omega)) ?_ ?_)) (fun h => by omega)
    · intro r s hr hs
      unfold yE yH
      rw [yi_r _ _ _ _ (by omega), yi_r _ _ _ _ (by omega), h.2.2.1, h.2.2.2, if_pos hr, if_pos hr]
      refine ⟨rfl, ?_⟩
      cases hm : bt m r <;> cases hl : bt l r <;> cases hx : bt k s <;> simp [hm, hl, hx, b_or, b_and]
    · intro s
      unfold yS
      rw [yi_s, h.2.1 d (by omega) (by omega), b_or]
  · rintro n r t hr h ih
    have ir : vp_in (nI r) 16 := vp_in_nI (by omega) (by omega)
    refine pk_le 16 r (fun h => by omega) (fun _ => ?_)
    have hw : ∀ v, v = (if bt m r then ((if bt l r then t.1 (d + 2) r &&& k else t.1 (d + 2) r) ||| k) else (if bt l r then t.1 (d + 2) r &&& k else t.1 (d + 2) r)) → ∀ u : zs_T, u.2 = t.2 → (∀ x, x ≠ d + 2 → u.1 x = t.1 x) → (∀ r', u.1 (d + 2) r' = if r' = r then v else t.1 (d + 2) r') → zf_FA_passStore_27 d K n l m k (nI r + 1) u := by
      intro v hv u u1 u2 u3
      rw [nI_1]
      refine ih u (yk_I_s h u1 (fun x _ hx => u2 x hx) (fun r' => ?_) (fun r' => by rw [u3, hv]))
      rw [u2 _ (by omega)]
      by_cases c : r' = r
      · rw [c, if_pos rfl]
      · rw [if_neg c]
    simp only [zf_FA_passStore_55, zf_FA_passStore_77]
    rw [yb_tst _ (show r < 32 by omega), yb_tst _ (show r < 32 by omega), nI_clamp (n := r) (by omega)]
    refine br_c (fun c1 => br_c (fun c2 => ?_) (fun c2 => ⟨ir, ir, nm_e ?_⟩)) (fun c1 => ⟨ir, ir, nm_e (br_c (fun c2 => ?_) (fun c2 => ⟨ir, ir, nm_e ?_⟩))⟩)
    · refine hw (t.1 (d + 2) r) (by rw [c1, c2]; rfl) t rfl (fun _ _ => rfl) (fun r' => ?_)
      by_cases c : r' = r
      · rw [c, if_pos rfl]
      · rw [if_neg c]
    · refine hw (t.1 (d + 2) r ||| k) (by rw [c1, ts_nf c2]; rfl) _ rfl (fun x hx => yi_r _ _ _ _ hx) (fun r' => ?_)
      rw [yi_m]
      by_cases c : r' = r
      · rw [if_pos ⟨rfl, c⟩, if_pos c]
      · rw [if_neg (fun q => c q.2), if_neg c]
    · refine hw (t.1 (d + 2) r &&& k) (by rw [ts_nf c1, c2]; rfl) _ rfl (fun x hx => yi_r _ _ _ _ hx) (fun r' => ?_)
      rw [yi_m]
      by_cases c : r' = r
      · rw [if_pos ⟨rfl, c⟩, if_pos c]
      · rw [if_neg (fun q => c q.2), if_neg c]
    · rw [yi_s]
      refine hw (t.1 (d + 2) r &&& k ||| k) (by rw [ts_nf c1, ts_nf c2]; rfl) _ rfl (fun x hx => by rw [yi_r _ _ _ _ hx, yi_r _ _ _ _ hx]) (fun r' => ?_)
      rw [yi_ii, yi_m]
      by_cases c : r' = r
      · rw [if_pos ⟨rfl, c⟩, if_pos c]
      · rw [if_neg (fun q => c q.2), if_neg c]
end YG
