/-! the class's pass -/
theorem yk_pass {G : yp_G} {i d dp : Nat} {st : zs_T} {K : zs_T → Prop} (hok : yp_ok G) (hC : yp_C dp G st) (hd : dp + 4 < 12 ∧ 16 < d) (hi : i < yn G) (hm : ∀ r s, r < 16 → s < 32 → (bt (st.1 16 r) s = true ↔ s < 16 ∧ yp_meet G r s)) (hk1 : yk_ok st d) (hk2 : yk_sy st d) (hK : ∀ t, yk_P G i st d t → K t) : zf_FA_pass d dp (nI i) st K := by
  have hn := hok.n
  have hkk := hok.k hi
  obtain ⟨c1, c2, c3, c4⟩ := hC.2 i hi
  unfold zf_FA_pass
  have iv : vp_in (nI i) 200 := vp_in_nI (by omega) (by omega)
  rw [nI_clamp (n := i) (by omega), c1, c2, c3]
  refine ⟨iv, iv, iv, ?_⟩
  have hset : yk G i ≠ 1 → yk G i ≠ 7 → yk G i ≠ 8 → yk G i ≠ 9 → yk G i ≠ 10 → zf_FA_pass_162 d dp K (nI i) (nI (ya G i)) st := by
    intro h1 h7 h8 h9 h10
    unfold zf_FA_pass_162
    refine yc_sets hok hC hi ?_
    by_cases hk : yk G i ≤ 9
    · rw [decide_eq_true hk]
      refine ⟨(fun h => by cases h), fun _ => yk_forget (hok.a hi (by omega)) (fun t ag hE hS => hK t (yk_pset hk h1 h7 h8 h9 hk1 hk2 ag hE hS))⟩
    · rw [decide_eq_false hk]
      exact ⟨fun _ => hK st (yk_pid (Or.inl ⟨by omega, h10⟩) hk1 hk2), fun h => absurd rfl h⟩
  refine pk_eq (yk G i) 1 (fun h => ?_) (fun h1 => ?_)
  · have ha := hok.a hi (by omega)
    have he := hok.e hi (by omega)
    rw [hok.x hi (by omega)]
    unfold zf_FA_passMove
    refine And.intro (fun c => ?_) (fun c => ?_)
    · have c' : ya G i ≠ ye G i := fun e => c (by rw [e])
      refine yk_forget ha (fun u ag hE hS => yk_move ha he c' (fun t ag' hE' hS' => hK t (yk_pmove h ha he c' hk1 hk2 (ag.trans ag') hE hS hE' hS')))
    · exact hK st (yk_pid (Or.inr ⟨h, (nI_eq (by omega) (by omega)).mp c⟩) hk1 hk2)
  refine pk_eq (yk G i) 2 (fun h => hset (by omega) (by omega) (by omega) (by omega) (by omega)) (fun h2 => ?_)
  refine pk_eq (yk G i) 3 (fun h => hset (by omega) (by omega) (by omega) (by omega) (by omega)) (fun h3 => ?_)
  refine pk_eq (yk G i) 4 (fun h => hset (by omega) (by omega) (by omega) (by omega) (by omega)) (fun h4 => ?_)
  refine pk_eq (yk G i) 5 (fun h => hset (by omega) (by omega) (by omega) (by omega) (by omega)) (fun h5 => ?_)
  refine pk_eq (yk G i) 6 (fun h => hset (by omega) (by omega) (by omega) (by omega) (by omega)) (fun h6 => ?_)
  refine pk_eq (yk G i) 7 (fun h => ?_) (fun h7 => ?_)
  · have ha := hok.a hi (by omega)
    have he := hok.e hi (by omega)
    rw [hok.x hi (by omega)]
    refine yk_forget ha (fun u ag hE hS => nm_e (hK _ (yk_psure (Or.inl ⟨h, he⟩) ha hk1 hk2 (ag.i (by omega) (by omega)) (fun r s hr hs => ?_) (fun s hs => ?_))))
    · unfold yE yH
      rw [yi_r _ _ _ _ (by omega), yi_r _ _ _ _ (by omega)]
      exact hE r s hr hs
    · have := hS s hs
      unfold yS at this ⊢
      rw [yi_s, b_or, b_or, yb_one (by omega) hs, yb_one (by omega) hs, this]
      simp [h]
  refine pk_eq (yk G i) 8 (fun h => ?_) (fun h8 => ?_)
  · have ha := hok.a hi (by omega)
    refine yk_forget ha (fun u ag hE hS => nm_e (hK _ (yk_psure (Or.inr h) ha hk1 hk2 (ag.i (by omega) (by omega)) (fun r s hr hs => ?_) (fun s hs => ?_))))
    · unfold yE yH
      rw [yi_r _ _ _ _ (by omega), yi_r _ _ _ _ (by omega)]
      exact hE r s hr hs
    · have := hS s hs
      unfold yS at this ⊢
      rw [yi_s, b_or, yb_one (by omega) hs, this]
      simp [h]
  refine pk_eq (yk G i) 9 (fun h => ?_) (fun h9 => ?_)
  · have ha := hok.a hi (by omega)
    have he := hok.e hi (by omega)
    rw [hok.x hi (by omega)]
    unfold zf_FA_passLoad
    have ie : vp_in (nI (ye G i)) 16 := vp_in_nI (by omega) (by omega)
    rw [nI_clamp (n := ye G i) (by omega), nI_clamp (n := ya G i) (by omega)]
    have e1 : ∀ s, s < 32 → bt (((st.1 (d + 1) (ye G i)) ||| ((1 : Int32) <<< (nI (ye G i) &&& 31))) &&& (((1 : Int32) <<< (nI (ya G i) &&& 31)) ^^^ (-1))) s = ((yE st d (ye G i) s || decide (s = ye G i)) && decide (s ≠ ya G i)) := by
      intro s hs
      rw [b_and, b_or, yb_not _ hs, yb_one (by omega) hs, yb_one (by omega) hs]
      simp [yE]
    have e2 : ∀ s, s < 32 → bt ((st.1 (d + 2) (ye G i)) &&& (((1 : Int32) <<< (nI (ya G i) &&& 31)) ^^^ (-1))) s = (yH st d (ye G i) s && decide (s ≠ ya G i)) := by
      intro s hs
      rw [b_and, yb_not _ hs, yb_one (by omega) hs]
      simp [yH]
    generalize (((st.1 (d + 1) (ye G i)) ||| ((1 : Int32) <<< (nI (ye G i) &&& 31))) &&& (((1 : Int32) <<< (nI (ya G i) &&& 31)) ^^^ (-1))) = l at e1 ⊢
    generalize ((st.1 (d + 2) (ye G i)) &&& (((1 : Int32) <<< (nI (ya G i) &&& 31)) ^^^ (-1))) = m at e2 ⊢
    refine ⟨ie, ie, yk_forget ha (fun u ag hE hS => nm_e ⟨vp_in_nI (by omega) (by omega), nm_e (yk_load ha (fun t ag' hE' hS' => hK t (yk_pload h ha he hk1 hk2 (((ag.i (by omega) (by omega)).i (by omega) (by omega)).trans ag') (fun r s hr hs => ?_) (fun r s hr hs => ?_) (fun s hs => ?_))))⟩)⟩
    · rw [(hE' r s hr hs).1, e2 r (by omega)]
      have hu : yE (zs_i (zs_i u d 2 (u.1 d 2 ||| l)) (d + 1) (ya G i) m) d r s = if r = ya G i then bt m s else yE u d r s := by
        unfold yE
        rw [yi_m]
        by_cases c : r = ya G i
        · rw [if_pos ⟨rfl, c⟩, if_pos c]
        · rw [if_neg (fun q => c q.2), if_neg c, yi_r _ _ _ _ (by omega)]
      rw [hu, e2 s hs, (hE r s hr hs).1]
      by_cases c : r = ya G i
      · rw [if_pos c, if_pos c]
      · rw [if_neg c, if_neg c]; simp [c]
    · rw [(hE' r s hr hs).2, e1 r (by omega)]
      have hu : yH (zs_i (zs_i u d 2 (u.1 d 2 ||| l)) (d + 1) (ya G i) m) d r s = yH u d r s := by
        unfold yH
        rw [yi_r _ _ _ _ (by omega), yi_r _ _ _ _ (by omega)]
      rw [hu, (hE r s hr hs).2]
    · rw [hS' s]
      have hu : yS (zs_i (zs_i u d 2 (u.1 d 2 ||| l)) (d + 1) (ya G i) m) d s = (yS u d s || bt l s) := by
        unfold yS
        rw [yi_r _ _ _ _ (by omega), yi_s, b_or]
      rw [hu, e1 s hs, hS s hs]
  refine pk_eq (yk G i) 10 (fun h => ?_) (fun h10 => ?_)
  · have ha := hok.a hi (by omega)
    have he := hok.e hi (by omega)
    rw [hok.x hi (by omega)]
    unfold zf_FA_passStore
    rw [nI_clamp (n := ye G i) (by omega), nI_clamp (n := ya G i) (by omega)]
    refine ⟨vp_in_nI (by omega) (by omega), vp_in_nI (by omega) (by omega), vp_in_nI (by omega) (by omega), yk_store (fun t ag hE hS => hK t (yk_pstore (l := st.1 16 (ya G i)) h ha he (fun r hr => ?_) hk1 hk2 ag (fun r s hr hs => (hE r s hr hs).1) (fun r s hr hs => ?_) (fun s hs => ?_)))⟩
    · exact (hm (ya G i) r ha (by omega)).trans ⟨fun q => yp_meet_c q.2, fun q => ⟨hr, yp_meet_c q⟩⟩
    · rw [(hE r s hr hs).2, b_or, b_or, yb_one (by omega) hs, yb_one (by omega) (by omega)]
      rfl
    · rw [hS s, b_or, yb_one (by omega) hs]
      rfl
  exact hset h1 h7 h8 h9 h10
