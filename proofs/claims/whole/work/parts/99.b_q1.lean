/-! the calls, one by one: size, clear, steps, printed, instruction, fate, rounds -/
def yM (X : (Int32 → zs_T → Prop) → Prop) (c : Int32) : Prop := ∀ K' : Int32 → zs_T → Prop, (∀ v u', yL u' → u'.1 635 0 = c → (c = 0 → u'.2 658 0 = v.toInt64) → K' v u') → X K'
def yMb (X : (Int32 → zs_T → Prop) → Prop) (c : Int32) : Prop := ∀ K' : Int32 → zs_T → Prop, (∀ v u', yL u' → u'.1 635 0 = c → (c = 0 → u'.2 658 0 = if v = 0 then 0 else 1) → K' v u') → X K'
theorem yx_01 : vp_in 0 1 := vp_in_nI (n := 0) (by omega) (by omega)
theorem yx_cl0 : (0 : Int32).toNatClampNeg = 0 := rfl
section YQ
variable {G : yp_G} {st : zs_T} {B : zs_T → Prop} {K : Int32 → zs_T → Prop}
theorem yq_size (h : yL0 G st) (hB : ∀ u, yL u → B u) : zf_TS_size st (fun r u => zf_MO_size u (fun r' u' => ((r = r' → B u') ∧ (¬ r = r' → False)))) := by
  refine nm_e ⟨fun _ => hB _ ⟨G, h.r 0⟩, fun q => q ?_⟩
  rw [yi_n _ _ _ (by omega), h.2.1.1, h.2.2.1.1]
theorem yq_steps (h : yL0 G st) (hB : ∀ u, yL u → B u) : zf_TS_steps st (fun r u => zf_MO_steps u (fun r' u' => ((r = r' → B u') ∧ (¬ r = r' → False)))) := by
  obtain ⟨M, m1, m2, m3, m4, m5⟩ := h.2.2.2.2.2
  refine nm_e ⟨fun _ => hB _ ⟨G, h.r 0⟩, fun q => q ?_⟩
  rw [yi_n _ _ _ (by omega), m5]
theorem yq_printed (h : yL0 G st) (hB : ∀ u, yL u → B u) : zf_TS_printed st (fun r u => zf_MO_printed u (fun r' u' => ((r = r' → B u') ∧ (¬ r = r' → False)))) := by
  obtain ⟨M, m1, m2, m3, m4, m5⟩ := h.2.2.2.2.2
  refine nm_e ⟨fun _ => hB _ ⟨G, h.r 0⟩, fun q => q ?_⟩
  rw [yi_n _ _ _ (by omega), m2.2.2.2.2.2.2, m3.2.2.2.2]
theorem yq_clear (h : yL0 G st) (hB : ∀ u, yL u → B u) : zf_TS_clear st (fun r u => zf_MO_clear u (fun r' u' => ((r = r' → B u') ∧ (¬ r = r' → False)))) := by
  refine nm_e (nm_e (nm_e (nm_e (nm_e ⟨fun _ => hB _ ⟨(0, yk G, ya G, yx G, yd G), ?_⟩, fun q => q ?_⟩))))
  · refine ⟨⟨Nat.zero_le _, fun i hi => absurd hi (Nat.not_lt_zero i)⟩, ⟨?_, fun i hi => absurd hi (Nat.not_lt_zero i)⟩, ⟨?_, fun i hi => absurd hi (Nat.not_lt_zero i)⟩, ?_, fun q => absurd ?_ q, ?_⟩
    · rw [yi_r _ _ _ _ (by omega : 1 ≠ 635), yi_r _ _ _ _ (by omega : 1 ≠ 635), yi_r _ _ _ _ (by omega : 1 ≠ 635), yi_r _ _ _ _ (by omega : 1 ≠ 0), yi_s]; rfl
    · rw [yi_n _ _ _ (by omega), yi_s]; rfl
    · rw [yi_s, yi_r _ _ _ _ (by omega : 0 ≠ 635), yi_r _ _ _ _ (by omega : 0 ≠ 635), yi_r _ _ _ _ (by omega : 0 ≠ 635), yi_s]
    · rw [yi_r _ _ _ _ (by omega : 0 ≠ 635), yi_r _ _ _ _ (by omega : 0 ≠ 635), yi_r _ _ _ _ (by omega : 0 ≠ 635), yi_s]
    · refine h.2.2.2.2.2.of (fun d _ _ => ?_) (fun d _ _ => rfl) (fun d _ _ => ?_) (fun x _ => ?_)
      · rw [yi_r _ _ _ _ (by omega), yi_r _ _ _ _ (by omega), yi_r _ _ _ _ (by omega), yi_r _ _ _ _ (by omega), yi_r _ _ _ _ (by omega)]
      · rw [yi_r _ _ _ _ (by omega), yi_r _ _ _ _ (by omega), yi_r _ _ _ _ (by omega), yi_r _ _ _ _ (by omega), yi_r _ _ _ _ (by omega)]
      · rw [yi_n _ _ _ (by omega), yi_n _ _ _ (by omega), yi_n _ _ _ (by omega), yi_r _ _ _ _ (by omega), yi_r _ _ _ _ (by omega)]
  · rw [yi_n _ _ _ (by omega), yi_r _ _ _ _ (by omega : 635 ≠ 0), yi_r _ _ _ _ (by omega : 635 ≠ 1), h.2.1.1, h.2.2.1.1]
/-- a part of an instruction -/
def yx_pa (H : yp_G) (i : Nat) (l : Int32) : Int32 := if l = 0 then nI (yk H i) else if l = 1 then nI (ya H i) else if l = 2 then yx H i else nI (yd H i)
theorem yx_cpart {H : yp_G} {d i : Nat} {l : Int32} (hok : yp_ok H) (hC : yp_C d H st) (hi : i < yn H) (hK : K (yx_pa H i l) st) : zf_PR_part d (nI i) l st K := by
  have hn := hok.n
  obtain ⟨c1, c2, c3, c4⟩ := hC.2 i hi
  have iv : vp_in (nI i) 200 := vp_in_nI (by omega) (by omega)
  unfold zf_PR_part
  unfold yx_pa at hK
  rw [nI_clamp (n := i) (by omega), c1, c2, c3, c4]
  refine br_c (fun q => ⟨iv, ?_⟩) (fun q => br_c (fun q1 => ⟨iv, ?_⟩) (fun q1 => br_c (fun q2 => ⟨iv, ?_⟩) (fun q2 => ⟨iv, ?_⟩)))
  · rw [if_pos q] at hK; exact hK
  · rw [if_neg q, if_pos q1] at hK; exact hK
  · rw [if_neg q, if_neg q1, if_pos q2] at hK; exact hK
  · rw [if_neg q, if_neg q1, if_neg q2] at hK; exact hK
theorem yx_mpart {H : yp_G} {b i : Nat} {l : Int32} (hok : yp_ok H) (hb : b ≤ 200) (hD : yp_D b H st) (hi : i < yn H) (hK : K (yx_pa H i l) st) : zf_MO_instruction_67 K l (nI (b + i)) st := by
  have hn := hok.n
  obtain ⟨c1, c2, c3, c4⟩ := hD.2 i hi
  have iv : vp_in (nI (b + i)) 400 := vp_in_nI (by omega) (by omega)
  unfold zf_MO_instruction_67
  unfold yx_pa at hK
  rw [nI_clamp (n := b + i) (by omega), c1, c2, c3, c4]
  refine And.intro (fun q => And.intro (fun q1 => And.intro (fun q2 => ⟨iv, ?_⟩) (fun q2 => ⟨iv, ?_⟩)) (fun q1 => ⟨iv, ?_⟩)) (fun q => ⟨iv, ?_⟩)
  · rw [if_neg q, if_neg q1, if_neg q2] at hK; exact hK
  · rw [if_neg q, if_neg q1, if_pos q2] at hK; exact hK
  · rw [if_neg q, if_pos q1] at hK; exact hK
  · rw [if_pos q] at hK; exact hK
theorem yq_instr {l1 l2 l3 : Int32} (h : yL0 G st) (hK : ∀ c u, yM (fun K' => zf_MO_instruction l1 l2 l3 u K') c → K c u) : zf_LA_instruction l1 l2 l3 st K := by
  have hok := h.1
  have hn := hok.n
  have hC := h.2.1
  have hD := h.2.2.1
  have h6 : st.1 635 6 = st.1 0 7 := h.2.2.2.1
  by_cases q1 : yx_in (yn G) l1
  · obtain ⟨i, hi, e1⟩ := q1
    have q1 : yx_in (yn G) l1 := ⟨i, hi, e1⟩
    by_cases q2 : yx_in 4 l2
    · by_cases q3 : l3 = 0 ∧ st.1 0 7 = 0
      · refine Or.inr (yx_ins hok hC (fun _ => Or.inl ⟨fun _ => yx_c2 (N := 3) (by omega) rfl (fun _ => Or.inl ⟨fun _ => Or.inr ⟨fun z => absurd q3.1 z, fun _ => ⟨fun z => absurd q3.2 z, fun _ => Or.inr (Or.inr ⟨rfl, ?_⟩)⟩⟩, fun z => absurd z (by decide)⟩) (fun z => absurd q2 z), fun z => absurd z (by decide)⟩) (fun z => absurd q1 z))
        refine hK 3 st (fun K' hK' => yx_no hok hD (fun _ => ⟨fun _ => yx_c4 (N := 3) (by omega) rfl (fun _ => ⟨fun z => absurd q3.1 z, fun _ => ⟨fun z => absurd (h6.trans q3.2) z, fun _ => nm_e ?_⟩⟩) (fun z => absurd q2 z), fun z => absurd rfl z⟩) (fun z => absurd q1 z))
        rw [yi_s]
        exact ⟨fun z => absurd z (by decide), fun _ => hK' 0 _ ⟨G, h.r 3⟩ (yi_s _ _ _ _) (fun z => absurd z (by decide))⟩
      · have hthr : ∀ (u : zs_T) (K'' : zs_T → Prop), u.1 0 7 = st.1 0 7 → K'' u → zf_TS_needThrifty l3 u K'' := by
          intro u K'' e hu
          exact ⟨fun _ => hu, fun z => ⟨fun _ => hu, fun z2 => absurd ⟨z, e ▸ z2⟩ q3⟩⟩
        have hmthr : ∀ (u : zs_T) (v : Int32) (K' : Int32 → zs_T → Prop), yL0 G u → u.1 635 6 = st.1 0 7 → zf_MO_instruction_42 K' l1 l2 l3 0 u → zf_MO_instruction l1 l2 l3 u K' := by
          intro u v K' hu e z
          exact yx_no hok hu.2.2.1 (fun _ => ⟨fun _ => yx_c4 (N := 3) (by omega) rfl (fun _ => ⟨fun _ => z, fun z3 => ⟨fun _ => z, fun z4 => absurd ⟨z3, e ▸ z4⟩ q3⟩⟩) (fun z => absurd q2 z), fun z => absurd rfl z⟩) (fun z => absurd q1 z)
        by_cases q4 : l3 = 0
        · have q5 : ¬ st.1 0 7 = 0 := fun z => q3 ⟨q4, z⟩
          obtain ⟨H, f, m, g1, g2, g3, g4, g5⟩ := h.2.2.2.2.1 q5
          refine Or.inl (yx_ins hok hC (fun _ => ⟨fun _ => yx_c2 (N := 3) (by omega) rfl (fun _ => ⟨fun _ => hthr st _ rfl ⟨fun _ => ?_, fun z => absurd q4 z⟩, fun z => absurd z (by decide)⟩) (fun z => absurd q2 z), fun z => absurd z (by decide)⟩) (fun z => absurd q1 z))
          rw [e1]
          refine yx_cpart g1 g3.1 (by omega) ⟨yx_01, nm_e ?_⟩
          rw [yx_cl0]
          refine hK 0 _ (fun K' hK' => hmthr _ 0 K' (h.l _) h6 (nm_e ?_))
          rw [yi_s]
          refine ⟨fun _ => ⟨fun _ => ?_, fun z => absurd q4 z⟩, fun z => absurd (by decide) z⟩
          rw [e1, yi_p200]
          have g4' : yp_D 200 H (zs_i (zs_l st 658 0 (yx_pa H i l2).toInt64) 635 0 0) := g4.1.of (yi_n _ _ _ (by omega)) (fun x _ _ => yi_r _ _ _ _ (by omega))
          refine yx_mpart g1 (by omega) g4' (by omega) (hK' _ _ ⟨G, (h.l _).r 0⟩ (yi_s _ _ _ _) (fun _ => ?_))
          show (zs_l st 658 0 (yx_pa H i l2).toInt64).2 658 0 = _
          rw [yl_m, if_pos ⟨rfl, rfl⟩]
        · refine Or.inl (yx_ins hok hC (fun _ => ⟨fun _ => yx_c2 (N := 3) (by omega) rfl (fun _ => ⟨fun _ => hthr st _ rfl ⟨fun z => absurd z q4, fun _ => ?_⟩, fun z => absurd z (by decide)⟩) (fun z => absurd q2 z), fun z => absurd z (by decide)⟩) (fun z => absurd q1 z))
          rw [e1]
          refine yx_cpart hok hC (by omega) ⟨yx_01, nm_e ?_⟩
          rw [yx_cl0]
          refine hK 0 _ (fun K' hK' => hmthr _ 0 K' (h.l _) h6 (nm_e ?_))
          rw [yi_s]
          refine ⟨fun _ => ⟨fun z => absurd z q4, fun _ => ?_⟩, fun z => absurd (by decide) z⟩
          rw [e1]
          have g4' : yp_D 0 G (zs_i (zs_l st 658 0 (yx_pa G i l2).toInt64) 635 0 0) := hD.of (yi_n _ _ _ (by omega)) (fun x _ _ => yi_r _ _ _ _ (by omega))
          have z := yx_mpart (b := 0) (i := i) (l := l2) (K := K') hok (by omega) g4' (by omega) (hK' _ _ ⟨G, (h.l _).r 0⟩ (yi_s _ _ _ _) (fun _ => ?_))
          · rw [Nat.zero_add] at z
            exact z
          · show (zs_l st 658 0 (yx_pa G i l2).toInt64).2 658 0 = _
            rw [yl_m, if_pos ⟨rfl, rfl⟩]
    · refine Or.inr (yx_ins hok hC (fun _ => Or.inl ⟨fun _ => yx_c2 (N := 3) (by omega) rfl (fun z => absurd z q2) (fun _ => Or.inr ⟨fun z => absurd rfl z, fun _ => Or.inr (Or.inl ⟨rfl, ?_⟩)⟩), fun z => absurd z (by decide)⟩) (fun z => absurd q1 z))
      refine hK 2 st (fun K' hK' => yx_no hok hD (fun _ => ⟨fun _ => yx_c4 (N := 3) (by omega) rfl (fun z => absurd z q2) (fun _ => nm_e ?_), fun z => absurd rfl z⟩) (fun z => absurd q1 z))
      rw [yi_s]
      exact ⟨fun z => absurd z (by decide), fun _ => hK' 0 _ ⟨G, h.r 2⟩ (yi_s _ _ _ _) (fun z => absurd z (by decide))⟩
  · refine Or.inr (yx_ins hok hC (fun z => absurd z q1) (fun _ => Or.inr ⟨fun z => absurd rfl z, fun _ => Or.inl ⟨rfl, ?_⟩⟩))
    refine hK 1 st (fun K' hK' => yx_no hok hD (fun z => absurd z q1) (fun _ => ⟨fun z => absurd z (by decide), fun _ => nm_e ?_⟩))
    rw [yi_s]
    exact ⟨fun z => absurd z (by decide), fun _ => hK' 0 _ ⟨G, h.r 1⟩ (yi_s _ _ _ _) (fun z => absurd z (by decide))⟩
theorem yq_fate {l1 : Int32} (h : yL0 G st) (hK : ∀ c u, yM (fun K' => zf_MO_fate l1 u K') c → K c u) : zf_LA_fate l1 st K := by
  have hok := h.1
  have hn := hok.n
  have hC := h.2.1
  have hD := h.2.2.1
  have h6 : st.1 635 6 = st.1 0 7 := h.2.2.2.1
  by_cases q1 : yx_in (yn G) l1
  · obtain ⟨i, hi, e1⟩ := q1
    have q1 : yx_in (yn G) l1 := ⟨i, hi, e1⟩
    by_cases q3 : st.1 0 7 = 0
    · refine Or.inr (yx_ins hok hC (fun _ => Or.inl ⟨fun _ => Or.inr ⟨fun z => absurd rfl z, fun _ => ⟨fun z => absurd q3 z, fun _ => Or.inr ⟨rfl, ?_⟩⟩⟩, fun z => absurd z (by decide)⟩) (fun z => absurd q1 z))
      refine hK 2 st (fun K' hK' => yx_no hok hD (fun _ => ⟨fun _ => ⟨fun z => absurd (h6.trans q3) z, fun _ => nm_e ?_⟩, fun z => absurd rfl z⟩) (fun z => absurd q1 z))
      rw [yi_s]
      exact ⟨fun z => absurd z (by decide), fun _ => hK' 0 _ ⟨G, h.r 2⟩ (yi_s _ _ _ _) (fun z => absurd z (by decide))⟩
    · obtain ⟨H, f, m, g1, g2, g3, g4, g5⟩ := h.2.2.2.2.1 q3
      have iv : vp_in l1 200 := by rw [e1]; exact vp_in_nI (by omega) (by omega)
      have cl : l1.toNatClampNeg = i := by rw [e1]; exact nI_clamp (by omega)
      refine Or.inl (yx_ins hok hC (fun _ => ⟨fun _ => ⟨fun z => absurd rfl z, fun _ => ⟨fun _ => ⟨iv, yx_01, nm_e ?_⟩, fun z => absurd z q3⟩⟩, fun z => absurd z (by decide)⟩) (fun z => absurd q1 z))
      rw [yx_cl0, cl, g3.2 i (by omega)]
      refine hK 0 _ (fun K' hK' => yx_no hok (h.l _).2.2.1 (fun _ => ⟨fun _ => ⟨fun _ => nm_e ?_, fun z => absurd (h6 ▸ z) q3⟩, fun z => absurd rfl z⟩) (fun z => absurd q1 z))
      rw [yi_s]
      refine ⟨fun _ => ⟨iv, ?_⟩, fun z => absurd (by decide) z⟩
      rw [cl, yi_r _ _ _ _ (by omega)]
      refine hK' _ _ ⟨G, (h.l _).r 0⟩ (yi_s _ _ _ _) (fun _ => ?_)
      show (zs_l st 658 0 (nI (f i)).toInt64).2 658 0 = _
      rw [yl_m, if_pos ⟨rfl, rfl⟩]
      show _ = (st.1 640 i).toInt64
      rw [g4.2 i (by omega)]
  · refine Or.inr (yx_ins hok hC (fun z => absurd z q1) (fun _ => Or.inr ⟨fun z => absurd rfl z, fun _ => Or.inl ⟨rfl, ?_⟩⟩))
    refine hK 1 st (fun K' hK' => yx_no hok hD (fun z => absurd z q1) (fun _ => ⟨fun z => absurd z (by decide), fun _ => nm_e ?_⟩))
    rw [yi_s]
    exact ⟨fun z => absurd z (by decide), fun _ => hK' 0 _ ⟨G, h.r 1⟩ (yi_s _ _ _ _) (fun z => absurd z (by decide))⟩
theorem yq_rounds (h : yL0 G st) (hK : ∀ c u, yM (fun K' => zf_MO_rounds u K') c → K c u) : zf_LA_rounds st K := by
  have h6 : st.1 635 6 = st.1 0 7 := h.2.2.2.1
  by_cases q3 : st.1 0 7 = 0
  · refine Or.inr (Or.inr ⟨fun z => absurd rfl z, fun _ => ⟨fun z => absurd q3 z, fun _ => ⟨rfl, ?_⟩⟩⟩)
    refine hK 1 st (fun K' hK' => ⟨fun _ => nm_e ?_, fun z => absurd (h6.trans q3) z⟩)
    rw [yi_s]
    exact ⟨fun z => absurd z (by decide), fun _ => hK' 0 _ ⟨G, h.r 1⟩ (yi_s _ _ _ _) (fun z => absurd z (by decide))⟩
  · obtain ⟨H, f, m, g1, g2, g3, g4, g5, g6, g7, g8⟩ := h.2.2.2.2.1 q3
    refine Or.inl ⟨fun z => absurd rfl z, fun _ => ⟨fun _ => ⟨yx_01, nm_e ?_⟩, fun z => absurd z q3⟩⟩
    rw [yx_cl0, g6]
    refine hK 0 _ (fun K' hK' => ⟨fun z => absurd (h6 ▸ z) q3, fun _ => nm_e ?_⟩)
    rw [yi_s]
    refine ⟨fun _ => ?_, fun z => absurd (by decide) z⟩
    rw [yi_n _ _ _ (by omega)]
    refine hK' _ _ ⟨G, (h.l _).r 0⟩ (yi_s _ _ _ _) (fun _ => ?_)
    show (zs_l st 658 0 (nI m).toInt64).2 658 0 = (st.1 635 7).toInt64
    rw [yl_m, if_pos ⟨rfl, rfl⟩, g7]
end YQ
