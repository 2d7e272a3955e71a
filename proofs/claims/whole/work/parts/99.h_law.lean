/-! the law's loop -/
theorem yL_law {L : Nat} {xs : Nat → Int32} (hL : L ≤ 2560) : ∀ n l st, yL st → l ≤ L → L < l + 5 * n → zf_LAW_23 L xs n (nI l) st := by
  intro n
  induction n with
  | zero => intro l st _ h1 h2; omega
  | succ n ih =>
    rintro l st ⟨G, h⟩ h1 h2
    show zf_LAW_23_s L xs (zf_LAW_23 L xs n) (nI l) st
    unfold zf_LAW_23_s
    refine ⟨fun _ => trivial, fun q => ?_⟩
    have h5 : l + 5 ≤ L := by
      apply Classical.byContradiction
      intro z
      refine q ?_
      rw [Int32.lt_iff_toInt_lt, show (5 : Int32) = nI 5 from rfl, pk_sub_toInt (by omega) (by omega), nI_toInt (by omega)]
      omega
    have i0 : vp_in (nI l) L := vp_in_nI (by omega) (by omega)
    have i1 : vp_in (nI l + 1) L := by rw [nI_1]; exact vp_in_nI (by omega) (by omega)
    have i2 : vp_in (nI l + 2) L := by rw [show nI l + 2 = nI (l + 2) from nI_add l 2]; exact vp_in_nI (by omega) (by omega)
    have i3 : vp_in (nI l + 3) L := by rw [show nI l + 3 = nI (l + 3) from nI_add l 3]; exact vp_in_nI (by omega) (by omega)
    have i4 : vp_in (nI l + 4) L := by rw [show nI l + 4 = nI (l + 4) from nI_add l 4]; exact vp_in_nI (by omega) (by omega)
    have nx : ∀ u, yL u → zf_LAW_1061 L xs (zf_LAW_23 L xs n) (nI l) u := by
      intro u hu
      show zf_LAW_23 L xs n (nI l + 5) u
      rw [show nI l + 5 = nI (l + 5) from nI_add l 5]
      exact ih (l + 5) u hu h5 (by omega)
    generalize xs (nI l).toNatClampNeg &&& 31 = v
    refine ⟨i0, br_c (fun _ => ?_) (fun _ => br_c (fun _ => ?_) (fun _ => br_c (fun _ => ?_) (fun _ => br_c (fun _ => ?_) (fun _ => br_c (fun _ => ?_) (fun _ => br_c (fun _ => ?_) (fun _ => br_c (fun _ => ?_) (fun _ => br_c (fun _ => ?_) (fun _ => br_c (fun _ => ?_) (fun _ => br_c (fun _ => ?_) (fun _ => br_c (fun _ => ?_) (fun _ => br_c (fun _ => ?_) (fun _ => br_c (fun _ => ?_) (fun _ => br_c (fun _ => ?_) (fun _ => br_c (fun _ => ?_) (fun _ => br_c (fun _ => ?_) (fun _ => br_c (fun _ => ?_) (fun _ => nx st ⟨G, h⟩)))))))))))))))))⟩
    · exact ⟨i1, i2, i3, i4, yq_add h (fun c u hc => ⟨i1, i2, i3, i4, hc _ (fun v u' y1 y2 y3 => yL_fin (B := fun u => zf_LAW_209 L xs (zf_LAW_23 L xs n) (nI l) u) y2 y3 (nx u' y1))⟩)⟩
    · exact yq_clear h nx
    · exact yq_thrift h (fun c u hc => hc _ (fun v u' y1 y2 y3 => yL_fin (B := fun u => zf_LAW_266 L xs (zf_LAW_23 L xs n) (nI l) u) y2 y3 (nx u' y1)))
    · exact yq_size h nx
    · refine ⟨i1, i2, i3, br_c (fun z => ?_) (fun z => ?_)⟩
      · exact yq_instr h (fun c u hc => ⟨i1, i2, i3, fun _ => hc _ (fun v u' y1 y2 y3 => yL_fin (B := fun u => zf_LAW_375 L xs (zf_LAW_23 L xs n) (nI l) u) y2 y3 (nx u' y1)), fun z2 => absurd z z2⟩)
      · exact yq_instr h (fun c u hc => ⟨i1, i2, i3, fun z2 => absurd z2 z, fun _ => hc _ (fun v u' y1 y2 y3 => yL_fin (B := fun u => zf_LAW_375 L xs (zf_LAW_23 L xs n) (nI l) u) y2 y3 (nx u' y1))⟩)
    · exact ⟨i1, yq_fate h (fun c u hc => ⟨i1, hc _ (fun v u' y1 y2 y3 => yL_fin (B := fun u => zf_LAW_431 L xs (zf_LAW_23 L xs n) (nI l) u) y2 y3 (nx u' y1))⟩)⟩
    · exact yq_rounds h (fun c u hc => hc _ (fun v u' y1 y2 y3 => yL_fin (B := fun u => zf_LAW_475 L xs (zf_LAW_23 L xs n) (nI l) u) y2 y3 (nx u' y1)))
    · exact ⟨i1, i2, yq_may h (fun c u hc => ⟨i1, i2, hc _ (fun v u' y1 y2 y3 => yL_finb (B := fun s0 s1 u => zf_LAW_544 L xs (zf_LAW_23 L xs n) (nI l) s0 s1 u) (B' := fun u => zf_LAW_550 L xs (zf_LAW_23 L xs n) (nI l) u) y2 y3 (fun s0 s1 e => ⟨fun _ => nx u' y1, fun z => absurd ((lg_cmp_eq s1 s0).mpr e.symm) z⟩) (nx u' y1))⟩)⟩
    · exact ⟨i1, i2, yq_inside h (fun c u hc => ⟨i1, i2, hc _ (fun v u' y1 y2 y3 => yL_finb (B := fun s0 s1 u => zf_LAW_619 L xs (zf_LAW_23 L xs n) (nI l) s0 s1 u) (B' := fun u => zf_LAW_625 L xs (zf_LAW_23 L xs n) (nI l) u) y2 y3 (fun s0 s1 e => ⟨fun _ => nx u' y1, fun z => absurd ((lg_cmp_eq s1 s0).mpr e.symm) z⟩) (nx u' y1))⟩)⟩
    · exact ⟨i1, i2, i3, i4, yq_fact h (fun c u hc => ⟨i1, i2, i3, i4, hc _ (fun v u' y1 y2 y3 => yL_finb (B := fun s0 s1 u => zf_LAW_718 L xs (zf_LAW_23 L xs n) (nI l) s0 s1 u) (B' := fun u => zf_LAW_724 L xs (zf_LAW_23 L xs n) (nI l) u) y2 y3 (fun s0 s1 e => ⟨fun _ => nx u' y1, fun z => absurd ((lg_cmp_eq s1 s0).mpr e.symm) z⟩) (nx u' y1))⟩)⟩
    · exact ⟨i1, i2, yq_free h (fun c u hc => ⟨i1, i2, hc _ (fun v u' y1 y2 y3 => yL_finb (B := fun s0 s1 u => zf_LAW_793 L xs (zf_LAW_23 L xs n) (nI l) s0 s1 u) (B' := fun u => zf_LAW_799 L xs (zf_LAW_23 L xs n) (nI l) u) y2 y3 (fun s0 s1 e => ⟨fun _ => nx u' y1, fun z => absurd ((lg_cmp_eq s1 s0).mpr e.symm) z⟩) (nx u' y1))⟩)⟩
    · refine ⟨i1, br_c (fun z => ?_) (fun z => ?_)⟩
      · exact ⟨i2, yq_run h (fun c u hc => ⟨i1, fun _ => ⟨i2, hc _ (fun v u' y1 y2 y3 => yL_fin (B := fun u => zf_LAW_883 L xs (zf_LAW_23 L xs n) (nI l) u) y2 y3 (nx u' y1))⟩, fun z2 => absurd z z2⟩)⟩
      · exact ⟨i2, yq_run h (fun c u hc => ⟨i1, fun z2 => absurd z2 z, fun _ => ⟨i2, hc _ (fun v u' y1 y2 y3 => yL_fin (B := fun u => zf_LAW_883 L xs (zf_LAW_23 L xs n) (nI l) u) y2 y3 (nx u' y1))⟩⟩)⟩
    · exact yq_steps h nx
    · exact yq_printed h nx
    · exact ⟨i1, yq_print h (fun c u hc => ⟨i1, hc _ (fun v u' y1 y2 y3 => yL_fin (B := fun u => zf_LAW_965 L xs (zf_LAW_23 L xs n) (nI l) u) y2 y3 (nx u' y1))⟩)⟩
    · exact yq_kept h nx
    · exact ⟨i1, i2, i3, yq_cell h (fun c u hc => ⟨i1, i2, i3, hc _ (fun v u' y1 y2 y3 => yL_fin (B := fun u => zf_LAW_1058 L xs (zf_LAW_23 L xs n) (nI l) u) y2 y3 (nx u' y1))⟩)⟩
