/-! what the methods need and do, as pure predicates: by program (wip/whole/gen) -/
def zf_MO_thrown  (st : zs_T) (K : Int32 → zs_T → Prop) : Prop :=
  K (st.1 635 0) st
def zf_MO_register (l0 : Int32) (st : zs_T) (K : Int32 → zs_T → Prop) : Prop :=
  ((l0 < 0 → K 0 st) ∧ (¬ l0 < 0 → ((16 ≤ l0 → K 0 st) ∧ (¬ 16 ≤ l0 → K 1 st))))
def zf_MO_good_144 (K : Int32 → zs_T → Prop) (l2 : Int32) (l3 : Int32) (st : zs_T) : Prop :=
  zf_MO_register l2 st (fun r402 u401 => ((r402 = 0 → K 0 u401) ∧ (¬ r402 = 0 → ((¬ l3 = 0 → K 0 u401) ∧ (l3 = 0 → K 1 u401)))))
def zf_MO_good_53 (K : Int32 → zs_T → Prop) (l0 : Int32) (l1 : Int32) (l2 : Int32) (l3 : Int32) (s0 : Int32) (st : zs_T) : Prop :=
  ((¬ l0 = 12 → ((l0 ≤ 13 → zf_MO_register l1 st (fun r202 u201 => ((¬ r202 = 0 → ((¬ l0 = 0 → ((l0 = 1 → zf_MO_good_144 K l2 l3 u201) ∧ (¬ l0 = 1 → ((l0 = 9 → zf_MO_good_144 K l2 l3 u201) ∧ (¬ l0 = 9 → ((¬ l0 = 10 → ((8 ≤ l0 → ((¬ l0 = 8 → ((¬ l0 = 11 → ((s0 = 0 → K 0 u201) ∧ (¬ s0 = 0 → ((¬ l3 = 0 → K 0 u201) ∧ (l3 = 0 → K 1 u201))))) ∧ (l0 = 11 → ((¬ l2 = 0 → K 0 u201) ∧ (l2 = 0 → ((¬ l3 = 0 → K 0 u201) ∧ (l3 = 0 → K 1 u201))))))) ∧ (l0 = 8 → ((l2 < 1 → K 0 u201) ∧ (¬ l2 < 1 → ((16 < l2 → K 0 u201) ∧ (¬ 16 < l2 → ((l3 = 0 → K 1 u201) ∧ (¬ l3 = 0 → ((¬ l3 = 1 → K 0 u201) ∧ (l3 = 1 → K 1 u201))))))))))) ∧ (¬ 8 ≤ l0 → zf_MO_register l2 u201 (fun r204 u203 => ((r204 = 0 → K 0 u203) ∧ (¬ r204 = 0 → zf_MO_register l3 u203 (fun r206 u205 => ((r206 = 0 → K 0 u205) ∧ (¬ r206 = 0 → K 1 u205))))))))) ∧ (l0 = 10 → zf_MO_good_144 K l2 l3 u201))))))) ∧ (l0 = 0 → ((¬ l3 = 0 → K 0 u201) ∧ (l3 = 0 → K 1 u201))))) ∧ (r202 = 0 → K 0 u201)))) ∧ (¬ l0 ≤ 13 → ((¬ l1 = 0 → K 0 st) ∧ (l1 = 0 → ((¬ l2 = 0 → K 0 st) ∧ (l2 = 0 → ((¬ l3 = 0 → K 0 st) ∧ (l3 = 0 → K 1 st))))))))) ∧ (l0 = 12 → ((s0 = 0 → K 0 st) ∧ (¬ s0 = 0 → ((¬ l2 = 0 → K 0 st) ∧ (l2 = 0 → ((¬ l3 = 0 → K 0 st) ∧ (l3 = 0 → K 1 st))))))))
def zf_MO_good_33 (K : Int32 → zs_T → Prop) (l0 : Int32) (l1 : Int32) (l2 : Int32) (l3 : Int32) (st : zs_T) : Prop :=
  zf_MO_good_53 K l0 l1 l2 l3 0 st
def zf_MO_good_52 (K : Int32 → zs_T → Prop) (l0 : Int32) (l1 : Int32) (l2 : Int32) (l3 : Int32) (st : zs_T) : Prop :=
  zf_MO_good_53 K l0 l1 l2 l3 0 st
def zf_MO_good (l0 : Int32) (l1 : Int32) (l2 : Int32) (l3 : Int32) (st : zs_T) (K : Int32 → zs_T → Prop) : Prop :=
  ((l0 < 0 → K 0 st) ∧ (¬ l0 < 0 → ((l0 ≤ 15 → ((¬ l0 = 12 → ((l2 < 0 → zf_MO_good_52 K l0 l1 l2 l3 st) ∧ (¬ l2 < 0 → ((200 < l2 → zf_MO_good_52 K l0 l1 l2 l3 st) ∧ (¬ 200 < l2 → zf_MO_good_53 K l0 l1 l2 l3 1 st))))) ∧ (l0 = 12 → ((l1 < 0 → zf_MO_good_33 K l0 l1 l2 l3 st) ∧ (¬ l1 < 0 → ((200 < l1 → zf_MO_good_33 K l0 l1 l2 l3 st) ∧ (¬ 200 < l1 → zf_MO_good_53 K l0 l1 l2 l3 1 st))))))) ∧ (¬ l0 ≤ 15 → K 0 st))))
def zf_MO_add_38 (K : Int32 → zs_T → Prop) (l1 : Int32) (l2 : Int32) (l3 : Int32) (l4 : Int32) (s0 : Int32) (st : zs_T) : Prop :=
  (∀ t201 : zs_T, t201 = zs_i st 635 0 s0 → (((t201.1 635 0) ≤ 0 → (vp_in (t201.1 635 5) 400 ∧ (∀ t203 : zs_T, t203 = zs_i t201 636 (t201.1 635 5).toNatClampNeg l1 → (vp_in (t203.1 635 5) 400 ∧ (∀ t205 : zs_T, t205 = zs_i t203 637 (t203.1 635 5).toNatClampNeg l2 → (vp_in (t205.1 635 5) 400 ∧ (∀ t207 : zs_T, t207 = zs_i t205 638 (t205.1 635 5).toNatClampNeg l3 → (vp_in (t207.1 635 5) 400 ∧ (∀ t209 : zs_T, t209 = zs_i t207 639 (t207.1 635 5).toNatClampNeg l4 → (∀ t210 : zs_T, t210 = zs_i t209 635 5 ((t209.1 635 5) + 1) → K ((t210.1 635 5) - 1) t210)))))))))) ∧ (¬ (t201.1 635 0) ≤ 0 → K 0 t201)))
def zf_MO_add_33 (K : Int32 → zs_T → Prop) (l1 : Int32) (l2 : Int32) (l3 : Int32) (l4 : Int32) (st : zs_T) : Prop :=
  zf_MO_add_38 K l1 l2 l3 l4 2 st
def zf_MO_add (l1 : Int32) (l2 : Int32) (l3 : Int32) (l4 : Int32) (st : zs_T) (K : Int32 → zs_T → Prop) : Prop :=
  zf_MO_good l1 l2 l3 l4 st (fun r2 u1 => ((¬ r2 = 0 → (((u1.1 635 5) = 200 → zf_MO_add_33 K l1 l2 l3 l4 u1) ∧ (¬ (u1.1 635 5) = 200 → (((u1.1 635 6) = 0 → zf_MO_add_38 K l1 l2 l3 l4 0 u1) ∧ (¬ (u1.1 635 6) = 0 → zf_MO_add_33 K l1 l2 l3 l4 u1))))) ∧ (r2 = 0 → zf_MO_add_38 K l1 l2 l3 l4 1 u1)))
def zf_MO_clear  (st : zs_T) (K : Int32 → zs_T → Prop) : Prop :=
  (∀ t1 : zs_T, t1 = zs_i st 635 0 0 → (∀ t2 : zs_T, t2 = zs_i t1 635 5 0 → (∀ t3 : zs_T, t3 = zs_i t2 635 6 0 → K (t1.1 635 5) t3)))
def zf_MO_sets (l1 : Int32) (st : zs_T) (K : Int32 → zs_T → Prop) : Prop :=
  (vp_in ((st.1 635 9) + l1) 400 ∧ ((10 ≤ (st.1 636 ((st.1 635 9) + l1).toNatClampNeg) → K 0 st) ∧ (¬ 10 ≤ (st.1 636 ((st.1 635 9) + l1).toNatClampNeg) → K 1 st)))
def zf_MO_next_84 (K : Int32 → zs_T → Prop) (l1 : Int32) (l2 : Int32) (s0 : Int32) (st : zs_T) : Prop :=
  ((¬ l2 = 0 → (vp_in ((st.1 635 9) + l1) 400 ∧ ((¬ (st.1 636 ((st.1 635 9) + l1).toNatClampNeg) = 13 → K (-1) st) ∧ ((st.1 636 ((st.1 635 9) + l1).toNatClampNeg) = 13 → K s0 st)))) ∧ (l2 = 0 → (vp_in ((st.1 635 9) + l1) 400 ∧ ((¬ (st.1 636 ((st.1 635 9) + l1).toNatClampNeg) = 12 → K (l1 + 1) st) ∧ ((st.1 636 ((st.1 635 9) + l1).toNatClampNeg) = 12 → K s0 st)))))
def zf_MO_next_67 (K : Int32 → zs_T → Prop) (l1 : Int32) (l2 : Int32) (s0 : Int32) (st : zs_T) : Prop :=
  ((s0 ≤ (st.1 635 5) → zf_MO_next_84 K l1 l2 s0 st) ∧ (¬ s0 ≤ (st.1 635 5) → zf_MO_next_84 K l1 l2 (st.1 635 5) st))
def zf_MO_next (l1 : Int32) (l2 : Int32) (st : zs_T) (K : Int32 → zs_T → Prop) : Prop :=
  ((l1 = (st.1 635 5) → K (-1) st) ∧ (¬ l1 = (st.1 635 5) → (vp_in ((st.1 635 9) + l1) 400 ∧ ((¬ (st.1 636 ((st.1 635 9) + l1).toNatClampNeg) = 14 → (vp_in ((st.1 635 9) + l1) 400 ∧ ((¬ (st.1 636 ((st.1 635 9) + l1).toNatClampNeg) = 12 → (vp_in ((st.1 635 9) + l1) 400 ∧ zf_MO_next_67 K l1 l2 (st.1 638 ((st.1 635 9) + l1).toNatClampNeg) st)) ∧ ((st.1 636 ((st.1 635 9) + l1).toNatClampNeg) = 12 → (vp_in ((st.1 635 9) + l1) 400 ∧ zf_MO_next_67 K l1 l2 (st.1 637 ((st.1 635 9) + l1).toNatClampNeg) st))))) ∧ ((st.1 636 ((st.1 635 9) + l1).toNatClampNeg) = 14 → K (-1) st)))))
def zf_MO_size  (st : zs_T) (K : Int32 → zs_T → Prop) : Prop :=
  (∀ t1 : zs_T, t1 = zs_i st 635 0 0 → K (t1.1 635 5) t1)
def zf_MO_no (l1 : Int32) (st : zs_T) (K : Int32 → zs_T → Prop) : Prop :=
  ((l1 < 0 → K 1 st) ∧ (¬ l1 < 0 → ((l1 < (st.1 635 5) → K 0 st) ∧ (¬ l1 < (st.1 635 5) → K 1 st))))
def zf_MO_instruction_67 (K : Int32 → zs_T → Prop) (l2 : Int32) (s0 : Int32) (st : zs_T) : Prop :=
  ((¬ l2 = 0 → ((¬ l2 = 1 → ((¬ l2 = 2 → (vp_in s0 400 ∧ K (st.1 639 s0.toNatClampNeg) st)) ∧ (l2 = 2 → (vp_in s0 400 ∧ K (st.1 638 s0.toNatClampNeg) st)))) ∧ (l2 = 1 → (vp_in s0 400 ∧ K (st.1 637 s0.toNatClampNeg) st)))) ∧ (l2 = 0 → (vp_in s0 400 ∧ K (st.1 636 s0.toNatClampNeg) st)))
def zf_MO_instruction_42 (K : Int32 → zs_T → Prop) (l1 : Int32) (l2 : Int32) (l3 : Int32) (s0 : Int32) (st : zs_T) : Prop :=
  (∀ t301 : zs_T, t301 = zs_i st 635 0 s0 → (((t301.1 635 0) ≤ 0 → ((l3 = 0 → zf_MO_instruction_67 K l2 (200 + l1) t301) ∧ (¬ l3 = 0 → zf_MO_instruction_67 K l2 l1 t301))) ∧ (¬ (t301.1 635 0) ≤ 0 → K 0 t301)))
def zf_MO_instruction_22 (K : Int32 → zs_T → Prop) (l1 : Int32) (l2 : Int32) (l3 : Int32) (st : zs_T) : Prop :=
  zf_MO_instruction_42 K l1 l2 l3 2 st
def zf_MO_instruction_41 (K : Int32 → zs_T → Prop) (l1 : Int32) (l2 : Int32) (l3 : Int32) (st : zs_T) : Prop :=
  zf_MO_instruction_42 K l1 l2 l3 0 st
def zf_MO_instruction (l1 : Int32) (l2 : Int32) (l3 : Int32) (st : zs_T) (K : Int32 → zs_T → Prop) : Prop :=
  zf_MO_no l1 st (fun r2 u1 => ((r2 = 0 → ((l2 < 0 → zf_MO_instruction_22 K l1 l2 l3 u1) ∧ (¬ l2 < 0 → ((l2 ≤ 3 → ((¬ l3 = 0 → zf_MO_instruction_41 K l1 l2 l3 u1) ∧ (l3 = 0 → ((¬ (u1.1 635 6) = 0 → zf_MO_instruction_41 K l1 l2 l3 u1) ∧ ((u1.1 635 6) = 0 → zf_MO_instruction_42 K l1 l2 l3 3 u1))))) ∧ (¬ l2 ≤ 3 → zf_MO_instruction_22 K l1 l2 l3 u1))))) ∧ (¬ r2 = 0 → zf_MO_instruction_42 K l1 l2 l3 1 u1)))
def zf_MO_fate_25 (K : Int32 → zs_T → Prop) (l1 : Int32) (s0 : Int32) (st : zs_T) : Prop :=
  (∀ t101 : zs_T, t101 = zs_i st 635 0 s0 → (((t101.1 635 0) ≤ 0 → (vp_in l1 200 ∧ K (t101.1 640 l1.toNatClampNeg) t101)) ∧ (¬ (t101.1 635 0) ≤ 0 → K 0 t101)))
def zf_MO_fate (l1 : Int32) (st : zs_T) (K : Int32 → zs_T → Prop) : Prop :=
  zf_MO_no l1 st (fun r2 u1 => ((r2 = 0 → ((¬ (u1.1 635 6) = 0 → zf_MO_fate_25 K l1 0 u1) ∧ ((u1.1 635 6) = 0 → zf_MO_fate_25 K l1 2 u1))) ∧ (¬ r2 = 0 → zf_MO_fate_25 K l1 1 u1)))
def zf_MO_rounds_13 (K : Int32 → zs_T → Prop) (s0 : Int32) (st : zs_T) : Prop :=
  (∀ t101 : zs_T, t101 = zs_i st 635 0 s0 → (((t101.1 635 0) ≤ 0 → K (t101.1 635 7) t101) ∧ (¬ (t101.1 635 0) ≤ 0 → K 0 t101)))
def zf_MO_rounds  (st : zs_T) (K : Int32 → zs_T → Prop) : Prop :=
  (((st.1 635 6) = 0 → zf_MO_rounds_13 K 1 st) ∧ (¬ (st.1 635 6) = 0 → zf_MO_rounds_13 K 0 st))
def zf_MO_may_32 (K : Int32 → zs_T → Prop) (l1 : Int32) (l2 : Int32) (s0 : Int32) (st : zs_T) : Prop :=
  (∀ t201 : zs_T, t201 = zs_i st 635 0 s0 → ((¬ (t201.1 635 0) = 0 → K 0 t201) ∧ ((t201.1 635 0) = 0 → (vp_in ((200 * l1) + l2) 3200 ∧ (((t201.1 641 ((200 * l1) + l2).toNatClampNeg) = 0 → K 0 t201) ∧ (¬ (t201.1 641 ((200 * l1) + l2).toNatClampNeg) = 0 → K 1 t201))))))
def zf_MO_may_16 (K : Int32 → zs_T → Prop) (l1 : Int32) (l2 : Int32) (st : zs_T) : Prop :=
  zf_MO_may_32 K l1 l2 1 st
def zf_MO_may (l1 : Int32) (l2 : Int32) (st : zs_T) (K : Int32 → zs_T → Prop) : Prop :=
  zf_MO_register l1 st (fun r2 u1 => ((r2 = 0 → zf_MO_may_16 K l1 l2 u1) ∧ (¬ r2 = 0 → zf_MO_no l2 u1 (fun r4 u3 => ((r4 = 0 → ((¬ (u3.1 635 6) = 0 → zf_MO_may_32 K l1 l2 0 u3) ∧ ((u3.1 635 6) = 0 → zf_MO_may_32 K l1 l2 2 u3))) ∧ (¬ r4 = 0 → zf_MO_may_16 K l1 l2 u3))))))
def zf_MO_inside_33 (K : Int32 → zs_T → Prop) (l1 : Int32) (l2 : Int32) (s0 : Int32) (st : zs_T) : Prop :=
  (∀ t201 : zs_T, t201 = zs_i st 635 0 s0 → ((¬ (t201.1 635 0) = 0 → K 0 t201) ∧ ((t201.1 635 0) = 0 → (vp_in ((200 * l1) + l2) 40000 ∧ (((t201.1 642 ((200 * l1) + l2).toNatClampNeg) = 0 → K 0 t201) ∧ (¬ (t201.1 642 ((200 * l1) + l2).toNatClampNeg) = 0 → K 1 t201))))))
def zf_MO_inside_17 (K : Int32 → zs_T → Prop) (l1 : Int32) (l2 : Int32) (st : zs_T) : Prop :=
  zf_MO_inside_33 K l1 l2 1 st
def zf_MO_inside (l1 : Int32) (l2 : Int32) (st : zs_T) (K : Int32 → zs_T → Prop) : Prop :=
  zf_MO_no l1 st (fun r2 u1 => ((¬ r2 = 0 → zf_MO_inside_17 K l1 l2 u1) ∧ (r2 = 0 → zf_MO_no l2 u1 (fun r4 u3 => ((r4 = 0 → ((¬ (u3.1 635 6) = 0 → zf_MO_inside_33 K l1 l2 0 u3) ∧ ((u3.1 635 6) = 0 → zf_MO_inside_33 K l1 l2 2 u3))) ∧ (¬ r4 = 0 → zf_MO_inside_17 K l1 l2 u3))))))
def zf_MO_held (l1 : Int32) (l2 : Int32) (l3 : Int32) (st : zs_T) (K : Int32 → zs_T → Prop) : Prop :=
  (vp_in (((256 * l1) + (16 * l2)) + l3) 51456 ∧ (zs_bz (st.1 645 (((256 * l1) + (16 * l2)) + l3).toNatClampNeg) ∧ K (st.1 645 (((256 * l1) + (16 * l2)) + l3).toNatClampNeg) st))
def zf_MO_one (l1 : Int32) (l2 : Int32) (l3 : Int32) (st : zs_T) (K : Int32 → zs_T → Prop) : Prop :=
  ((l2 = l3 → K 1 st) ∧ (¬ l2 = l3 → (vp_in (((256 * l1) + (16 * l2)) + l3) 51456 ∧ (((st.1 644 (((256 * l1) + (16 * l2)) + l3).toNatClampNeg) = 0 → K 0 st) ∧ (¬ (st.1 644 (((256 * l1) + (16 * l2)) + l3).toNatClampNeg) = 0 → K 1 st)))))
def zf_MO_fact_88 (K : Int32 → zs_T → Prop) (l1 : Int32) (l2 : Int32) (l3 : Int32) (l4 : Int32) (s0 : Int32) (st : zs_T) : Prop :=
  (∀ t601 : zs_T, t601 = zs_i st 635 0 s0 → ((0 < (t601.1 635 0) → K 0 t601) ∧ (¬ 0 < (t601.1 635 0) → (vp_in l1 201 ∧ ((¬ (t601.1 643 l1.toNatClampNeg) = 0 → ((¬ l2 = 0 → ((¬ l2 = 1 → ((l2 = 3 → K 1 t601) ∧ (¬ l2 = 3 → (vp_in ((16 * l1) + l3) 3216 ∧ (((t601.1 646 ((16 * l1) + l3).toNatClampNeg) = 0 → K 0 t601) ∧ (¬ (t601.1 646 ((16 * l1) + l3).toNatClampNeg) = 0 → K 1 t601)))))) ∧ (l2 = 1 → zf_MO_held l1 l3 l4 t601 (fun r605 u604 => (zs_bz r605 ∧ K r605 u604))))) ∧ (l2 = 0 → (vp_in (((256 * l1) + (16 * l3)) + l4) 51456 ∧ (zs_bz (t601.1 644 (((256 * l1) + (16 * l3)) + l4).toNatClampNeg) ∧ K (t601.1 644 (((256 * l1) + (16 * l3)) + l4).toNatClampNeg) t601))))) ∧ ((t601.1 643 l1.toNatClampNeg) = 0 → K 0 t601))))))
def zf_MO_fact_63 (K : Int32 → zs_T → Prop) (l1 : Int32) (l2 : Int32) (l3 : Int32) (l4 : Int32) (st : zs_T) : Prop :=
  zf_MO_fact_88 K l1 l2 l3 l4 1 st
def zf_MO_fact_33 (K : Int32 → zs_T → Prop) (l1 : Int32) (l2 : Int32) (l3 : Int32) (l4 : Int32) (s0 : Int32) (st : zs_T) : Prop :=
  ((l1 < 0 → zf_MO_fact_63 K l1 l2 l3 l4 st) ∧ (¬ l1 < 0 → (((st.1 635 5) < l1 → zf_MO_fact_63 K l1 l2 l3 l4 st) ∧ (¬ (st.1 635 5) < l1 → zf_MO_register l3 st (fun r302 u301 => ((r302 = 0 → zf_MO_fact_63 K l1 l2 l3 l4 u301) ∧ (¬ r302 = 0 → zf_MO_register l4 u301 (fun r304 u303 => ((¬ r304 = 0 → ((s0 = 0 → ((¬ (u303.1 635 6) = 0 → zf_MO_fact_88 K l1 l2 l3 l4 0 u303) ∧ ((u303.1 635 6) = 0 → zf_MO_fact_88 K l1 l2 l3 l4 3 u303))) ∧ (¬ s0 = 0 → zf_MO_fact_88 K l1 l2 l3 l4 2 u303))) ∧ (r304 = 0 → zf_MO_fact_63 K l1 l2 l3 l4 u303))))))))))
def zf_MO_fact_28 (K : Int32 → zs_T → Prop) (l1 : Int32) (l2 : Int32) (l3 : Int32) (l4 : Int32) (st : zs_T) : Prop :=
  zf_MO_fact_33 K l1 l2 l3 l4 1 st
def zf_MO_fact_32 (K : Int32 → zs_T → Prop) (l1 : Int32) (l2 : Int32) (l3 : Int32) (l4 : Int32) (st : zs_T) : Prop :=
  zf_MO_fact_33 K l1 l2 l3 l4 0 st
def zf_MO_fact_19 (K : Int32 → zs_T → Prop) (l1 : Int32) (l2 : Int32) (l3 : Int32) (l4 : Int32) (st : zs_T) : Prop :=
  ((l2 ≤ 2 → zf_MO_fact_32 K l1 l2 l3 l4 st) ∧ (¬ l2 ≤ 2 → ((l3 = 0 → zf_MO_fact_32 K l1 l2 l3 l4 st) ∧ (¬ l3 = 0 → zf_MO_fact_28 K l1 l2 l3 l4 st))))
def zf_MO_fact (l1 : Int32) (l2 : Int32) (l3 : Int32) (l4 : Int32) (st : zs_T) (K : Int32 → zs_T → Prop) : Prop :=
  ((l2 < 0 → zf_MO_fact_28 K l1 l2 l3 l4 st) ∧ (¬ l2 < 0 → ((3 < l2 → zf_MO_fact_28 K l1 l2 l3 l4 st) ∧ (¬ 3 < l2 → ((l2 ≤ 1 → zf_MO_fact_19 K l1 l2 l3 l4 st) ∧ (¬ l2 ≤ 1 → ((¬ l4 = 0 → zf_MO_fact_28 K l1 l2 l3 l4 st) ∧ (l4 = 0 → zf_MO_fact_19 K l1 l2 l3 l4 st))))))))
def zf_MO_free_36 (K : Int32 → zs_T → Prop) (l1 : Int32) (l2 : Int32) (s0 : Int32) (st : zs_T) : Prop :=
  (∀ t201 : zs_T, t201 = zs_i st 635 0 s0 → ((¬ (t201.1 635 0) = 0 → K 0 t201) ∧ ((t201.1 635 0) = 0 → (vp_in l1 201 ∧ (((t201.1 643 l1.toNatClampNeg) = 0 → K 0 t201) ∧ (¬ (t201.1 643 l1.toNatClampNeg) = 0 → (vp_in ((16 * l1) + l2) 3216 ∧ (((t201.1 647 ((16 * l1) + l2).toNatClampNeg) = 0 → K 0 t201) ∧ (¬ (t201.1 647 ((16 * l1) + l2).toNatClampNeg) = 0 → K 1 t201)))))))))
def zf_MO_free_20 (K : Int32 → zs_T → Prop) (l1 : Int32) (l2 : Int32) (st : zs_T) : Prop :=
  zf_MO_free_36 K l1 l2 1 st
def zf_MO_free (l1 : Int32) (l2 : Int32) (st : zs_T) (K : Int32 → zs_T → Prop) : Prop :=
  ((l1 < 0 → zf_MO_free_20 K l1 l2 st) ∧ (¬ l1 < 0 → (((st.1 635 5) < l1 → zf_MO_free_20 K l1 l2 st) ∧ (¬ (st.1 635 5) < l1 → zf_MO_register l2 st (fun r2 u1 => ((¬ r2 = 0 → ((¬ (u1.1 635 6) = 0 → zf_MO_free_36 K l1 l2 0 u1) ∧ ((u1.1 635 6) = 0 → zf_MO_free_36 K l1 l2 2 u1))) ∧ (r2 = 0 → zf_MO_free_20 K l1 l2 u1)))))))
def zf_MO_steps  (st : zs_T) (K : Int32 → zs_T → Prop) : Prop :=
  (∀ t1 : zs_T, t1 = zs_i st 635 0 0 → K (t1.1 635 29) t1)
def zf_MO_printed  (st : zs_T) (K : Int32 → zs_T → Prop) : Prop :=
  (∀ t1 : zs_T, t1 = zs_i st 635 0 0 → K (t1.1 635 28) t1)
def zf_MO_print_18 (K : Int32 → zs_T → Prop) (l1 : Int32) (s0 : Int32) (st : zs_T) : Prop :=
  (∀ t201 : zs_T, t201 = zs_i st 635 0 s0 → (((t201.1 635 0) ≤ 0 → (vp_in l1 200 ∧ K (t201.1 657 l1.toNatClampNeg) t201)) ∧ (¬ (t201.1 635 0) ≤ 0 → K 0 t201)))
def zf_MO_print_13 (K : Int32 → zs_T → Prop) (l1 : Int32) (st : zs_T) : Prop :=
  zf_MO_print_18 K l1 1 st
def zf_MO_print (l1 : Int32) (st : zs_T) (K : Int32 → zs_T → Prop) : Prop :=
  ((l1 < 0 → zf_MO_print_13 K l1 st) ∧ (¬ l1 < 0 → ((l1 < (st.1 635 28) → zf_MO_print_18 K l1 0 st) ∧ (¬ l1 < (st.1 635 28) → zf_MO_print_13 K l1 st))))
def zf_MO_kept_40 (K : Int32 → zs_T → Prop) (B9 : Int32 → Int32 → zs_T → Prop) (l2 : Int32) (s0 : Int32) (st : zs_T) : Prop :=
  B9 s0 (l2 + 1) st
def zf_MO_kept_9_s (K : Int32 → zs_T → Prop) (B9 : Int32 → Int32 → zs_T → Prop) (l1 : Int32) (l2 : Int32) (st : zs_T) : Prop :=
  (((st.1 635 26) ≤ l2 → K l1 st) ∧ (¬ (st.1 635 26) ≤ l2 → ((¬ (st.1 635 30) = 0 → K l1 st) ∧ ((st.1 635 30) = 0 → (vp_in l2 300 ∧ (((st.1 656 l2.toNatClampNeg) = 0 → zf_MO_kept_40 K B9 l2 l1 st) ∧ (¬ (st.1 656 l2.toNatClampNeg) = 0 → zf_MO_kept_40 K B9 l2 (l1 + 1) st)))))))
def zf_MO_kept_9 (K : Int32 → zs_T → Prop) : Nat → Int32 → Int32 → zs_T → Prop
  | 0 => fun _ _ _ => False
  | n + 1 => zf_MO_kept_9_s K (zf_MO_kept_9 K n)
def zf_MO_kept  (st : zs_T) (K : Int32 → zs_T → Prop) : Prop :=
  (∀ t1 : zs_T, t1 = zs_i st 635 0 0 → ∃ n, zf_MO_kept_9 K n 0 0 t1)
def zf_MO_cell_48 (K : Int32 → zs_T → Prop) (B9 : Int32 → Int32 → Int32 → Int32 → Int32 → Int32 → zs_T → Prop) (l1 : Int32) (l2 : Int32) (l3 : Int32) (l4 : Int32) (l5 : Int32) (l6 : Int32) (st : zs_T) : Prop :=
  B9 l1 l2 l3 l4 l5 (l6 + 1) st
def zf_MO_cell_135 (K : Int32 → zs_T → Prop) (l3 : Int32) (l6 : Int32) (s0 : Int32) (st : zs_T) : Prop :=
  ((¬ l3 = 0 → ((¬ l3 = 1 → ((s0 = 0 → K 0 st) ∧ (¬ s0 = 0 → (vp_in l6 4800 ∧ K (st.1 654 l6.toNatClampNeg) st)))) ∧ (l3 = 1 → ((s0 = 0 → (vp_in l6 4800 ∧ K (st.1 654 l6.toNatClampNeg) st)) ∧ (¬ s0 = 0 → (vp_in l6 4800 ∧ K (st.1 653 l6.toNatClampNeg) st)))))) ∧ (l3 = 0 → ((s0 = 0 → K 0 st) ∧ (¬ s0 = 0 → K 1 st))))
def zf_MO_cell_98 (K : Int32 → zs_T → Prop) (l2 : Int32) (l3 : Int32) (l4 : Int32) (s0 : Int32) (st : zs_T) : Prop :=
  (∀ t601 : zs_T, t601 = zs_i st 635 0 s0 → (((t601.1 635 0) ≤ 0 → (vp_in ((16 * l4) + l2) 4800 ∧ (((t601.1 653 ((16 * l4) + l2).toNatClampNeg) = (-1) → zf_MO_cell_135 K l3 ((16 * l4) + l2) 0 t601) ∧ (¬ (t601.1 653 ((16 * l4) + l2).toNatClampNeg) = (-1) → zf_MO_cell_135 K l3 ((16 * l4) + l2) 1 t601)))) ∧ (¬ (t601.1 635 0) ≤ 0 → K 0 t601)))
def zf_MO_cell_80 (K : Int32 → zs_T → Prop) (l2 : Int32) (l3 : Int32) (l4 : Int32) (st : zs_T) : Prop :=
  zf_MO_cell_98 K l2 l3 l4 1 st
def zf_MO_cell_93 (K : Int32 → zs_T → Prop) (l2 : Int32) (l3 : Int32) (l4 : Int32) (st : zs_T) : Prop :=
  zf_MO_cell_98 K l2 l3 l4 2 st
def zf_MO_cell_54 (K : Int32 → zs_T → Prop) (l1 : Int32) (l2 : Int32) (l3 : Int32) (l4 : Int32) (l5 : Int32) (st : zs_T) : Prop :=
  ((l1 < 0 → zf_MO_cell_80 K l2 l3 l4 st) ∧ (¬ l1 < 0 → ((l5 < l1 → zf_MO_cell_80 K l2 l3 l4 st) ∧ (¬ l5 < l1 → ((l2 < 0 → zf_MO_cell_80 K l2 l3 l4 st) ∧ (¬ l2 < 0 → (vp_in l4 300 ∧ ((l2 < (st.1 655 l4.toNatClampNeg) → ((l3 < 0 → zf_MO_cell_93 K l2 l3 l4 st) ∧ (¬ l3 < 0 → ((l3 ≤ 2 → zf_MO_cell_98 K l2 l3 l4 0 st) ∧ (¬ l3 ≤ 2 → zf_MO_cell_93 K l2 l3 l4 st))))) ∧ (¬ l2 < (st.1 655 l4.toNatClampNeg) → zf_MO_cell_80 K l2 l3 l4 st)))))))))
def zf_MO_cell_9_s (K : Int32 → zs_T → Prop) (B9 : Int32 → Int32 → Int32 → Int32 → Int32 → Int32 → zs_T → Prop) (l1 : Int32) (l2 : Int32) (l3 : Int32) (l4 : Int32) (l5 : Int32) (l6 : Int32) (st : zs_T) : Prop :=
  (((st.1 635 26) ≤ l6 → zf_MO_cell_54 K l1 l2 l3 l4 l5 st) ∧ (¬ (st.1 635 26) ≤ l6 → ((¬ (st.1 635 30) = 0 → zf_MO_cell_54 K l1 l2 l3 l4 l5 st) ∧ ((st.1 635 30) = 0 → ((l1 ≤ l5 → zf_MO_cell_54 K l1 l2 l3 l4 l5 st) ∧ (¬ l1 ≤ l5 → (vp_in l6 300 ∧ (((st.1 656 l6.toNatClampNeg) = 0 → zf_MO_cell_48 K B9 l1 l2 l3 l4 l5 l6 st) ∧ (¬ (st.1 656 l6.toNatClampNeg) = 0 → zf_MO_cell_48 K B9 l1 l2 l3 l6 (l5 + 1) l6 st)))))))))
def zf_MO_cell_9 (K : Int32 → zs_T → Prop) : Nat → Int32 → Int32 → Int32 → Int32 → Int32 → Int32 → zs_T → Prop
  | 0 => fun _ _ _ _ _ _ _ => False
  | n + 1 => zf_MO_cell_9_s K (zf_MO_cell_9 K n)
def zf_MO_cell (l1 : Int32) (l2 : Int32) (l3 : Int32) (st : zs_T) (K : Int32 → zs_T → Prop) : Prop :=
  ∃ n, zf_MO_cell_9 K n l1 l2 l3 (-1) (-1) 0 st
