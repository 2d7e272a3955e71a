/-! what the methods need and do, as pure predicates: by program (wip/whole/gen) -/
def zf_MO_moreMay_105 (K : Int32 → zs_T → Prop) (B5 : Int32 → Int32 → Int32 → Int32 → zs_T → Prop) (l1 : Int32) (l2 : Int32) (l3 : Int32) (l4 : Int32) (s0 : Int32) (s1 : Int32) (st : zs_T) : Prop :=
  (vp_in s1 3200 ∧ (∀ t602 : zs_T, t602 = zs_i st 641 s1.toNatClampNeg (vp_nar .boolean s0) → B5 l1 l2 l3 (l4 + 1) t602))
def zf_MO_moreMay_100 (K : Int32 → zs_T → Prop) (B5 : Int32 → Int32 → Int32 → Int32 → zs_T → Prop) (l1 : Int32) (l2 : Int32) (l3 : Int32) (l4 : Int32) (s0 : Int32) (st : zs_T) : Prop :=
  zf_MO_moreMay_105 K B5 l1 l2 l3 l4 1 s0 st
def zf_MO_moreMay_55 (K : Int32 → zs_T → Prop) (B5 : Int32 → Int32 → Int32 → Int32 → zs_T → Prop) (l1 : Int32) (l2 : Int32) (l4 : Int32) (s0 : Int32) (st : zs_T) : Prop :=
  (vp_in ((200 * l2) + l4) 3200 ∧ ((¬ (st.1 641 ((200 * l2) + l4).toNatClampNeg) = 0 → zf_MO_moreMay_100 K B5 l1 l2 s0 l4 ((200 * l2) + l4) st) ∧ ((st.1 641 ((200 * l2) + l4).toNatClampNeg) = 0 → (vp_in ((200 * l1) + l4) 3200 ∧ (((st.1 641 ((200 * l1) + l4).toNatClampNeg) = 0 → zf_MO_moreMay_105 K B5 l1 l2 s0 l4 0 ((200 * l2) + l4) st) ∧ (¬ (st.1 641 ((200 * l1) + l4).toNatClampNeg) = 0 → zf_MO_moreMay_100 K B5 l1 l2 s0 l4 ((200 * l2) + l4) st))))))
def zf_MO_moreMay_50 (K : Int32 → zs_T → Prop) (B5 : Int32 → Int32 → Int32 → Int32 → zs_T → Prop) (l1 : Int32) (l2 : Int32) (l4 : Int32) (st : zs_T) : Prop :=
  zf_MO_moreMay_55 K B5 l1 l2 l4 1 st
def zf_MO_moreMay_54 (K : Int32 → zs_T → Prop) (B5 : Int32 → Int32 → Int32 → Int32 → zs_T → Prop) (l1 : Int32) (l2 : Int32) (l4 : Int32) (st : zs_T) : Prop :=
  zf_MO_moreMay_55 K B5 l1 l2 l4 0 st
def zf_MO_moreMay_5_s (K : Int32 → zs_T → Prop) (B5 : Int32 → Int32 → Int32 → Int32 → zs_T → Prop) (l1 : Int32) (l2 : Int32) (l3 : Int32) (l4 : Int32) (st : zs_T) : Prop :=
  (((st.1 635 5) ≤ l4 → (zs_bz l3 ∧ K l3 st)) ∧ (¬ (st.1 635 5) ≤ l4 → ((¬ l3 = 0 → zf_MO_moreMay_50 K B5 l1 l2 l4 st) ∧ (l3 = 0 → (vp_in ((200 * l1) + l4) 3200 ∧ (((st.1 641 ((200 * l1) + l4).toNatClampNeg) = 0 → zf_MO_moreMay_54 K B5 l1 l2 l4 st) ∧ (¬ (st.1 641 ((200 * l1) + l4).toNatClampNeg) = 0 → (vp_in ((200 * l2) + l4) 3200 ∧ ((¬ (st.1 641 ((200 * l2) + l4).toNatClampNeg) = 0 → zf_MO_moreMay_54 K B5 l1 l2 l4 st) ∧ ((st.1 641 ((200 * l2) + l4).toNatClampNeg) = 0 → zf_MO_moreMay_50 K B5 l1 l2 l4 st))))))))))
def zf_MO_moreMay_5 (K : Int32 → zs_T → Prop) : Nat → Int32 → Int32 → Int32 → Int32 → zs_T → Prop
  | 0 => fun _ _ _ _ _ => False
  | n + 1 => zf_MO_moreMay_5_s K (zf_MO_moreMay_5 K n)
def zf_MO_moreMay (l1 : Int32) (l2 : Int32) (st : zs_T) (K : Int32 → zs_T → Prop) : Prop :=
  ∃ n, zf_MO_moreMay_5 K n l1 l2 0 0 st
def zf_MO_moreFromCells_105 (K : Int32 → zs_T → Prop) (B5 : Int32 → Int32 → Int32 → Int32 → zs_T → Prop) (l1 : Int32) (l2 : Int32) (l3 : Int32) (l4 : Int32) (s0 : Int32) (s1 : Int32) (st : zs_T) : Prop :=
  (vp_in s1 3200 ∧ (∀ t602 : zs_T, t602 = zs_i st 641 s1.toNatClampNeg (vp_nar .boolean s0) → B5 l1 l2 l3 (l4 + 1) t602))
def zf_MO_moreFromCells_100 (K : Int32 → zs_T → Prop) (B5 : Int32 → Int32 → Int32 → Int32 → zs_T → Prop) (l1 : Int32) (l2 : Int32) (l3 : Int32) (l4 : Int32) (s0 : Int32) (st : zs_T) : Prop :=
  zf_MO_moreFromCells_105 K B5 l1 l2 l3 l4 1 s0 st
def zf_MO_moreFromCells_55 (K : Int32 → zs_T → Prop) (B5 : Int32 → Int32 → Int32 → Int32 → zs_T → Prop) (l1 : Int32) (l2 : Int32) (l4 : Int32) (s0 : Int32) (st : zs_T) : Prop :=
  (vp_in ((200 * l2) + l4) 3200 ∧ ((¬ (st.1 641 ((200 * l2) + l4).toNatClampNeg) = 0 → zf_MO_moreFromCells_100 K B5 l1 l2 s0 l4 ((200 * l2) + l4) st) ∧ ((st.1 641 ((200 * l2) + l4).toNatClampNeg) = 0 → (vp_in ((200 * l1) + l4) 40000 ∧ (((st.1 642 ((200 * l1) + l4).toNatClampNeg) = 0 → zf_MO_moreFromCells_105 K B5 l1 l2 s0 l4 0 ((200 * l2) + l4) st) ∧ (¬ (st.1 642 ((200 * l1) + l4).toNatClampNeg) = 0 → zf_MO_moreFromCells_100 K B5 l1 l2 s0 l4 ((200 * l2) + l4) st))))))
def zf_MO_moreFromCells_50 (K : Int32 → zs_T → Prop) (B5 : Int32 → Int32 → Int32 → Int32 → zs_T → Prop) (l1 : Int32) (l2 : Int32) (l4 : Int32) (st : zs_T) : Prop :=
  zf_MO_moreFromCells_55 K B5 l1 l2 l4 1 st
def zf_MO_moreFromCells_54 (K : Int32 → zs_T → Prop) (B5 : Int32 → Int32 → Int32 → Int32 → zs_T → Prop) (l1 : Int32) (l2 : Int32) (l4 : Int32) (st : zs_T) : Prop :=
  zf_MO_moreFromCells_55 K B5 l1 l2 l4 0 st
def zf_MO_moreFromCells_5_s (K : Int32 → zs_T → Prop) (B5 : Int32 → Int32 → Int32 → Int32 → zs_T → Prop) (l1 : Int32) (l2 : Int32) (l3 : Int32) (l4 : Int32) (st : zs_T) : Prop :=
  (((st.1 635 5) ≤ l4 → (zs_bz l3 ∧ K l3 st)) ∧ (¬ (st.1 635 5) ≤ l4 → ((¬ l3 = 0 → zf_MO_moreFromCells_50 K B5 l1 l2 l4 st) ∧ (l3 = 0 → (vp_in ((200 * l1) + l4) 40000 ∧ (((st.1 642 ((200 * l1) + l4).toNatClampNeg) = 0 → zf_MO_moreFromCells_54 K B5 l1 l2 l4 st) ∧ (¬ (st.1 642 ((200 * l1) + l4).toNatClampNeg) = 0 → (vp_in ((200 * l2) + l4) 3200 ∧ ((¬ (st.1 641 ((200 * l2) + l4).toNatClampNeg) = 0 → zf_MO_moreFromCells_54 K B5 l1 l2 l4 st) ∧ ((st.1 641 ((200 * l2) + l4).toNatClampNeg) = 0 → zf_MO_moreFromCells_50 K B5 l1 l2 l4 st))))))))))
def zf_MO_moreFromCells_5 (K : Int32 → zs_T → Prop) : Nat → Int32 → Int32 → Int32 → Int32 → zs_T → Prop
  | 0 => fun _ _ _ _ _ => False
  | n + 1 => zf_MO_moreFromCells_5_s K (zf_MO_moreFromCells_5 K n)
def zf_MO_moreFromCells (l1 : Int32) (l2 : Int32) (st : zs_T) (K : Int32 → zs_T → Prop) : Prop :=
  ∃ n, zf_MO_moreFromCells_5 K n l1 l2 0 0 st
def zf_MO_moreToCells_105 (K : Int32 → zs_T → Prop) (B5 : Int32 → Int32 → Int32 → Int32 → zs_T → Prop) (l1 : Int32) (l2 : Int32) (l3 : Int32) (l4 : Int32) (s0 : Int32) (s1 : Int32) (st : zs_T) : Prop :=
  (vp_in s1 40000 ∧ (∀ t602 : zs_T, t602 = zs_i st 642 s1.toNatClampNeg (vp_nar .boolean s0) → B5 l1 l2 l3 (l4 + 1) t602))
def zf_MO_moreToCells_100 (K : Int32 → zs_T → Prop) (B5 : Int32 → Int32 → Int32 → Int32 → zs_T → Prop) (l1 : Int32) (l2 : Int32) (l3 : Int32) (l4 : Int32) (s0 : Int32) (st : zs_T) : Prop :=
  zf_MO_moreToCells_105 K B5 l1 l2 l3 l4 1 s0 st
def zf_MO_moreToCells_55 (K : Int32 → zs_T → Prop) (B5 : Int32 → Int32 → Int32 → Int32 → zs_T → Prop) (l1 : Int32) (l2 : Int32) (l4 : Int32) (s0 : Int32) (st : zs_T) : Prop :=
  (vp_in ((200 * l2) + l4) 40000 ∧ ((¬ (st.1 642 ((200 * l2) + l4).toNatClampNeg) = 0 → zf_MO_moreToCells_100 K B5 l1 l2 s0 l4 ((200 * l2) + l4) st) ∧ ((st.1 642 ((200 * l2) + l4).toNatClampNeg) = 0 → (vp_in ((200 * l1) + l4) 3200 ∧ (((st.1 641 ((200 * l1) + l4).toNatClampNeg) = 0 → zf_MO_moreToCells_105 K B5 l1 l2 s0 l4 0 ((200 * l2) + l4) st) ∧ (¬ (st.1 641 ((200 * l1) + l4).toNatClampNeg) = 0 → zf_MO_moreToCells_100 K B5 l1 l2 s0 l4 ((200 * l2) + l4) st))))))
def zf_MO_moreToCells_50 (K : Int32 → zs_T → Prop) (B5 : Int32 → Int32 → Int32 → Int32 → zs_T → Prop) (l1 : Int32) (l2 : Int32) (l4 : Int32) (st : zs_T) : Prop :=
  zf_MO_moreToCells_55 K B5 l1 l2 l4 1 st
def zf_MO_moreToCells_54 (K : Int32 → zs_T → Prop) (B5 : Int32 → Int32 → Int32 → Int32 → zs_T → Prop) (l1 : Int32) (l2 : Int32) (l4 : Int32) (st : zs_T) : Prop :=
  zf_MO_moreToCells_55 K B5 l1 l2 l4 0 st
def zf_MO_moreToCells_5_s (K : Int32 → zs_T → Prop) (B5 : Int32 → Int32 → Int32 → Int32 → zs_T → Prop) (l1 : Int32) (l2 : Int32) (l3 : Int32) (l4 : Int32) (st : zs_T) : Prop :=
  (((st.1 635 5) ≤ l4 → (zs_bz l3 ∧ K l3 st)) ∧ (¬ (st.1 635 5) ≤ l4 → ((¬ l3 = 0 → zf_MO_moreToCells_50 K B5 l1 l2 l4 st) ∧ (l3 = 0 → (vp_in ((200 * l1) + l4) 3200 ∧ (((st.1 641 ((200 * l1) + l4).toNatClampNeg) = 0 → zf_MO_moreToCells_54 K B5 l1 l2 l4 st) ∧ (¬ (st.1 641 ((200 * l1) + l4).toNatClampNeg) = 0 → (vp_in ((200 * l2) + l4) 40000 ∧ ((¬ (st.1 642 ((200 * l2) + l4).toNatClampNeg) = 0 → zf_MO_moreToCells_54 K B5 l1 l2 l4 st) ∧ ((st.1 642 ((200 * l2) + l4).toNatClampNeg) = 0 → zf_MO_moreToCells_50 K B5 l1 l2 l4 st))))))))))
def zf_MO_moreToCells_5 (K : Int32 → zs_T → Prop) : Nat → Int32 → Int32 → Int32 → Int32 → zs_T → Prop
  | 0 => fun _ _ _ _ _ => False
  | n + 1 => zf_MO_moreToCells_5_s K (zf_MO_moreToCells_5 K n)
def zf_MO_moreToCells (l1 : Int32) (l2 : Int32) (st : zs_T) (K : Int32 → zs_T → Prop) : Prop :=
  ∃ n, zf_MO_moreToCells_5 K n l1 l2 0 0 st
def zf_MO_findSets_277 (K : zs_T → Prop) (B45 : Int32 → zs_T → Prop) (B53 : Int32 → Int32 → zs_T → Prop) (B180 : Int32 → Int32 → Int32 → Int32 → Int32 → Int32 → zs_T → Prop) (l1 : Int32) (l2 : Int32) (l3 : Int32) (l4 : Int32) (l5 : Int32) (l6 : Int32) (st : zs_T) : Prop :=
  B180 l1 l2 l3 l4 l5 (l6 + 1) st
def zf_MO_findSets_276 (K : zs_T → Prop) (B45 : Int32 → zs_T → Prop) (B53 : Int32 → Int32 → zs_T → Prop) (B180 : Int32 → Int32 → Int32 → Int32 → Int32 → Int32 → zs_T → Prop) (l2 : Int32) (l3 : Int32) (l4 : Int32) (l5 : Int32) (l6 : Int32) (s0 : Int32) (st : zs_T) : Prop :=
  zf_MO_findSets_277 K B45 B53 B180 s0 l2 l3 l4 l5 l6 st
def zf_MO_findSets_271 (K : zs_T → Prop) (B45 : Int32 → zs_T → Prop) (B53 : Int32 → Int32 → zs_T → Prop) (B180 : Int32 → Int32 → Int32 → Int32 → Int32 → Int32 → zs_T → Prop) (l2 : Int32) (l3 : Int32) (l4 : Int32) (l5 : Int32) (l6 : Int32) (st : zs_T) : Prop :=
  zf_MO_findSets_276 K B45 B53 B180 l2 l3 l4 l5 l6 1 st
def zf_MO_findSets_233 (K : zs_T → Prop) (B45 : Int32 → zs_T → Prop) (B53 : Int32 → Int32 → zs_T → Prop) (B180 : Int32 → Int32 → Int32 → Int32 → Int32 → Int32 → zs_T → Prop) (l1 : Int32) (l2 : Int32) (l3 : Int32) (l4 : Int32) (l5 : Int32) (l6 : Int32) (st : zs_T) : Prop :=
  ((¬ l3 = 10 → zf_MO_findSets_277 K B45 B53 B180 l1 l2 l3 l4 l5 l6 st) ∧ (l3 = 10 → (vp_in ((200 * l4) + l6) 3200 ∧ (((st.1 641 ((200 * l4) + l6).toNatClampNeg) = 0 → zf_MO_findSets_277 K B45 B53 B180 l1 l2 l3 l4 l5 l6 st) ∧ (¬ (st.1 641 ((200 * l4) + l6).toNatClampNeg) = 0 → zf_MO_moreToCells l5 l6 st (fun r1303 u1302 => ((¬ r1303 = 0 → zf_MO_findSets_271 K B45 B53 B180 l2 l3 l4 l5 l6 u1302) ∧ (r1303 = 0 → ((l1 = 0 → zf_MO_findSets_276 K B45 B53 B180 l2 l3 l4 l5 l6 0 u1302) ∧ (¬ l1 = 0 → zf_MO_findSets_271 K B45 B53 B180 l2 l3 l4 l5 l6 u1302))))))))))
def zf_MO_findSets_232 (K : zs_T → Prop) (B45 : Int32 → zs_T → Prop) (B53 : Int32 → Int32 → zs_T → Prop) (B180 : Int32 → Int32 → Int32 → Int32 → Int32 → Int32 → zs_T → Prop) (l2 : Int32) (l3 : Int32) (l4 : Int32) (l5 : Int32) (l6 : Int32) (s0 : Int32) (st : zs_T) : Prop :=
  zf_MO_findSets_233 K B45 B53 B180 s0 l2 l3 l4 l5 l6 st
def zf_MO_findSets_227 (K : zs_T → Prop) (B45 : Int32 → zs_T → Prop) (B53 : Int32 → Int32 → zs_T → Prop) (B180 : Int32 → Int32 → Int32 → Int32 → Int32 → Int32 → zs_T → Prop) (l2 : Int32) (l3 : Int32) (l4 : Int32) (l5 : Int32) (l6 : Int32) (st : zs_T) : Prop :=
  zf_MO_findSets_232 K B45 B53 B180 l2 l3 l4 l5 l6 1 st
def zf_MO_findSets_180_s (K : zs_T → Prop) (B45 : Int32 → zs_T → Prop) (B53 : Int32 → Int32 → zs_T → Prop) (B180 : Int32 → Int32 → Int32 → Int32 → Int32 → Int32 → zs_T → Prop) (l1 : Int32) (l2 : Int32) (l3 : Int32) (l4 : Int32) (l5 : Int32) (l6 : Int32) (st : zs_T) : Prop :=
  (((st.1 635 5) ≤ l6 → B53 l1 (l2 + 1) st) ∧ (¬ (st.1 635 5) ≤ l6 → ((¬ l3 = 9 → zf_MO_findSets_233 K B45 B53 B180 l1 l2 l3 l4 l5 l6 st) ∧ (l3 = 9 → (vp_in ((200 * l5) + l6) 3200 ∧ (((st.1 641 ((200 * l5) + l6).toNatClampNeg) = 0 → zf_MO_findSets_233 K B45 B53 B180 l1 l2 l3 l4 l5 l6 st) ∧ (¬ (st.1 641 ((200 * l5) + l6).toNatClampNeg) = 0 → zf_MO_moreFromCells l6 l4 st (fun r1203 u1202 => ((¬ r1203 = 0 → zf_MO_findSets_227 K B45 B53 B180 l2 l3 l4 l5 l6 u1202) ∧ (r1203 = 0 → ((l1 = 0 → zf_MO_findSets_232 K B45 B53 B180 l2 l3 l4 l5 l6 0 u1202) ∧ (¬ l1 = 0 → zf_MO_findSets_227 K B45 B53 B180 l2 l3 l4 l5 l6 u1202))))))))))))
def zf_MO_findSets_180 (K : zs_T → Prop) (B45 : Int32 → zs_T → Prop) (B53 : Int32 → Int32 → zs_T → Prop) : Nat → Int32 → Int32 → Int32 → Int32 → Int32 → Int32 → zs_T → Prop
  | 0 => fun _ _ _ _ _ _ _ => False
  | n + 1 => zf_MO_findSets_180_s K B45 B53 (zf_MO_findSets_180 K B45 B53 n)
def zf_MO_findSets_177 (K : zs_T → Prop) (B45 : Int32 → zs_T → Prop) (B53 : Int32 → Int32 → zs_T → Prop) (l1 : Int32) (l2 : Int32) (l3 : Int32) (l4 : Int32) (l5 : Int32) (st : zs_T) : Prop :=
  ∃ n, zf_MO_findSets_180 K B45 B53 n l1 l2 l3 l4 l5 0 st
def zf_MO_findSets_176 (K : zs_T → Prop) (B45 : Int32 → zs_T → Prop) (B53 : Int32 → Int32 → zs_T → Prop) (l2 : Int32) (l3 : Int32) (l4 : Int32) (l5 : Int32) (s0 : Int32) (st : zs_T) : Prop :=
  zf_MO_findSets_177 K B45 B53 s0 l2 l3 l4 l5 st
def zf_MO_findSets_171 (K : zs_T → Prop) (B45 : Int32 → zs_T → Prop) (B53 : Int32 → Int32 → zs_T → Prop) (l2 : Int32) (l3 : Int32) (l4 : Int32) (l5 : Int32) (st : zs_T) : Prop :=
  zf_MO_findSets_176 K B45 B53 l2 l3 l4 l5 1 st
def zf_MO_findSets_156 (K : zs_T → Prop) (B45 : Int32 → zs_T → Prop) (B53 : Int32 → Int32 → zs_T → Prop) (l1 : Int32) (l2 : Int32) (l3 : Int32) (l4 : Int32) (l5 : Int32) (st : zs_T) : Prop :=
  zf_MO_moreMay l5 l4 st (fun r802 u801 => ((¬ r802 = 0 → zf_MO_findSets_171 K B45 B53 l2 l3 l4 l5 u801) ∧ (r802 = 0 → ((l1 = 0 → zf_MO_findSets_176 K B45 B53 l2 l3 l4 l5 0 u801) ∧ (¬ l1 = 0 → zf_MO_findSets_171 K B45 B53 l2 l3 l4 l5 u801)))))
def zf_MO_findSets_145 (K : zs_T → Prop) (B45 : Int32 → zs_T → Prop) (B53 : Int32 → Int32 → zs_T → Prop) (l1 : Int32) (l2 : Int32) (l3 : Int32) (l4 : Int32) (l5 : Int32) (st : zs_T) : Prop :=
  ((l3 = 1 → zf_MO_findSets_156 K B45 B53 l1 l2 l3 l4 l5 st) ∧ (¬ l3 = 1 → ((¬ l3 = 7 → zf_MO_findSets_177 K B45 B53 l1 l2 l3 l4 l5 st) ∧ (l3 = 7 → zf_MO_findSets_156 K B45 B53 l1 l2 l3 l4 l5 st))))
def zf_MO_findSets_130 (K : zs_T → Prop) (B45 : Int32 → zs_T → Prop) (B53 : Int32 → Int32 → zs_T → Prop) (l2 : Int32) (l3 : Int32) (l4 : Int32) (l5 : Int32) (s0 : Int32) (st : zs_T) : Prop :=
  (vp_in ((200 * l4) + l2) 3200 ∧ (∀ t702 : zs_T, t702 = zs_i st 641 ((200 * l4) + l2).toNatClampNeg (vp_nar .boolean 1) → zf_MO_findSets_145 K B45 B53 s0 l2 l3 l4 l5 t702))
def zf_MO_findSets_125 (K : zs_T → Prop) (B45 : Int32 → zs_T → Prop) (B53 : Int32 → Int32 → zs_T → Prop) (l2 : Int32) (l3 : Int32) (l4 : Int32) (l5 : Int32) (st : zs_T) : Prop :=
  zf_MO_findSets_130 K B45 B53 l2 l3 l4 l5 1 st
def zf_MO_findSets_53_s (K : zs_T → Prop) (B45 : Int32 → zs_T → Prop) (B53 : Int32 → Int32 → zs_T → Prop) (l1 : Int32) (l2 : Int32) (st : zs_T) : Prop :=
  (((st.1 635 5) ≤ l2 → B45 l1 st) ∧ (¬ (st.1 635 5) ≤ l2 → (vp_in ((st.1 635 9) + l2) 400 ∧ (vp_in ((st.1 635 9) + l2) 400 ∧ (vp_in ((st.1 635 9) + l2) 400 ∧ ((¬ (st.1 636 ((st.1 635 9) + l2).toNatClampNeg) = 8 → zf_MO_findSets_145 K B45 B53 l1 l2 (st.1 636 ((st.1 635 9) + l2).toNatClampNeg) (st.1 637 ((st.1 635 9) + l2).toNatClampNeg) (st.1 638 ((st.1 635 9) + l2).toNatClampNeg) st) ∧ ((st.1 636 ((st.1 635 9) + l2).toNatClampNeg) = 8 → ((¬ l1 = 0 → zf_MO_findSets_125 K B45 B53 l2 (st.1 636 ((st.1 635 9) + l2).toNatClampNeg) (st.1 637 ((st.1 635 9) + l2).toNatClampNeg) (st.1 638 ((st.1 635 9) + l2).toNatClampNeg) st) ∧ (l1 = 0 → (vp_in ((200 * (st.1 637 ((st.1 635 9) + l2).toNatClampNeg)) + l2) 3200 ∧ ((¬ (st.1 641 ((200 * (st.1 637 ((st.1 635 9) + l2).toNatClampNeg)) + l2).toNatClampNeg) = 0 → zf_MO_findSets_130 K B45 B53 l2 (st.1 636 ((st.1 635 9) + l2).toNatClampNeg) (st.1 637 ((st.1 635 9) + l2).toNatClampNeg) (st.1 638 ((st.1 635 9) + l2).toNatClampNeg) 0 st) ∧ ((st.1 641 ((200 * (st.1 637 ((st.1 635 9) + l2).toNatClampNeg)) + l2).toNatClampNeg) = 0 → zf_MO_findSets_125 K B45 B53 l2 (st.1 636 ((st.1 635 9) + l2).toNatClampNeg) (st.1 637 ((st.1 635 9) + l2).toNatClampNeg) (st.1 638 ((st.1 635 9) + l2).toNatClampNeg) st))))))))))))
def zf_MO_findSets_53 (K : zs_T → Prop) (B45 : Int32 → zs_T → Prop) : Nat → Int32 → Int32 → zs_T → Prop
  | 0 => fun _ _ _ => False
  | n + 1 => zf_MO_findSets_53_s K B45 (zf_MO_findSets_53 K B45 n)
def zf_MO_findSets_45_s (K : zs_T → Prop) (B45 : Int32 → zs_T → Prop) (l1 : Int32) (st : zs_T) : Prop :=
  ((l1 = 0 → K st) ∧ (¬ l1 = 0 → ∃ n, zf_MO_findSets_53 K B45 n 0 0 st))
def zf_MO_findSets_45 (K : zs_T → Prop) : Nat → Int32 → zs_T → Prop
  | 0 => fun _ _ => False
  | n + 1 => zf_MO_findSets_45_s K (zf_MO_findSets_45 K n)
def zf_MO_findSets_24_s (K : zs_T → Prop) (B24 : Int32 → zs_T → Prop) (l1 : Int32) (st : zs_T) : Prop :=
  ((40000 ≤ l1 → ∃ n, zf_MO_findSets_45 K n 1 st) ∧ (¬ 40000 ≤ l1 → (vp_in l1 40000 ∧ (∀ t202 : zs_T, t202 = zs_i st 642 l1.toNatClampNeg (vp_nar .boolean 0) → B24 (l1 + 1) t202))))
def zf_MO_findSets_24 (K : zs_T → Prop) : Nat → Int32 → zs_T → Prop
  | 0 => fun _ _ => False
  | n + 1 => zf_MO_findSets_24_s K (zf_MO_findSets_24 K n)
def zf_MO_findSets_2_s (K : zs_T → Prop) (B2 : Int32 → zs_T → Prop) (l1 : Int32) (st : zs_T) : Prop :=
  ((3200 ≤ l1 → ∃ n, zf_MO_findSets_24 K n 0 st) ∧ (¬ 3200 ≤ l1 → (vp_in l1 3200 ∧ (∀ t102 : zs_T, t102 = zs_i st 641 l1.toNatClampNeg (vp_nar .boolean 0) → B2 (l1 + 1) t102))))
def zf_MO_findSets_2 (K : zs_T → Prop) : Nat → Int32 → zs_T → Prop
  | 0 => fun _ _ => False
  | n + 1 => zf_MO_findSets_2_s K (zf_MO_findSets_2 K n)
def zf_MO_findSets  (st : zs_T) (K : zs_T → Prop) : Prop :=
  ∃ n, zf_MO_findSets_2 K n 0 st
def zf_MO_meet_55 (K : Int32 → zs_T → Prop) (B5 : Int32 → Int32 → Int32 → Int32 → zs_T → Prop) (l1 : Int32) (l2 : Int32) (l4 : Int32) (s0 : Int32) (st : zs_T) : Prop :=
  B5 l1 l2 s0 (l4 + 1) st
def zf_MO_meet_50 (K : Int32 → zs_T → Prop) (B5 : Int32 → Int32 → Int32 → Int32 → zs_T → Prop) (l1 : Int32) (l2 : Int32) (l4 : Int32) (st : zs_T) : Prop :=
  zf_MO_meet_55 K B5 l1 l2 l4 1 st
def zf_MO_meet_54 (K : Int32 → zs_T → Prop) (B5 : Int32 → Int32 → Int32 → Int32 → zs_T → Prop) (l1 : Int32) (l2 : Int32) (l4 : Int32) (st : zs_T) : Prop :=
  zf_MO_meet_55 K B5 l1 l2 l4 0 st
def zf_MO_meet_5_s (K : Int32 → zs_T → Prop) (B5 : Int32 → Int32 → Int32 → Int32 → zs_T → Prop) (l1 : Int32) (l2 : Int32) (l3 : Int32) (l4 : Int32) (st : zs_T) : Prop :=
  (((st.1 635 5) ≤ l4 → (zs_bz l3 ∧ K l3 st)) ∧ (¬ (st.1 635 5) ≤ l4 → ((¬ l3 = 0 → zf_MO_meet_50 K B5 l1 l2 l4 st) ∧ (l3 = 0 → (vp_in ((200 * l1) + l4) 3200 ∧ (((st.1 641 ((200 * l1) + l4).toNatClampNeg) = 0 → zf_MO_meet_54 K B5 l1 l2 l4 st) ∧ (¬ (st.1 641 ((200 * l1) + l4).toNatClampNeg) = 0 → (vp_in ((200 * l2) + l4) 3200 ∧ (((st.1 641 ((200 * l2) + l4).toNatClampNeg) = 0 → zf_MO_meet_54 K B5 l1 l2 l4 st) ∧ (¬ (st.1 641 ((200 * l2) + l4).toNatClampNeg) = 0 → zf_MO_meet_50 K B5 l1 l2 l4 st))))))))))
def zf_MO_meet_5 (K : Int32 → zs_T → Prop) : Nat → Int32 → Int32 → Int32 → Int32 → zs_T → Prop
  | 0 => fun _ _ _ _ _ => False
  | n + 1 => zf_MO_meet_5_s K (zf_MO_meet_5 K n)
def zf_MO_meet (l1 : Int32) (l2 : Int32) (st : zs_T) (K : Int32 → zs_T → Prop) : Prop :=
  ∃ n, zf_MO_meet_5 K n l1 l2 0 0 st
def zf_MO_findReached_23 (K : zs_T → Prop) (B2 : Int32 → zs_T → Prop) (l1 : Int32) (s0 : Int32) (s1 : Int32) (st : zs_T) : Prop :=
  (vp_in s1 201 ∧ (∀ t302 : zs_T, t302 = zs_i st 643 s1.toNatClampNeg (vp_nar .boolean s0) → B2 (l1 + 1) t302))
def zf_MO_findReached_98 (K : zs_T → Prop) (B32 : Int32 → zs_T → Prop) (B40 : Int32 → Int32 → zs_T → Prop) (B50 : Int32 → Int32 → Int32 → zs_T → Prop) (l1 : Int32) (l2 : Int32) (l3 : Int32) (st : zs_T) : Prop :=
  B50 l1 l2 (l3 + 1) st
def zf_MO_findReached_50_s (K : zs_T → Prop) (B32 : Int32 → zs_T → Prop) (B40 : Int32 → Int32 → zs_T → Prop) (B50 : Int32 → Int32 → Int32 → zs_T → Prop) (l1 : Int32) (l2 : Int32) (l3 : Int32) (st : zs_T) : Prop :=
  ((2 ≤ l3 → B40 l1 (l2 + 1) st) ∧ (¬ 2 ≤ l3 → zf_MO_next l2 l3 st (fun r502 u501 => (vp_in l2 201 ∧ (((u501.1 643 l2.toNatClampNeg) = 0 → zf_MO_findReached_98 K B32 B40 B50 l1 l2 l3 u501) ∧ (¬ (u501.1 643 l2.toNatClampNeg) = 0 → ((r502 = (-1) → zf_MO_findReached_98 K B32 B40 B50 l1 l2 l3 u501) ∧ (¬ r502 = (-1) → (vp_in r502 201 ∧ ((¬ (u501.1 643 r502.toNatClampNeg) = 0 → zf_MO_findReached_98 K B32 B40 B50 l1 l2 l3 u501) ∧ ((u501.1 643 r502.toNatClampNeg) = 0 → (vp_in r502 201 ∧ (∀ t506 : zs_T, t506 = zs_i u501 643 r502.toNatClampNeg (vp_nar .boolean 1) → zf_MO_findReached_98 K B32 B40 B50 1 l2 l3 t506)))))))))))))
def zf_MO_findReached_50 (K : zs_T → Prop) (B32 : Int32 → zs_T → Prop) (B40 : Int32 → Int32 → zs_T → Prop) : Nat → Int32 → Int32 → Int32 → zs_T → Prop
  | 0 => fun _ _ _ _ => False
  | n + 1 => zf_MO_findReached_50_s K B32 B40 (zf_MO_findReached_50 K B32 B40 n)
def zf_MO_findReached_40_s (K : zs_T → Prop) (B32 : Int32 → zs_T → Prop) (B40 : Int32 → Int32 → zs_T → Prop) (l1 : Int32) (l2 : Int32) (st : zs_T) : Prop :=
  (((st.1 635 5) ≤ l2 → B32 l1 st) ∧ (¬ (st.1 635 5) ≤ l2 → ∃ n, zf_MO_findReached_50 K B32 B40 n l1 l2 0 st))
def zf_MO_findReached_40 (K : zs_T → Prop) (B32 : Int32 → zs_T → Prop) : Nat → Int32 → Int32 → zs_T → Prop
  | 0 => fun _ _ _ => False
  | n + 1 => zf_MO_findReached_40_s K B32 (zf_MO_findReached_40 K B32 n)
def zf_MO_findReached_32_s (K : zs_T → Prop) (B32 : Int32 → zs_T → Prop) (l1 : Int32) (st : zs_T) : Prop :=
  ((l1 = 0 → K st) ∧ (¬ l1 = 0 → ∃ n, zf_MO_findReached_40 K B32 n 0 0 st))
def zf_MO_findReached_32 (K : zs_T → Prop) : Nat → Int32 → zs_T → Prop
  | 0 => fun _ _ => False
  | n + 1 => zf_MO_findReached_32_s K (zf_MO_findReached_32 K n)
def zf_MO_findReached_2_s (K : zs_T → Prop) (B2 : Int32 → zs_T → Prop) (l1 : Int32) (st : zs_T) : Prop :=
  ((200 < l1 → ∃ n, zf_MO_findReached_32 K n 1 st) ∧ (¬ 200 < l1 → ((¬ l1 = 0 → zf_MO_findReached_23 K B2 l1 0 l1 st) ∧ (l1 = 0 → zf_MO_findReached_23 K B2 l1 1 l1 st))))
def zf_MO_findReached_2 (K : zs_T → Prop) : Nat → Int32 → zs_T → Prop
  | 0 => fun _ _ => False
  | n + 1 => zf_MO_findReached_2_s K (zf_MO_findReached_2 K n)
def zf_MO_findReached  (st : zs_T) (K : zs_T → Prop) : Prop :=
  ∃ n, zf_MO_findReached_2 K n 0 st
