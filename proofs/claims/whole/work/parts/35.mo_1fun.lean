/-! what the methods need and do, as pure predicates: by program (wip/whole/gen) -/
def zf_MO_freeBefore_159 (K : Int32 → zs_T → Prop) (l1 : Int32) (l2 : Int32) (l3 : Int32) (l4 : Int32) (st : zs_T) : Prop :=
  ((¬ l3 = 0 → K 1 st) ∧ (l3 = 0 → ((¬ l4 = 10 → K 0 st) ∧ (l4 = 10 → (vp_in ((st.1 635 9) + l1) 400 ∧ zf_MO_one l1 l2 (st.1 637 ((st.1 635 9) + l1).toNatClampNeg) st (fun r503 u502 => ((r503 = 0 → K 0 u502) ∧ (¬ r503 = 0 → K 1 u502))))))))
def zf_MO_freeBefore_131 (K : Int32 → zs_T → Prop) (l1 : Int32) (l2 : Int32) (l3 : Int32) (l4 : Int32) (st : zs_T) : Prop :=
  ((¬ l4 = 9 → zf_MO_freeBefore_159 K l1 l2 l3 l4 st) ∧ (l4 = 9 → (vp_in ((st.1 635 9) + l1) 400 ∧ zf_MO_meet l2 (st.1 638 ((st.1 635 9) + l1).toNatClampNeg) st (fun r203 u202 => ((r203 = 0 → zf_MO_freeBefore_159 K l1 l2 l3 l4 u202) ∧ (¬ r203 = 0 → zf_MO_freeBefore_159 K l1 l2 0 l4 u202))))))
def zf_MO_freeBefore_130 (K : Int32 → zs_T → Prop) (l1 : Int32) (l2 : Int32) (l4 : Int32) (s0 : Int32) (st : zs_T) : Prop :=
  zf_MO_freeBefore_131 K l1 l2 s0 l4 st
def zf_MO_freeBefore_125 (K : Int32 → zs_T → Prop) (l1 : Int32) (l2 : Int32) (l4 : Int32) (st : zs_T) : Prop :=
  zf_MO_freeBefore_130 K l1 l2 l4 1 st
def zf_MO_freeBefore_76 (K : Int32 → zs_T → Prop) (l1 : Int32) (l2 : Int32) (l3 : Int32) (l4 : Int32) (st : zs_T) : Prop :=
  ((¬ l4 = 1 → zf_MO_freeBefore_131 K l1 l2 l3 l4 st) ∧ (l4 = 1 → (vp_in ((st.1 635 9) + l1) 400 ∧ ((¬ l2 = (st.1 638 ((st.1 635 9) + l1).toNatClampNeg) → zf_MO_freeBefore_131 K l1 l2 l3 l4 st) ∧ (l2 = (st.1 638 ((st.1 635 9) + l1).toNatClampNeg) → ((¬ l3 = 0 → zf_MO_freeBefore_125 K l1 l2 l4 st) ∧ (l3 = 0 → (vp_in ((st.1 635 9) + l1) 400 ∧ (vp_in ((16 * l1) + (st.1 637 ((st.1 635 9) + l1).toNatClampNeg)) 3216 ∧ (((st.1 647 ((16 * l1) + (st.1 637 ((st.1 635 9) + l1).toNatClampNeg)).toNatClampNeg) = 0 → zf_MO_freeBefore_130 K l1 l2 l4 0 st) ∧ (¬ (st.1 647 ((16 * l1) + (st.1 637 ((st.1 635 9) + l1).toNatClampNeg)).toNatClampNeg) = 0 → zf_MO_freeBefore_125 K l1 l2 l4 st)))))))))))
def zf_MO_freeBefore (l1 : Int32) (l2 : Int32) (st : zs_T) (K : Int32 → zs_T → Prop) : Prop :=
  (vp_in ((16 * l1) + l2) 3216 ∧ ((l1 = (st.1 635 5) → (zs_bz (st.1 647 ((16 * l1) + l2).toNatClampNeg) ∧ K (st.1 647 ((16 * l1) + l2).toNatClampNeg) st)) ∧ (¬ l1 = (st.1 635 5) → (vp_in ((st.1 635 9) + l1) 400 ∧ ((¬ (st.1 636 ((st.1 635 9) + l1).toNatClampNeg) = 14 → (vp_in ((st.1 635 9) + l1) 400 ∧ zf_MO_sets l1 st (fun r6 u5 => ((r6 = 0 → zf_MO_freeBefore_76 K l1 l2 (st.1 647 ((16 * l1) + l2).toNatClampNeg) (st.1 636 ((st.1 635 9) + l1).toNatClampNeg) u5) ∧ (¬ r6 = 0 → (vp_in ((u5.1 635 9) + l1) 400 ∧ ((¬ l2 = (u5.1 637 ((u5.1 635 9) + l1).toNatClampNeg) → zf_MO_freeBefore_76 K l1 l2 (st.1 647 ((16 * l1) + l2).toNatClampNeg) (st.1 636 ((st.1 635 9) + l1).toNatClampNeg) u5) ∧ (l2 = (u5.1 637 ((u5.1 635 9) + l1).toNatClampNeg) → K 0 u5)))))))) ∧ ((st.1 636 ((st.1 635 9) + l1).toNatClampNeg) = 14 → (zs_bz (st.1 647 ((16 * l1) + l2).toNatClampNeg) ∧ K (st.1 647 ((16 * l1) + l2).toNatClampNeg) st)))))))
def zf_MO_findFree_105 (K : zs_T → Prop) (B2 : Int32 → zs_T → Prop) (B12 : Int32 → Int32 → zs_T → Prop) (B28 : Int32 → Int32 → Int32 → Int32 → zs_T → Prop) (l1 : Int32) (l2 : Int32) (l4 : Int32) (s0 : Int32) (st : zs_T) : Prop :=
  B28 l1 l2 s0 (l4 + 1) st
def zf_MO_findFree_100 (K : zs_T → Prop) (B2 : Int32 → zs_T → Prop) (B12 : Int32 → Int32 → zs_T → Prop) (B28 : Int32 → Int32 → Int32 → Int32 → zs_T → Prop) (l1 : Int32) (l2 : Int32) (l4 : Int32) (st : zs_T) : Prop :=
  zf_MO_findFree_105 K B2 B12 B28 l1 l2 l4 1 st
def zf_MO_findFree_104 (K : zs_T → Prop) (B2 : Int32 → zs_T → Prop) (B12 : Int32 → Int32 → zs_T → Prop) (B28 : Int32 → Int32 → Int32 → Int32 → zs_T → Prop) (l1 : Int32) (l2 : Int32) (l4 : Int32) (st : zs_T) : Prop :=
  zf_MO_findFree_105 K B2 B12 B28 l1 l2 l4 0 st
def zf_MO_findFree_112 (K : zs_T → Prop) (B2 : Int32 → zs_T → Prop) (B12 : Int32 → Int32 → zs_T → Prop) (l1 : Int32) (l2 : Int32) (l3 : Int32) (st : zs_T) : Prop :=
  (vp_in ((16 * l1) + l2) 3216 ∧ (∀ t702 : zs_T, t702 = zs_i st 647 ((16 * l1) + l2).toNatClampNeg (vp_nar .boolean l3) → B12 l1 (l2 + 1) t702))
def zf_MO_findFree_28_s (K : zs_T → Prop) (B2 : Int32 → zs_T → Prop) (B12 : Int32 → Int32 → zs_T → Prop) (B28 : Int32 → Int32 → Int32 → Int32 → zs_T → Prop) (l1 : Int32) (l2 : Int32) (l3 : Int32) (l4 : Int32) (st : zs_T) : Prop :=
  (((st.1 635 5) ≤ l4 → zf_MO_findFree_112 K B2 B12 l1 l2 l3 st) ∧ (¬ (st.1 635 5) ≤ l4 → zf_MO_next l1 0 st (fun r502 u501 => ((¬ r502 = (-1) → zf_MO_findFree_112 K B2 B12 l1 l2 l3 u501) ∧ (r502 = (-1) → ((l3 = 0 → zf_MO_findFree_104 K B2 B12 B28 l1 l2 l4 u501) ∧ (¬ l3 = 0 → (vp_in ((200 * l2) + l4) 3200 ∧ (((u501.1 641 ((200 * l2) + l4).toNatClampNeg) = 0 → zf_MO_findFree_100 K B2 B12 B28 l1 l2 l4 u501) ∧ (¬ (u501.1 641 ((200 * l2) + l4).toNatClampNeg) = 0 → (vp_in ((u501.1 635 9) + l4) 400 ∧ ((¬ (u501.1 636 ((u501.1 635 9) + l4).toNatClampNeg) = 8 → zf_MO_findFree_100 K B2 B12 B28 l1 l2 l4 u501) ∧ ((u501.1 636 ((u501.1 635 9) + l4).toNatClampNeg) = 8 → (vp_in ((u501.1 635 9) + l4) 400 ∧ (((u501.1 639 ((u501.1 635 9) + l4).toNatClampNeg) = 1 → zf_MO_findFree_104 K B2 B12 B28 l1 l2 l4 u501) ∧ (¬ (u501.1 639 ((u501.1 635 9) + l4).toNatClampNeg) = 1 → zf_MO_findFree_100 K B2 B12 B28 l1 l2 l4 u501))))))))))))))))
def zf_MO_findFree_28 (K : zs_T → Prop) (B2 : Int32 → zs_T → Prop) (B12 : Int32 → Int32 → zs_T → Prop) : Nat → Int32 → Int32 → Int32 → Int32 → zs_T → Prop
  | 0 => fun _ _ _ _ _ => False
  | n + 1 => zf_MO_findFree_28_s K B2 B12 (zf_MO_findFree_28 K B2 B12 n)
def zf_MO_findFree_12_s (K : zs_T → Prop) (B2 : Int32 → zs_T → Prop) (B12 : Int32 → Int32 → zs_T → Prop) (l1 : Int32) (l2 : Int32) (st : zs_T) : Prop :=
  ((16 ≤ l2 → B2 (l1 + 1) st) ∧ (¬ 16 ≤ l2 → (vp_in l1 201 ∧ ∃ n, zf_MO_findFree_28 K B2 B12 n l1 l2 (st.1 643 l1.toNatClampNeg) 0 st)))
def zf_MO_findFree_12 (K : zs_T → Prop) (B2 : Int32 → zs_T → Prop) : Nat → Int32 → Int32 → zs_T → Prop
  | 0 => fun _ _ _ => False
  | n + 1 => zf_MO_findFree_12_s K B2 (zf_MO_findFree_12 K B2 n)
def zf_MO_findFree_219 (K : zs_T → Prop) (B138 : Int32 → zs_T → Prop) (B149 : Int32 → Int32 → zs_T → Prop) (B155 : Int32 → Int32 → Int32 → zs_T → Prop) (B177 : Int32 → Int32 → Int32 → Int32 → Int32 → zs_T → Prop) (l1 : Int32) (l2 : Int32) (l3 : Int32) (l5 : Int32) (s0 : Int32) (st : zs_T) : Prop :=
  B177 l1 l2 l3 s0 (l5 + 1) st
def zf_MO_findFree_214 (K : zs_T → Prop) (B138 : Int32 → zs_T → Prop) (B149 : Int32 → Int32 → zs_T → Prop) (B155 : Int32 → Int32 → Int32 → zs_T → Prop) (B177 : Int32 → Int32 → Int32 → Int32 → Int32 → zs_T → Prop) (l1 : Int32) (l2 : Int32) (l3 : Int32) (l5 : Int32) (st : zs_T) : Prop :=
  zf_MO_findFree_219 K B138 B149 B155 B177 l1 l2 l3 l5 1 st
def zf_MO_findFree_218 (K : zs_T → Prop) (B138 : Int32 → zs_T → Prop) (B149 : Int32 → Int32 → zs_T → Prop) (B155 : Int32 → Int32 → Int32 → zs_T → Prop) (B177 : Int32 → Int32 → Int32 → Int32 → Int32 → zs_T → Prop) (l1 : Int32) (l2 : Int32) (l3 : Int32) (l5 : Int32) (st : zs_T) : Prop :=
  zf_MO_findFree_219 K B138 B149 B155 B177 l1 l2 l3 l5 0 st
def zf_MO_findFree_252 (K : zs_T → Prop) (B138 : Int32 → zs_T → Prop) (B149 : Int32 → Int32 → zs_T → Prop) (B155 : Int32 → Int32 → Int32 → zs_T → Prop) (l2 : Int32) (l3 : Int32) (l4 : Int32) (s0 : Int32) (st : zs_T) : Prop :=
  (vp_in ((16 * l2) + l3) 3216 ∧ (∀ t1302 : zs_T, t1302 = zs_i st 647 ((16 * l2) + l3).toNatClampNeg (vp_nar .boolean l4) → B155 s0 l2 (l3 + 1) t1302))
def zf_MO_findFree_247 (K : zs_T → Prop) (B138 : Int32 → zs_T → Prop) (B149 : Int32 → Int32 → zs_T → Prop) (B155 : Int32 → Int32 → Int32 → zs_T → Prop) (l2 : Int32) (l3 : Int32) (l4 : Int32) (st : zs_T) : Prop :=
  zf_MO_findFree_252 K B138 B149 B155 l2 l3 l4 1 st
def zf_MO_findFree_177_s (K : zs_T → Prop) (B138 : Int32 → zs_T → Prop) (B149 : Int32 → Int32 → zs_T → Prop) (B155 : Int32 → Int32 → Int32 → zs_T → Prop) (B177 : Int32 → Int32 → Int32 → Int32 → Int32 → zs_T → Prop) (l1 : Int32) (l2 : Int32) (l3 : Int32) (l4 : Int32) (l5 : Int32) (st : zs_T) : Prop :=
  ((2 ≤ l5 → ((¬ l1 = 0 → zf_MO_findFree_247 K B138 B149 B155 l2 l3 l4 st) ∧ (l1 = 0 → (vp_in ((16 * l2) + l3) 3216 ∧ ((l4 = (st.1 647 ((16 * l2) + l3).toNatClampNeg) → zf_MO_findFree_252 K B138 B149 B155 l2 l3 l4 0 st) ∧ (¬ l4 = (st.1 647 ((16 * l2) + l3).toNatClampNeg) → zf_MO_findFree_247 K B138 B149 B155 l2 l3 l4 st)))))) ∧ (¬ 2 ≤ l5 → ((l4 = 0 → zf_MO_findFree_218 K B138 B149 B155 B177 l1 l2 l3 l5 st) ∧ (¬ l4 = 0 → zf_MO_next l2 l5 st (fun r1003 u1002 => ((r1003 = (-1) → zf_MO_findFree_214 K B138 B149 B155 B177 l1 l2 l3 l5 u1002) ∧ (¬ r1003 = (-1) → zf_MO_next l2 l5 u1002 (fun r1005 u1004 => zf_MO_freeBefore r1005 l3 u1004 (fun r1007 u1006 => ((r1007 = 0 → zf_MO_findFree_218 K B138 B149 B155 B177 l1 l2 l3 l5 u1006) ∧ (¬ r1007 = 0 → zf_MO_findFree_214 K B138 B149 B155 B177 l1 l2 l3 l5 u1006)))))))))))
def zf_MO_findFree_177 (K : zs_T → Prop) (B138 : Int32 → zs_T → Prop) (B149 : Int32 → Int32 → zs_T → Prop) (B155 : Int32 → Int32 → Int32 → zs_T → Prop) : Nat → Int32 → Int32 → Int32 → Int32 → Int32 → zs_T → Prop
  | 0 => fun _ _ _ _ _ _ => False
  | n + 1 => zf_MO_findFree_177_s K B138 B149 B155 (zf_MO_findFree_177 K B138 B149 B155 n)
def zf_MO_findFree_155_s (K : zs_T → Prop) (B138 : Int32 → zs_T → Prop) (B149 : Int32 → Int32 → zs_T → Prop) (B155 : Int32 → Int32 → Int32 → zs_T → Prop) (l1 : Int32) (l2 : Int32) (l3 : Int32) (st : zs_T) : Prop :=
  ((16 ≤ l3 → B149 l1 (l2 + (-1)) st) ∧ (¬ 16 ≤ l3 → (vp_in ((16 * l2) + l3) 3216 ∧ ∃ n, zf_MO_findFree_177 K B138 B149 B155 n l1 l2 l3 (st.1 647 ((16 * l2) + l3).toNatClampNeg) 0 st)))
def zf_MO_findFree_155 (K : zs_T → Prop) (B138 : Int32 → zs_T → Prop) (B149 : Int32 → Int32 → zs_T → Prop) : Nat → Int32 → Int32 → Int32 → zs_T → Prop
  | 0 => fun _ _ _ _ => False
  | n + 1 => zf_MO_findFree_155_s K B138 B149 (zf_MO_findFree_155 K B138 B149 n)
def zf_MO_findFree_149_s (K : zs_T → Prop) (B138 : Int32 → zs_T → Prop) (B149 : Int32 → Int32 → zs_T → Prop) (l1 : Int32) (l2 : Int32) (st : zs_T) : Prop :=
  ((l2 < 0 → B138 l1 st) ∧ (¬ l2 < 0 → ∃ n, zf_MO_findFree_155 K B138 B149 n l1 l2 0 st))
def zf_MO_findFree_149 (K : zs_T → Prop) (B138 : Int32 → zs_T → Prop) : Nat → Int32 → Int32 → zs_T → Prop
  | 0 => fun _ _ _ => False
  | n + 1 => zf_MO_findFree_149_s K B138 (zf_MO_findFree_149 K B138 n)
def zf_MO_findFree_138_s (K : zs_T → Prop) (B138 : Int32 → zs_T → Prop) (l1 : Int32) (st : zs_T) : Prop :=
  ((l1 = 0 → K st) ∧ (¬ l1 = 0 → ∃ n, zf_MO_findFree_149 K B138 n 0 (st.1 635 5) st))
def zf_MO_findFree_138 (K : zs_T → Prop) : Nat → Int32 → zs_T → Prop
  | 0 => fun _ _ => False
  | n + 1 => zf_MO_findFree_138_s K (zf_MO_findFree_138 K n)
def zf_MO_findFree_2_s (K : zs_T → Prop) (B2 : Int32 → zs_T → Prop) (l1 : Int32) (st : zs_T) : Prop :=
  (((st.1 635 5) < l1 → ∃ n, zf_MO_findFree_138 K n 1 st) ∧ (¬ (st.1 635 5) < l1 → ∃ n, zf_MO_findFree_12 K B2 n l1 0 st))
def zf_MO_findFree_2 (K : zs_T → Prop) : Nat → Int32 → zs_T → Prop
  | 0 => fun _ _ => False
  | n + 1 => zf_MO_findFree_2_s K (zf_MO_findFree_2 K n)
def zf_MO_findFree  (st : zs_T) (K : zs_T → Prop) : Prop :=
  ∃ n, zf_MO_findFree_2 K n 0 st
def zf_MO_find (l1 : Int32) (st : zs_T) (K : zs_T → Prop) : Prop :=
  (∀ t1 : zs_T, t1 = zs_i st 635 9 l1 → zf_MO_findSets t1 (fun u2 => zf_MO_findReached u2 (fun u3 => zf_MO_findFacts u3 (fun u4 => zf_MO_findFree u4 (fun u5 => K u5)))))
def zf_MO_change (l1 : Int32) (l2 : Int32) (l3 : Int32) (l4 : Int32) (l5 : Int32) (st : zs_T) (K : Int32 → zs_T → Prop) : Prop :=
  (vp_in (200 + l1) 400 ∧ (∀ t2 : zs_T, t2 = zs_i st 636 (200 + l1).toNatClampNeg l2 → (vp_in (200 + l1) 400 ∧ (∀ t4 : zs_T, t4 = zs_i t2 637 (200 + l1).toNatClampNeg l3 → (vp_in (200 + l1) 400 ∧ (∀ t6 : zs_T, t6 = zs_i t4 638 (200 + l1).toNatClampNeg l4 → (vp_in (200 + l1) 400 ∧ (∀ t8 : zs_T, t8 = zs_i t6 639 (200 + l1).toNatClampNeg 0 → (vp_in l1 200 ∧ (∀ t10 : zs_T, t10 = zs_i t8 640 l1.toNatClampNeg l5 → K 1 t10))))))))))
def zf_MO_forward_169 (K : Int32 → zs_T → Prop) (B11 : Int32 → Int32 → zs_T → Prop) (l1 : Int32) (l2 : Int32) (st : zs_T) : Prop :=
  B11 l1 (l2 + 1) st
def zf_MO_forward_117 (K : Int32 → zs_T → Prop) (B11 : Int32 → Int32 → zs_T → Prop) (l2 : Int32) (s0 : Int32) (st : zs_T) : Prop :=
  zf_MO_forward_169 K B11 s0 l2 st
def zf_MO_forward_94 (K : Int32 → zs_T → Prop) (B11 : Int32 → Int32 → zs_T → Prop) (l1 : Int32) (l2 : Int32) (l3 : Int32) (l5 : Int32) (st : zs_T) : Prop :=
  ((16 ≤ l5 → zf_MO_forward_117 K B11 l2 l1 st) ∧ (¬ 16 ≤ l5 → zf_MO_change l2 1 l3 l5 1 st (fun r502 u501 => zf_MO_forward_117 K B11 l2 (l1 + r502) u501)))
def zf_MO_forward_69_s (K : Int32 → zs_T → Prop) (B11 : Int32 → Int32 → zs_T → Prop) (B69 : Int32 → Int32 → Int32 → Int32 → Int32 → zs_T → Prop) (l1 : Int32) (l2 : Int32) (l3 : Int32) (l4 : Int32) (l5 : Int32) (st : zs_T) : Prop :=
  ((16 ≤ l5 → zf_MO_forward_94 K B11 l1 l2 l3 l5 st) ∧ (¬ 16 ≤ l5 → zf_MO_held l2 l4 l5 st (fun r302 u301 => ((¬ r302 = 0 → zf_MO_forward_94 K B11 l1 l2 l3 l5 u301) ∧ (r302 = 0 → B69 l1 l2 l3 l4 (l5 + 1) u301)))))
def zf_MO_forward_69 (K : Int32 → zs_T → Prop) (B11 : Int32 → Int32 → zs_T → Prop) : Nat → Int32 → Int32 → Int32 → Int32 → Int32 → zs_T → Prop
  | 0 => fun _ _ _ _ _ _ => False
  | n + 1 => zf_MO_forward_69_s K B11 (zf_MO_forward_69 K B11 n)
def zf_MO_forward_121 (K : Int32 → zs_T → Prop) (B11 : Int32 → Int32 → zs_T → Prop) (l1 : Int32) (l2 : Int32) (l3 : Int32) (l4 : Int32) (st : zs_T) : Prop :=
  (vp_in l2 201 ∧ (((st.1 643 l2.toNatClampNeg) = 0 → zf_MO_forward_169 K B11 l1 l2 st) ∧ (¬ (st.1 643 l2.toNatClampNeg) = 0 → (vp_in (200 + l2) 400 ∧ ((¬ (st.1 636 (200 + l2).toNatClampNeg) = 10 → zf_MO_forward_169 K B11 l1 l2 st) ∧ ((st.1 636 (200 + l2).toNatClampNeg) = 10 → zf_MO_held l2 l3 l4 st (fun r204 u203 => ((r204 = 0 → zf_MO_forward_169 K B11 l1 l2 u203) ∧ (¬ r204 = 0 → zf_MO_change l2 15 0 0 2 u203 (fun r206 u205 => zf_MO_forward_169 K B11 (l1 + r206) l2 u205))))))))))
def zf_MO_forward_11_s (K : Int32 → zs_T → Prop) (B11 : Int32 → Int32 → zs_T → Prop) (l1 : Int32) (l2 : Int32) (st : zs_T) : Prop :=
  (((st.1 635 5) ≤ l2 → K l1 st) ∧ (¬ (st.1 635 5) ≤ l2 → (vp_in (200 + l2) 400 ∧ (vp_in (200 + l2) 400 ∧ (vp_in l2 201 ∧ (((st.1 643 l2.toNatClampNeg) = 0 → zf_MO_forward_121 K B11 l1 l2 (st.1 637 (200 + l2).toNatClampNeg) (st.1 638 (200 + l2).toNatClampNeg) st) ∧ (¬ (st.1 643 l2.toNatClampNeg) = 0 → (vp_in (200 + l2) 400 ∧ ((¬ (st.1 636 (200 + l2).toNatClampNeg) = 9 → zf_MO_forward_121 K B11 l1 l2 (st.1 637 (200 + l2).toNatClampNeg) (st.1 638 (200 + l2).toNatClampNeg) st) ∧ ((st.1 636 (200 + l2).toNatClampNeg) = 9 → ∃ n, zf_MO_forward_69 K B11 n l1 l2 (st.1 637 (200 + l2).toNatClampNeg) (st.1 638 (200 + l2).toNatClampNeg) 0 st))))))))))
def zf_MO_forward_11 (K : Int32 → zs_T → Prop) : Nat → Int32 → Int32 → zs_T → Prop
  | 0 => fun _ _ _ => False
  | n + 1 => zf_MO_forward_11_s K (zf_MO_forward_11 K n)
def zf_MO_forward  (st : zs_T) (K : Int32 → zs_T → Prop) : Prop :=
  zf_MO_find 200 st (fun u1 => ∃ n, zf_MO_forward_11 K n 0 0 u1)
def zf_MO_dead_95 (K : Int32 → zs_T → Prop) (B11 : Int32 → Int32 → zs_T → Prop) (l1 : Int32) (l2 : Int32) (st : zs_T) : Prop :=
  B11 l1 (l2 + 1) st
def zf_MO_dead_11_s (K : Int32 → zs_T → Prop) (B11 : Int32 → Int32 → zs_T → Prop) (l1 : Int32) (l2 : Int32) (st : zs_T) : Prop :=
  (((st.1 635 5) ≤ l2 → K l1 st) ∧ (¬ (st.1 635 5) ≤ l2 → (vp_in (200 + l2) 400 ∧ (vp_in l2 201 ∧ (((st.1 643 l2.toNatClampNeg) = 0 → zf_MO_dead_95 K B11 l1 l2 st) ∧ (¬ (st.1 643 l2.toNatClampNeg) = 0 → (vp_in (200 + l2) 400 ∧ ((¬ (st.1 636 (200 + l2).toNatClampNeg) = 10 → zf_MO_dead_95 K B11 l1 l2 st) ∧ ((st.1 636 (200 + l2).toNatClampNeg) = 10 → (vp_in ((16 * l2) + (st.1 637 (200 + l2).toNatClampNeg)) 3216 ∧ (((st.1 646 ((16 * l2) + (st.1 637 (200 + l2).toNatClampNeg)).toNatClampNeg) = 0 → zf_MO_dead_95 K B11 l1 l2 st) ∧ (¬ (st.1 646 ((16 * l2) + (st.1 637 (200 + l2).toNatClampNeg)).toNatClampNeg) = 0 → (vp_in ((16 * l2) + (st.1 637 (200 + l2).toNatClampNeg)) 3216 ∧ (((st.1 647 ((16 * l2) + (st.1 637 (200 + l2).toNatClampNeg)).toNatClampNeg) = 0 → zf_MO_dead_95 K B11 l1 l2 st) ∧ (¬ (st.1 647 ((16 * l2) + (st.1 637 (200 + l2).toNatClampNeg)).toNatClampNeg) = 0 → zf_MO_change l2 15 0 0 3 st (fun r107 u106 => zf_MO_dead_95 K B11 (l1 + r107) l2 u106))))))))))))))))
def zf_MO_dead_11 (K : Int32 → zs_T → Prop) : Nat → Int32 → Int32 → zs_T → Prop
  | 0 => fun _ _ _ => False
  | n + 1 => zf_MO_dead_11_s K (zf_MO_dead_11 K n)
def zf_MO_dead  (st : zs_T) (K : Int32 → zs_T → Prop) : Prop :=
  zf_MO_find 200 st (fun u1 => ∃ n, zf_MO_dead_11 K n 0 0 u1)
def zf_MO_thrift_121_s (K : Int32 → zs_T → Prop) (B121 : Int32 → Int32 → zs_T → Prop) (l1 : Int32) (l2 : Int32) (st : zs_T) : Prop :=
  ((l2 ≤ 0 → zf_MO_find 0 st (fun u301 => (∀ t302 : zs_T, t302 = zs_i u301 635 6 1 → K l1 t302))) ∧ (¬ l2 ≤ 0 → zf_MO_forward st (fun r304 u303 => zf_MO_dead u303 (fun r306 u305 => (∀ t307 : zs_T, t307 = zs_i u305 635 7 ((u305.1 635 7) + 1) → B121 (l1 + (r304 + r306)) (r304 + r306) t307)))))
def zf_MO_thrift_121 (K : Int32 → zs_T → Prop) : Nat → Int32 → Int32 → zs_T → Prop
  | 0 => fun _ _ _ => False
  | n + 1 => zf_MO_thrift_121_s K (zf_MO_thrift_121 K n)
def zf_MO_thrift_27_s (K : Int32 → zs_T → Prop) (B27 : Int32 → zs_T → Prop) (l1 : Int32) (st : zs_T) : Prop :=
  (((st.1 635 5) ≤ l1 → (∀ t201 : zs_T, t201 = zs_i st 635 7 0 → ∃ n, zf_MO_thrift_121 K n 0 1 t201)) ∧ (¬ (st.1 635 5) ≤ l1 → (vp_in l1 400 ∧ (vp_in (200 + l1) 400 ∧ (∀ t204 : zs_T, t204 = zs_i st 636 (200 + l1).toNatClampNeg (st.1 636 l1.toNatClampNeg) → (vp_in l1 400 ∧ (vp_in (200 + l1) 400 ∧ (∀ t207 : zs_T, t207 = zs_i t204 637 (200 + l1).toNatClampNeg (t204.1 637 l1.toNatClampNeg) → (vp_in l1 400 ∧ (vp_in (200 + l1) 400 ∧ (∀ t210 : zs_T, t210 = zs_i t207 638 (200 + l1).toNatClampNeg (t207.1 638 l1.toNatClampNeg) → (vp_in l1 400 ∧ (vp_in (200 + l1) 400 ∧ (∀ t213 : zs_T, t213 = zs_i t210 639 (200 + l1).toNatClampNeg (t210.1 639 l1.toNatClampNeg) → (vp_in l1 200 ∧ (∀ t215 : zs_T, t215 = zs_i t213 640 l1.toNatClampNeg 0 → B27 (l1 + 1) t215))))))))))))))))
def zf_MO_thrift_27 (K : Int32 → zs_T → Prop) : Nat → Int32 → zs_T → Prop
  | 0 => fun _ _ => False
  | n + 1 => zf_MO_thrift_27_s K (zf_MO_thrift_27 K n)
def zf_MO_thrift_13 (K : Int32 → zs_T → Prop) (s0 : Int32) (st : zs_T) : Prop :=
  (∀ t101 : zs_T, t101 = zs_i st 635 0 s0 → (((t101.1 635 0) ≤ 0 → ∃ n, zf_MO_thrift_27 K n 0 t101) ∧ (¬ (t101.1 635 0) ≤ 0 → K 0 t101)))
def zf_MO_thrift  (st : zs_T) (K : Int32 → zs_T → Prop) : Prop :=
  (((st.1 635 6) = 0 → zf_MO_thrift_13 K 0 st) ∧ (¬ (st.1 635 6) = 0 → zf_MO_thrift_13 K 1 st))
