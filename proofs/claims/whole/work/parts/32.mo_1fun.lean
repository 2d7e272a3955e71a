/-! what the methods need and do, as pure predicates: by program (wip/whole/gen) -/
def zf_MO_put (l1 : Int32) (l2 : Int32) (l3 : Int32) (st : zs_T) (K : zs_T → Prop) : Prop :=
  (vp_in l1 16 ∧ (∀ t2 : zs_T, t2 = zs_i st 651 l1.toNatClampNeg l2 → (vp_in l1 16 ∧ (∀ t4 : zs_T, t4 = zs_i t2 652 l1.toNatClampNeg l3 → K t4))))
def zf_MO_make_48_s (K : zs_T → Prop) (B48 : Int32 → Int32 → Int32 → zs_T → Prop) (l1 : Int32) (l2 : Int32) (l4 : Int32) (st : zs_T) : Prop :=
  ((l2 ≤ l4 → zf_MO_put l1 (st.1 635 26) 0 st (fun u201 => (∀ t202 : zs_T, t202 = zs_i u201 635 26 ((u201.1 635 26) + 1) → K t202))) ∧ (¬ l2 ≤ l4 → (vp_in ((16 * (st.1 635 26)) + l4) 4800 ∧ (∀ t204 : zs_T, t204 = zs_i st 653 ((16 * (st.1 635 26)) + l4).toNatClampNeg (-1) → (vp_in ((16 * (t204.1 635 26)) + l4) 4800 ∧ (∀ t206 : zs_T, t206 = zs_i t204 654 ((16 * (t204.1 635 26)) + l4).toNatClampNeg 0 → B48 l1 l2 (l4 + 1) t206))))))
def zf_MO_make_48 (K : zs_T → Prop) : Nat → Int32 → Int32 → Int32 → zs_T → Prop
  | 0 => fun _ _ _ _ => False
  | n + 1 => zf_MO_make_48_s K (zf_MO_make_48 K n)
def zf_MO_make_44 (K : zs_T → Prop) (l1 : Int32) (l2 : Int32) (s0 : Int32) (s1 : Int32) (st : zs_T) : Prop :=
  (vp_in s1 300 ∧ (∀ t102 : zs_T, t102 = zs_i st 656 s1.toNatClampNeg (vp_nar .boolean s0) → ∃ n, zf_MO_make_48 K n l1 l2 0 t102))
def zf_MO_make (l1 : Int32) (l2 : Int32) (l3 : Int32) (st : zs_T) (K : zs_T → Prop) : Prop :=
  ((¬ (st.1 635 26) = 300 → (vp_in (st.1 635 26) 300 ∧ (∀ t2 : zs_T, t2 = zs_i st 655 (st.1 635 26).toNatClampNeg l2 → ((¬ l3 = 1 → zf_MO_make_44 K l1 l2 0 (t2.1 635 26) t2) ∧ (l3 = 1 → zf_MO_make_44 K l1 l2 1 (t2.1 635 26) t2))))) ∧ ((st.1 635 26) = 300 → (∀ t3 : zs_T, t3 = zs_i st 635 30 3 → K t3)))
def zf_MO_printNumber_27 (K : zs_T → Prop) (l2 : Int32) (s0 : Int32) (st : zs_T) : Prop :=
  (∀ t101 : zs_T, t101 = zs_i st 635 30 s0 → (((t101.1 635 30) = (-1) → (vp_in (t101.1 635 28) 200 ∧ (∀ t103 : zs_T, t103 = zs_i t101 657 (t101.1 635 28).toNatClampNeg l2 → (∀ t104 : zs_T, t104 = zs_i t103 635 28 ((t103.1 635 28) + 1) → K t104)))) ∧ (¬ (t101.1 635 30) = (-1) → K t101)))
def zf_MO_printNumber (l1 : Int32) (l2 : Int32) (st : zs_T) (K : zs_T → Prop) : Prop :=
  ((l1 = 0 → ((¬ (st.1 635 28) = 200 → zf_MO_printNumber_27 K l2 (st.1 635 30) st) ∧ ((st.1 635 28) = 200 → zf_MO_printNumber_27 K l2 3 st))) ∧ (¬ l1 = 0 → zf_MO_printNumber_27 K l2 1 st))
def zf_MO_step_579 (K : Int32 → zs_T → Prop) (l1 : Int32) (l2 : Int32) (l3 : Int32) (l5 : Int32) (st : zs_T) : Prop :=
  ((¬ l5 = 12 → ((¬ l5 = 13 → K (l1 + 1) st) ∧ (l5 = 13 → (vp_in l2 16 ∧ (((st.1 652 l2.toNatClampNeg) = 0 → K (l1 + 1) st) ∧ (¬ (st.1 652 l2.toNatClampNeg) = 0 → K l3 st)))))) ∧ (l5 = 12 → K l2 st))
def zf_MO_step_567 (K : Int32 → zs_T → Prop) (l1 : Int32) (l2 : Int32) (l3 : Int32) (l5 : Int32) (st : zs_T) : Prop :=
  ((¬ l5 = 14 → zf_MO_step_579 K l1 l2 l3 l5 st) ∧ (l5 = 14 → (∀ t1601 : zs_T, t1601 = zs_i st 635 30 0 → zf_MO_step_579 K l1 l2 l3 l5 t1601)))
def zf_MO_step_545 (K : Int32 → zs_T → Prop) (l1 : Int32) (l2 : Int32) (l3 : Int32) (l5 : Int32) (st : zs_T) : Prop :=
  ((¬ l5 = 13 → zf_MO_step_567 K l1 l2 l3 l5 st) ∧ (l5 = 13 → (vp_in l2 16 ∧ (((st.1 651 l2.toNatClampNeg) = (-1) → zf_MO_step_567 K l1 l2 l3 l5 st) ∧ (¬ (st.1 651 l2.toNatClampNeg) = (-1) → (∀ t1402 : zs_T, t1402 = zs_i st 635 30 1 → zf_MO_step_567 K l1 l2 l3 l5 t1402))))))
def zf_MO_step_536 (K : Int32 → zs_T → Prop) (l1 : Int32) (l2 : Int32) (l3 : Int32) (l5 : Int32) (s0 : Int32) (st : zs_T) : Prop :=
  (vp_in l2 16 ∧ zf_MO_printNumber s0 (st.1 652 l2.toNatClampNeg) st (fun u1502 => zf_MO_step_545 K l1 l2 l3 l5 u1502))
def zf_MO_step_513 (K : Int32 → zs_T → Prop) (l1 : Int32) (l2 : Int32) (l3 : Int32) (l5 : Int32) (st : zs_T) : Prop :=
  ((¬ l5 = 11 → zf_MO_step_545 K l1 l2 l3 l5 st) ∧ (l5 = 11 → (vp_in l2 16 ∧ (((st.1 651 l2.toNatClampNeg) = (-1) → zf_MO_step_536 K l1 l2 l3 l5 0 st) ∧ (¬ (st.1 651 l2.toNatClampNeg) = (-1) → zf_MO_step_536 K l1 l2 l3 l5 1 st)))))
def zf_MO_step_434 (K : Int32 → zs_T → Prop) (l1 : Int32) (l2 : Int32) (l3 : Int32) (l5 : Int32) (st : zs_T) : Prop :=
  ((¬ l5 = 10 → zf_MO_step_513 K l1 l2 l3 l5 st) ∧ (l5 = 10 → (vp_in l2 16 ∧ ((¬ (st.1 651 l2.toNatClampNeg) = (-1) → (vp_in l2 16 ∧ (vp_in l2 16 ∧ (vp_in l3 16 ∧ (vp_in ((16 * (st.1 651 l2.toNatClampNeg)) + (st.1 652 l2.toNatClampNeg)) 4800 ∧ (∀ t1206 : zs_T, t1206 = zs_i st 653 ((16 * (st.1 651 l2.toNatClampNeg)) + (st.1 652 l2.toNatClampNeg)).toNatClampNeg (st.1 651 l3.toNatClampNeg) → (vp_in l2 16 ∧ (vp_in l2 16 ∧ (vp_in l3 16 ∧ (vp_in ((16 * (t1206.1 651 l2.toNatClampNeg)) + (t1206.1 652 l2.toNatClampNeg)) 4800 ∧ (∀ t1211 : zs_T, t1211 = zs_i t1206 654 ((16 * (t1206.1 651 l2.toNatClampNeg)) + (t1206.1 652 l2.toNatClampNeg)).toNatClampNeg (t1206.1 652 l3.toNatClampNeg) → zf_MO_step_513 K l1 l2 l3 l5 t1211))))))))))) ∧ ((st.1 651 l2.toNatClampNeg) = (-1) → (∀ t1212 : zs_T, t1212 = zs_i st 635 30 1 → zf_MO_step_513 K l1 l2 l3 l5 t1212))))))
def zf_MO_step_362 (K : Int32 → zs_T → Prop) (l1 : Int32) (l2 : Int32) (l3 : Int32) (l5 : Int32) (st : zs_T) : Prop :=
  ((¬ l5 = 9 → zf_MO_step_434 K l1 l2 l3 l5 st) ∧ (l5 = 9 → (vp_in l3 16 ∧ ((¬ (st.1 651 l3.toNatClampNeg) = (-1) → (vp_in l3 16 ∧ (vp_in l3 16 ∧ (vp_in ((16 * (st.1 651 l3.toNatClampNeg)) + (st.1 652 l3.toNatClampNeg)) 4800 ∧ (vp_in l3 16 ∧ (vp_in l3 16 ∧ (vp_in ((16 * (st.1 651 l3.toNatClampNeg)) + (st.1 652 l3.toNatClampNeg)) 4800 ∧ zf_MO_put l2 (st.1 653 ((16 * (st.1 651 l3.toNatClampNeg)) + (st.1 652 l3.toNatClampNeg)).toNatClampNeg) (st.1 654 ((16 * (st.1 651 l3.toNatClampNeg)) + (st.1 652 l3.toNatClampNeg)).toNatClampNeg) st (fun u1108 => zf_MO_step_434 K l1 l2 l3 l5 u1108)))))))) ∧ ((st.1 651 l3.toNatClampNeg) = (-1) → (∀ t1109 : zs_T, t1109 = zs_i st 635 30 1 → zf_MO_step_434 K l1 l2 l3 l5 t1109))))))
def zf_MO_step_347 (K : Int32 → zs_T → Prop) (l1 : Int32) (l2 : Int32) (l3 : Int32) (l4 : Int32) (l5 : Int32) (st : zs_T) : Prop :=
  ((¬ l5 = 8 → zf_MO_step_362 K l1 l2 l3 l5 st) ∧ (l5 = 8 → zf_MO_make l2 l3 l4 st (fun u901 => zf_MO_step_362 K l1 l2 l3 l5 u901)))
def zf_MO_step_325 (K : Int32 → zs_T → Prop) (l1 : Int32) (l2 : Int32) (l3 : Int32) (l4 : Int32) (l5 : Int32) (st : zs_T) : Prop :=
  (∀ t1001 : zs_T, t1001 = zs_i st 635 30 1 → zf_MO_step_347 K l1 l2 l3 l4 l5 t1001)
def zf_MO_step_254 (K : Int32 → zs_T → Prop) (l1 : Int32) (l2 : Int32) (l3 : Int32) (l4 : Int32) (l5 : Int32) (st : zs_T) : Prop :=
  ((¬ l5 = 7 → zf_MO_step_347 K l1 l2 l3 l4 l5 st) ∧ (l5 = 7 → (vp_in l3 16 ∧ (vp_in l4 16 ∧ (vp_in l3 16 ∧ (((st.1 651 l3.toNatClampNeg) = (-1) → zf_MO_step_325 K l1 l2 l3 l4 l5 st) ∧ (¬ (st.1 651 l3.toNatClampNeg) = (-1) → (vp_in l4 16 ∧ ((¬ (st.1 651 l4.toNatClampNeg) = (-1) → zf_MO_step_325 K l1 l2 l3 l4 l5 st) ∧ ((st.1 651 l4.toNatClampNeg) = (-1) → (((lg_cmp (((st.1 652 l3.toNatClampNeg).toInt64) + ((st.1 652 l4.toNatClampNeg).toInt64)) 0) < 0 → zf_MO_step_325 K l1 l2 l3 l4 l5 st) ∧ (¬ (lg_cmp (((st.1 652 l3.toNatClampNeg).toInt64) + ((st.1 652 l4.toNatClampNeg).toInt64)) 0) < 0 → (vp_in l3 16 ∧ (vp_in (st.1 651 l3.toNatClampNeg) 300 ∧ (((lg_cmp (((st.1 652 l3.toNatClampNeg).toInt64) + ((st.1 652 l4.toNatClampNeg).toInt64)) ((st.1 655 (st.1 651 l3.toNatClampNeg).toNatClampNeg).toInt64)) < 0 → (vp_in l3 16 ∧ zf_MO_put l2 (st.1 651 l3.toNatClampNeg) ((((st.1 652 l3.toNatClampNeg).toInt64) + ((st.1 652 l4.toNatClampNeg).toInt64)).toInt32) st (fun u608 => zf_MO_step_347 K l1 l2 l3 l4 l5 u608))) ∧ (¬ (lg_cmp (((st.1 652 l3.toNatClampNeg).toInt64) + ((st.1 652 l4.toNatClampNeg).toInt64)) ((st.1 655 (st.1 651 l3.toNatClampNeg).toNatClampNeg).toInt64)) < 0 → zf_MO_step_325 K l1 l2 l3 l4 l5 st))))))))))))))))
def zf_MO_step_251 (K : Int32 → zs_T → Prop) (l1 : Int32) (l2 : Int32) (l3 : Int32) (l4 : Int32) (l5 : Int32) (s0 : Int32) (s1 : Int32) (s2 : Int32) (st : zs_T) : Prop :=
  zf_MO_put s2 s1 s0 st (fun u801 => zf_MO_step_254 K l1 l2 l3 l4 l5 u801)
def zf_MO_step_250 (K : Int32 → zs_T → Prop) (l1 : Int32) (l2 : Int32) (l3 : Int32) (l4 : Int32) (l5 : Int32) (s0 : Int32) (s1 : Int32) (st : zs_T) : Prop :=
  zf_MO_step_251 K l1 l2 l3 l4 l5 0 s0 s1 st
def zf_MO_step_204 (K : Int32 → zs_T → Prop) (l1 : Int32) (l2 : Int32) (l3 : Int32) (l4 : Int32) (l5 : Int32) (st : zs_T) : Prop :=
  ((¬ l5 = 6 → zf_MO_step_254 K l1 l2 l3 l4 l5 st) ∧ (l5 = 6 → (vp_in l3 16 ∧ (vp_in l4 16 ∧ ((¬ (st.1 651 l3.toNatClampNeg) = (st.1 651 l4.toNatClampNeg) → zf_MO_step_250 K l1 l2 l3 l4 l5 (-1) l2 st) ∧ ((st.1 651 l3.toNatClampNeg) = (st.1 651 l4.toNatClampNeg) → (vp_in l3 16 ∧ (vp_in l4 16 ∧ ((¬ (st.1 652 l3.toNatClampNeg) = (st.1 652 l4.toNatClampNeg) → zf_MO_step_250 K l1 l2 l3 l4 l5 (-1) l2 st) ∧ ((st.1 652 l3.toNatClampNeg) = (st.1 652 l4.toNatClampNeg) → zf_MO_step_251 K l1 l2 l3 l4 l5 1 (-1) l2 st))))))))))
def zf_MO_step_136 (K : Int32 → zs_T → Prop) (l1 : Int32) (l2 : Int32) (l3 : Int32) (l4 : Int32) (l5 : Int32) (st : zs_T) : Prop :=
  (∀ t401 : zs_T, t401 = zs_i st 635 30 1 → zf_MO_step_204 K l1 l2 l3 l4 l5 t401)
def zf_MO_step_201 (K : Int32 → zs_T → Prop) (l1 : Int32) (l2 : Int32) (l3 : Int32) (l4 : Int32) (l5 : Int32) (s0 : Int32) (s1 : Int32) (s2 : Int32) (st : zs_T) : Prop :=
  zf_MO_put s2 s1 s0 st (fun u501 => zf_MO_step_204 K l1 l2 l3 l4 l5 u501)
def zf_MO_step_85 (K : Int32 → zs_T → Prop) (l1 : Int32) (l2 : Int32) (l3 : Int32) (l4 : Int32) (l5 : Int32) (st : zs_T) : Prop :=
  ((l5 ≤ 1 → zf_MO_step_204 K l1 l2 l3 l4 l5 st) ∧ (¬ l5 ≤ 1 → ((6 ≤ l5 → zf_MO_step_204 K l1 l2 l3 l4 l5 st) ∧ (¬ 6 ≤ l5 → (vp_in l3 16 ∧ (vp_in l4 16 ∧ (vp_in l3 16 ∧ ((¬ (st.1 651 l3.toNatClampNeg) = (-1) → zf_MO_step_136 K l1 l2 l3 l4 l5 st) ∧ ((st.1 651 l3.toNatClampNeg) = (-1) → (vp_in l4 16 ∧ (((st.1 651 l4.toNatClampNeg) = (-1) → ((¬ l5 = 2 → ((¬ l5 = 3 → ((¬ l5 = 4 → (((st.1 652 l4.toNatClampNeg) ≤ (st.1 652 l3.toNatClampNeg) → zf_MO_step_201 K l1 l2 l3 l4 l5 0 (-1) l2 st) ∧ (¬ (st.1 652 l4.toNatClampNeg) ≤ (st.1 652 l3.toNatClampNeg) → zf_MO_step_201 K l1 l2 l3 l4 l5 1 (-1) l2 st))) ∧ (l5 = 4 → zf_MO_step_201 K l1 l2 l3 l4 l5 ((st.1 652 l3.toNatClampNeg) * (st.1 652 l4.toNatClampNeg)) (-1) l2 st))) ∧ (l5 = 3 → zf_MO_step_201 K l1 l2 l3 l4 l5 ((st.1 652 l3.toNatClampNeg) - (st.1 652 l4.toNatClampNeg)) (-1) l2 st))) ∧ (l5 = 2 → zf_MO_step_201 K l1 l2 l3 l4 l5 ((st.1 652 l3.toNatClampNeg) + (st.1 652 l4.toNatClampNeg)) (-1) l2 st))) ∧ (¬ (st.1 651 l4.toNatClampNeg) = (-1) → zf_MO_step_136 K l1 l2 l3 l4 l5 st))))))))))))
def zf_MO_step_62 (K : Int32 → zs_T → Prop) (l1 : Int32) (l2 : Int32) (l3 : Int32) (l4 : Int32) (l5 : Int32) (st : zs_T) : Prop :=
  ((¬ l5 = 1 → zf_MO_step_85 K l1 l2 l3 l4 l5 st) ∧ (l5 = 1 → (vp_in l3 16 ∧ (vp_in l3 16 ∧ zf_MO_put l2 (st.1 651 l3.toNatClampNeg) (st.1 652 l3.toNatClampNeg) st (fun u103 => zf_MO_step_85 K l1 l2 l3 l4 l5 u103)))))
def zf_MO_step (l1 : Int32) (st : zs_T) (K : Int32 → zs_T → Prop) : Prop :=
  (vp_in ((st.1 635 9) + l1) 400 ∧ (vp_in ((st.1 635 9) + l1) 400 ∧ (vp_in ((st.1 635 9) + l1) 400 ∧ (vp_in ((st.1 635 9) + l1) 400 ∧ ((¬ (st.1 636 ((st.1 635 9) + l1).toNatClampNeg) = 0 → zf_MO_step_62 K l1 (st.1 637 ((st.1 635 9) + l1).toNatClampNeg) (st.1 638 ((st.1 635 9) + l1).toNatClampNeg) (st.1 639 ((st.1 635 9) + l1).toNatClampNeg) (st.1 636 ((st.1 635 9) + l1).toNatClampNeg) st) ∧ ((st.1 636 ((st.1 635 9) + l1).toNatClampNeg) = 0 → zf_MO_put (st.1 637 ((st.1 635 9) + l1).toNatClampNeg) (-1) (st.1 638 ((st.1 635 9) + l1).toNatClampNeg) st (fun u5 => zf_MO_step_62 K l1 (st.1 637 ((st.1 635 9) + l1).toNatClampNeg) (st.1 638 ((st.1 635 9) + l1).toNatClampNeg) (st.1 639 ((st.1 635 9) + l1).toNatClampNeg) (st.1 636 ((st.1 635 9) + l1).toNatClampNeg) u5)))))))
def zf_MO_run_103_s (K : Int32 → zs_T → Prop) (B103 : Int32 → Int32 → zs_T → Prop) (l2 : Int32) (l3 : Int32) (st : zs_T) : Prop :=
  ((¬ (st.1 635 30) = (-1) → K (st.1 635 30) st) ∧ ((st.1 635 30) = (-1) → ((l3 < (st.1 635 5) → ((¬ (st.1 635 29) = l2 → (∀ t601 : zs_T, t601 = zs_i st 635 29 ((st.1 635 29) + 1) → zf_MO_step l3 t601 (fun r603 u602 => B103 l2 r603 u602))) ∧ ((st.1 635 29) = l2 → (∀ t604 : zs_T, t604 = zs_i st 635 30 2 → B103 l2 l3 t604)))) ∧ (¬ l3 < (st.1 635 5) → (∀ t605 : zs_T, t605 = zs_i st 635 30 0 → B103 l2 l3 t605)))))
def zf_MO_run_103 (K : Int32 → zs_T → Prop) : Nat → Int32 → Int32 → zs_T → Prop
  | 0 => fun _ _ _ => False
  | n + 1 => zf_MO_run_103_s K (zf_MO_run_103 K n)
def zf_MO_run_62_s (K : Int32 → zs_T → Prop) (B62 : Int32 → Int32 → zs_T → Prop) (l2 : Int32) (l3 : Int32) (st : zs_T) : Prop :=
  ((16 ≤ l3 → (∀ t501 : zs_T, t501 = zs_i st 635 26 0 → (∀ t502 : zs_T, t502 = zs_i t501 635 28 0 → (∀ t503 : zs_T, t503 = zs_i t502 635 29 0 → (∀ t504 : zs_T, t504 = zs_i t503 635 30 (-1) → ∃ n, zf_MO_run_103 K n l2 0 t504))))) ∧ (¬ 16 ≤ l3 → zf_MO_put l3 (-1) 0 st (fun u505 => B62 l2 (l3 + 1) u505)))
def zf_MO_run_62 (K : Int32 → zs_T → Prop) : Nat → Int32 → Int32 → zs_T → Prop
  | 0 => fun _ _ _ => False
  | n + 1 => zf_MO_run_62_s K (zf_MO_run_62 K n)
def zf_MO_run_57 (K : Int32 → zs_T → Prop) (l2 : Int32) (s0 : Int32) (st : zs_T) : Prop :=
  (∀ t401 : zs_T, t401 = zs_i st 635 9 s0 → ∃ n, zf_MO_run_62 K n l2 0 t401)
def zf_MO_run_33 (K : Int32 → zs_T → Prop) (l1 : Int32) (l2 : Int32) (s0 : Int32) (st : zs_T) : Prop :=
  (∀ t301 : zs_T, t301 = zs_i st 635 0 s0 → (((t301.1 635 0) ≤ 0 → ((l1 = 0 → zf_MO_run_57 K l2 200 t301) ∧ (¬ l1 = 0 → zf_MO_run_57 K l2 0 t301))) ∧ (¬ (t301.1 635 0) ≤ 0 → K 0 t301)))
def zf_MO_run_13 (K : Int32 → zs_T → Prop) (l1 : Int32) (l2 : Int32) (st : zs_T) : Prop :=
  zf_MO_run_33 K l1 l2 1 st
def zf_MO_run_32 (K : Int32 → zs_T → Prop) (l1 : Int32) (l2 : Int32) (st : zs_T) : Prop :=
  zf_MO_run_33 K l1 l2 0 st
def zf_MO_run (l1 : Int32) (l2 : Int32) (st : zs_T) (K : Int32 → zs_T → Prop) : Prop :=
  ((l2 < 1 → zf_MO_run_13 K l1 l2 st) ∧ (¬ l2 < 1 → ((l2 ≤ 5000 → ((¬ l1 = 0 → zf_MO_run_32 K l1 l2 st) ∧ (l1 = 0 → ((¬ (st.1 635 6) = 0 → zf_MO_run_32 K l1 l2 st) ∧ ((st.1 635 6) = 0 → zf_MO_run_33 K l1 l2 2 st))))) ∧ (¬ l2 ≤ 5000 → zf_MO_run_13 K l1 l2 st))))
