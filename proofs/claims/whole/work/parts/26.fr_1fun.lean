/-! what the methods need and do, as pure predicates: by program (wip/whole/gen) -/
def zf_FR_freeBefore_57 (d1 : Nat) (K : Int32 → zs_T → Prop) (l2 : Int32) (l5 : Int32) (l6 : Int32) (l7 : Int32) (s0 : Int32) (st : zs_T) : Prop :=
  (vp_in l2 200 ∧ (((st.1 (d1 + 1) l2.toNatClampNeg) = 1 → ((¬ l6 = l7 → K (s0 ||| (((l5 >>> (l6 &&& 31)) &&& 1) <<< (l7 &&& 31))) st) ∧ (l6 = l7 → K s0 st))) ∧ (¬ (st.1 (d1 + 1) l2.toNatClampNeg) = 1 → (((st.1 (d1 + 1) l2.toNatClampNeg) = 9 → (vp_in l7 16 ∧ K (s0 &&& ((st.1 16 l7.toNatClampNeg) ^^^ (-1))) st)) ∧ (¬ (st.1 (d1 + 1) l2.toNatClampNeg) = 9 → (((st.1 (d1 + 1) l2.toNatClampNeg) = 10 → (vp_in l2 201 ∧ l2.toNatClampNeg < 201 ∧ (vp_in l6 16 ∧ K ((s0 ||| (st.1 (24 + 3 * l2.toNatClampNeg + 1) l6.toNatClampNeg)) ||| ((1 : Int32) <<< (l6 &&& 31))) st))) ∧ (¬ (st.1 (d1 + 1) l2.toNatClampNeg) = 10 → K s0 st)))))))
def zf_FR_freeBefore (d1 : Nat) (l2 : Int32) (st : zs_T) (K : Int32 → zs_T → Prop) : Prop :=
  (vp_in l2 201 ∧ ((¬ l2 = (st.1 d1 4) → (vp_in l2 200 ∧ (vp_in l2 200 ∧ zf_PR_setsFirst d1 l2 st (fun r5 u4 => ((r5 = 0 → zf_FR_freeBefore_57 d1 K l2 (st.1 628 l2.toNatClampNeg) (st.1 (d1 + 2) l2.toNatClampNeg) (st.1 (d1 + 3) l2.toNatClampNeg) (st.1 628 l2.toNatClampNeg) u4) ∧ (¬ r5 = 0 → zf_FR_freeBefore_57 d1 K l2 (st.1 628 l2.toNatClampNeg) (st.1 (d1 + 2) l2.toNatClampNeg) (st.1 (d1 + 3) l2.toNatClampNeg) ((st.1 628 l2.toNatClampNeg) &&& (((1 : Int32) <<< ((st.1 (d1 + 2) l2.toNatClampNeg) &&& 31)) ^^^ (-1))) u4)))))) ∧ (l2 = (st.1 d1 4) → K (st.1 628 l2.toNatClampNeg) st)))
def zf_FR_freeBeforeNext_32 (d1 : Nat) (K : Int32 → zs_T → Prop) (l2 : Int32) (l5 : Int32) (st : zs_T) : Prop :=
  zf_PR_target d1 l2 st (fun r102 u101 => ((r102 = (-1) → K l5 u101) ∧ (¬ r102 = (-1) → zf_FR_freeBefore d1 r102 u101 (fun r104 u103 => K (l5 &&& r104) u103))))
def zf_FR_freeBeforeNext (d1 : Nat) (l2 : Int32) (st : zs_T) (K : Int32 → zs_T → Prop) : Prop :=
  zf_PR_follower d1 l2 st (fun r2 u1 => ((r2 = (-1) → zf_FR_freeBeforeNext_32 d1 K l2 65535 u1) ∧ (¬ r2 = (-1) → zf_FR_freeBefore d1 r2 u1 (fun r4 u3 => zf_FR_freeBeforeNext_32 d1 K l2 (65535 &&& r4) u3))))
def zf_FR_find_40 (d1 : Nat) (K : zs_T → Prop) (B9 : Int32 → Int32 → zs_T → Prop) (l4 : Int32) (l5 : Int32) (s0 : Int32) (s1 : Int32) (st : zs_T) : Prop :=
  (vp_in s1 201 ∧ (∀ t302 : zs_T, t302 = zs_i st 628 s1.toNatClampNeg s0 → B9 l4 (l5 + 1) t302))
def zf_FR_find_184 (d1 : Nat) (K : zs_T → Prop) (B80 : Int32 → Int32 → Int32 → zs_T → Prop) (B103 : Int32 → Int32 → Int32 → Int32 → zs_T → Prop) (l4 : Int32) (l5 : Int32) (l6 : Int32) (l7 : Int32) (st : zs_T) : Prop :=
  B103 l4 l5 l6 (l7 + (-1)) st
def zf_FR_find_182 (d1 : Nat) (K : zs_T → Prop) (B80 : Int32 → Int32 → Int32 → zs_T → Prop) (B103 : Int32 → Int32 → Int32 → Int32 → zs_T → Prop) (l4 : Int32) (l6 : Int32) (l7 : Int32) (s0 : Int32) (st : zs_T) : Prop :=
  zf_FR_find_184 d1 K B80 B103 l4 s0 l6 l7 st
def zf_FR_find_177 (d1 : Nat) (K : zs_T → Prop) (B80 : Int32 → Int32 → Int32 → zs_T → Prop) (B103 : Int32 → Int32 → Int32 → Int32 → zs_T → Prop) (l4 : Int32) (l6 : Int32) (l7 : Int32) (st : zs_T) : Prop :=
  zf_FR_find_182 d1 K B80 B103 l4 l6 l7 1 st
def zf_FR_find_159 (d1 : Nat) (K : zs_T → Prop) (B80 : Int32 → Int32 → Int32 → zs_T → Prop) (B103 : Int32 → Int32 → Int32 → Int32 → zs_T → Prop) (l4 : Int32) (l5 : Int32) (l6 : Int32) (l7 : Int32) (l8 : Int32) (s0 : Int32) (s1 : Int32) (st : zs_T) : Prop :=
  (vp_in s1 201 ∧ (∀ t702 : zs_T, t702 = zs_i st 628 s1.toNatClampNeg s0 → ((¬ l5 = 0 → zf_FR_find_177 d1 K B80 B103 l4 l6 l7 t702) ∧ (l5 = 0 → (vp_in l7 201 ∧ (((t702.1 628 l7.toNatClampNeg) = l8 → zf_FR_find_182 d1 K B80 B103 l4 l6 l7 0 t702) ∧ (¬ (t702.1 628 l7.toNatClampNeg) = l8 → zf_FR_find_177 d1 K B80 B103 l4 l6 l7 t702)))))))
def zf_FR_find_103_s (d1 : Nat) (K : zs_T → Prop) (B80 : Int32 → Int32 → Int32 → zs_T → Prop) (B103 : Int32 → Int32 → Int32 → Int32 → zs_T → Prop) (l4 : Int32) (l5 : Int32) (l6 : Int32) (l7 : Int32) (st : zs_T) : Prop :=
  ((l7 < 0 → B80 l4 l5 (l6 + 1) st) ∧ (¬ l7 < 0 → (vp_in l7 201 ∧ (((st.1 19 l7.toNatClampNeg) = 0 → zf_FR_find_184 d1 K B80 B103 l4 l5 l6 l7 st) ∧ (¬ (st.1 19 l7.toNatClampNeg) = 0 → (vp_in l7 201 ∧ (vp_in l7 200 ∧ ((¬ (st.1 (d1 + 1) l7.toNatClampNeg) = 14 → zf_FR_freeBeforeNext d1 l7 st (fun r505 u504 => zf_FR_find_159 d1 K B80 B103 l4 l5 l6 l7 (st.1 628 l7.toNatClampNeg) r505 l7 u504)) ∧ ((st.1 (d1 + 1) l7.toNatClampNeg) = 14 → zf_FR_find_159 d1 K B80 B103 l4 l5 l6 l7 (st.1 628 l7.toNatClampNeg) l4 l7 st)))))))))
def zf_FR_find_103 (d1 : Nat) (K : zs_T → Prop) (B80 : Int32 → Int32 → Int32 → zs_T → Prop) : Nat → Int32 → Int32 → Int32 → Int32 → zs_T → Prop
  | 0 => fun _ _ _ _ _ => False
  | n + 1 => zf_FR_find_103_s d1 K B80 (zf_FR_find_103 d1 K B80 n)
def zf_FR_find_80_s (d1 : Nat) (K : zs_T → Prop) (B80 : Int32 → Int32 → Int32 → zs_T → Prop) (l4 : Int32) (l5 : Int32) (l6 : Int32) (st : zs_T) : Prop :=
  ((l5 = 0 → K st) ∧ (¬ l5 = 0 → ((1000000 ≤ l6 → K st) ∧ (¬ 1000000 ≤ l6 → ∃ n, zf_FR_find_103 d1 K B80 n l4 0 l6 ((st.1 d1 4) - 1) st))))
def zf_FR_find_80 (d1 : Nat) (K : zs_T → Prop) : Nat → Int32 → Int32 → Int32 → zs_T → Prop
  | 0 => fun _ _ _ _ => False
  | n + 1 => zf_FR_find_80_s d1 K (zf_FR_find_80 d1 K n)
def zf_FR_find_73 (d1 : Nat) (K : zs_T → Prop) (l4 : Int32) (s0 : Int32) (s1 : Int32) (st : zs_T) : Prop :=
  (vp_in s1 201 ∧ (∀ t202 : zs_T, t202 = zs_i st 628 s1.toNatClampNeg s0 → ∃ n, zf_FR_find_80 d1 K n l4 1 0 t202))
def zf_FR_find_9_s (d1 : Nat) (K : zs_T → Prop) (B9 : Int32 → Int32 → zs_T → Prop) (l4 : Int32) (l5 : Int32) (st : zs_T) : Prop :=
  (((st.1 d1 4) ≤ l5 → (vp_in (st.1 d1 4) 201 ∧ (((st.1 19 (st.1 d1 4).toNatClampNeg) = 0 → zf_FR_find_73 d1 K l4 0 (st.1 d1 4) st) ∧ (¬ (st.1 19 (st.1 d1 4).toNatClampNeg) = 0 → zf_FR_find_73 d1 K l4 l4 (st.1 d1 4) st)))) ∧ (¬ (st.1 d1 4) ≤ l5 → (vp_in l5 201 ∧ (((st.1 19 l5.toNatClampNeg) = 0 → zf_FR_find_40 d1 K B9 l4 l5 0 l5 st) ∧ (¬ (st.1 19 l5.toNatClampNeg) = 0 → zf_FR_find_40 d1 K B9 l4 l5 65535 l5 st)))))
def zf_FR_find_9 (d1 : Nat) (K : zs_T → Prop) : Nat → Int32 → Int32 → zs_T → Prop
  | 0 => fun _ _ _ => False
  | n + 1 => zf_FR_find_9_s d1 K (zf_FR_find_9 d1 K n)
def zf_FR_find (d1 : Nat) (st : zs_T) (K : zs_T → Prop) : Prop :=
  ∃ n, zf_FR_find_9 d1 K n (st.1 12 5) 0 st
def zf_FR_isFreeBehind (l1 : Int32) (l2 : Int32) (st : zs_T) (K : Int32 → zs_T → Prop) : Prop :=
  (vp_in l1 201 ∧ (((((st.1 628 l1.toNatClampNeg) >>> (l2 &&& 31)) &&& 1) = 0 → K 0 st) ∧ (¬ (((st.1 628 l1.toNatClampNeg) >>> (l2 &&& 31)) &&& 1) = 0 → K 1 st)))
