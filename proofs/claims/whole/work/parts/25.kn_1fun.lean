/-! what the methods need and do, as pure predicates: by program (wip/whole/gen) -/
def zf_KN_begin_2_s (K : zs_T → Prop) (B2 : Int32 → zs_T → Prop) (l1 : Int32) (st : zs_T) : Prop :=
  ((201 ≤ l1 → (vp_in 0 201 ∧ (∀ t102 : zs_T, t102 = zs_i st 19 (0 : Int32).toNatClampNeg (vp_nar .boolean 1) → (vp_in 0 201 ∧ (∀ t104 : zs_T, t104 = zs_i t102 20 (0 : Int32).toNatClampNeg (vp_nar .boolean 1) → (vp_in 0 201 ∧ (0 : Int32).toNatClampNeg < 201 ∧ zf_FA_begin (24 + 3 * (0 : Int32).toNatClampNeg) t104 (fun u107 => K u107))))))) ∧ (¬ 201 ≤ l1 → (vp_in l1 201 ∧ (∀ t109 : zs_T, t109 = zs_i st 19 l1.toNatClampNeg (vp_nar .boolean 0) → (vp_in l1 201 ∧ (∀ t111 : zs_T, t111 = zs_i t109 20 l1.toNatClampNeg (vp_nar .boolean 0) → B2 (l1 + 1) t111))))))
def zf_KN_begin_2 (K : zs_T → Prop) : Nat → Int32 → zs_T → Prop
  | 0 => fun _ _ => False
  | n + 1 => zf_KN_begin_2_s K (zf_KN_begin_2 K n)
def zf_KN_begin  (st : zs_T) (K : zs_T → Prop) : Prop :=
  ∃ n, zf_KN_begin_2 K n 0 st
def zf_KN_flowTo (l1 : Int32) (st : zs_T) (K : zs_T → Prop) : Prop :=
  ((¬ l1 = (-1) → (vp_in l1 201 ∧ ((¬ (st.1 19 l1.toNatClampNeg) = 0 → (vp_in l1 201 ∧ l1.toNatClampNeg < 201 ∧ zf_FA_keepCommon (24 + 3 * l1.toNatClampNeg) 21 st (fun r5 u4 => ((r5 = 0 → K u4) ∧ (¬ r5 = 0 → (vp_in l1 201 ∧ (∀ t7 : zs_T, t7 = zs_i u4 20 l1.toNatClampNeg (vp_nar .boolean 1) → K t7))))))) ∧ ((st.1 19 l1.toNatClampNeg) = 0 → (vp_in l1 201 ∧ (∀ t9 : zs_T, t9 = zs_i st 19 l1.toNatClampNeg (vp_nar .boolean 1) → (vp_in l1 201 ∧ (∀ t11 : zs_T, t11 = zs_i t9 20 l1.toNatClampNeg (vp_nar .boolean 1) → (vp_in l1 201 ∧ l1.toNatClampNeg < 201 ∧ zf_FA_copy (24 + 3 * l1.toNatClampNeg) 21 t11 (fun u14 => K u14)))))))))) ∧ (l1 = (-1) → K st))
def zf_KN_find_102 (d1 : Nat) (K : zs_T → Prop) (B9 : Int32 → Int32 → zs_T → Prop) (B25 : Int32 → Int32 → Int32 → zs_T → Prop) (l3 : Int32) (l4 : Int32) (l5 : Int32) (st : zs_T) : Prop :=
  B25 l3 l4 (l5 + 1) st
def zf_KN_find_25_s (d1 : Nat) (K : zs_T → Prop) (B9 : Int32 → Int32 → zs_T → Prop) (B25 : Int32 → Int32 → Int32 → zs_T → Prop) (l3 : Int32) (l4 : Int32) (l5 : Int32) (st : zs_T) : Prop :=
  (((st.1 d1 4) ≤ l5 → B9 l3 (l4 + 1) st) ∧ (¬ (st.1 d1 4) ≤ l5 → (vp_in l5 201 ∧ (((st.1 20 l5.toNatClampNeg) = 0 → zf_KN_find_102 d1 K B9 B25 l3 l4 l5 st) ∧ (¬ (st.1 20 l5.toNatClampNeg) = 0 → (vp_in l5 201 ∧ (∀ t203 : zs_T, t203 = zs_i st 20 l5.toNatClampNeg (vp_nar .boolean 0) → (vp_in l5 201 ∧ l5.toNatClampNeg < 201 ∧ zf_FA_copy 21 (24 + 3 * l5.toNatClampNeg) t203 (fun u206 => zf_FA_pass 21 d1 l5 u206 (fun u207 => zf_PR_follower d1 l5 u207 (fun r209 u208 => zf_KN_flowTo r209 u208 (fun u210 => zf_PR_target d1 l5 u210 (fun r212 u211 => zf_KN_flowTo r212 u211 (fun u213 => zf_KN_find_102 d1 K B9 B25 1 l4 l5 u213))))))))))))))
def zf_KN_find_25 (d1 : Nat) (K : zs_T → Prop) (B9 : Int32 → Int32 → zs_T → Prop) : Nat → Int32 → Int32 → Int32 → zs_T → Prop
  | 0 => fun _ _ _ _ => False
  | n + 1 => zf_KN_find_25_s d1 K B9 (zf_KN_find_25 d1 K B9 n)
def zf_KN_find_9_s (d1 : Nat) (K : zs_T → Prop) (B9 : Int32 → Int32 → zs_T → Prop) (l3 : Int32) (l4 : Int32) (st : zs_T) : Prop :=
  ((l3 = 0 → K st) ∧ (¬ l3 = 0 → ((1000000 ≤ l4 → K st) ∧ (¬ 1000000 ≤ l4 → ∃ n, zf_KN_find_25 d1 K B9 n 0 l4 0 st))))
def zf_KN_find_9 (d1 : Nat) (K : zs_T → Prop) : Nat → Int32 → Int32 → zs_T → Prop
  | 0 => fun _ _ _ => False
  | n + 1 => zf_KN_find_9_s d1 K (zf_KN_find_9 d1 K n)
def zf_KN_find (d1 : Nat) (st : zs_T) (K : zs_T → Prop) : Prop :=
  zf_KN_begin st (fun u1 => ∃ n, zf_KN_find_9 d1 K n 1 0 u1)
def zf_KN_tells (l1 : Int32) (l2 : Int32) (l3 : Int32) (l4 : Int32) (st : zs_T) (K : Int32 → zs_T → Prop) : Prop :=
  (vp_in l1 201 ∧ ((¬ (st.1 19 l1.toNatClampNeg) = 0 → ((l2 = 0 → (vp_in l1 201 ∧ l1.toNatClampNeg < 201 ∧ (vp_in l3 16 ∧ (((((st.1 (24 + 3 * l1.toNatClampNeg + 1) l3.toNatClampNeg) >>> (l4 &&& 31)) &&& 1) = 0 → K 0 st) ∧ (¬ (((st.1 (24 + 3 * l1.toNatClampNeg + 1) l3.toNatClampNeg) >>> (l4 &&& 31)) &&& 1) = 0 → K 1 st))))) ∧ (¬ l2 = 0 → ((l2 = 1 → (vp_in l1 201 ∧ l1.toNatClampNeg < 201 ∧ (vp_in l3 16 ∧ (((((st.1 (24 + 3 * l1.toNatClampNeg + 2) l3.toNatClampNeg) >>> (l4 &&& 31)) &&& 1) = 0 → K 0 st) ∧ (¬ (((st.1 (24 + 3 * l1.toNatClampNeg + 2) l3.toNatClampNeg) >>> (l4 &&& 31)) &&& 1) = 0 → K 1 st))))) ∧ (¬ l2 = 1 → ((l2 = 2 → (vp_in l1 201 ∧ l1.toNatClampNeg < 201 ∧ (((((st.1 (24 + 3 * l1.toNatClampNeg) 2) >>> (l3 &&& 31)) &&& 1) = 0 → K 0 st) ∧ (¬ (((st.1 (24 + 3 * l1.toNatClampNeg) 2) >>> (l3 &&& 31)) &&& 1) = 0 → K 1 st)))) ∧ (¬ l2 = 2 → K 1 st))))))) ∧ ((st.1 19 l1.toNatClampNeg) = 0 → K 0 st)))
