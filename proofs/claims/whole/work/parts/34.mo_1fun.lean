/-! what the methods need and do, as pure predicates: by program (wip/whole/gen) -/
def zf_MO_tie (l1 : Int32) (l2 : Int32) (st : zs_T) (K : zs_T → Prop) : Prop :=
  (vp_in ((16 * l1) + l2) 256 ∧ (∀ t2 : zs_T, t2 = zs_i st 648 ((16 * l1) + l2).toNatClampNeg (vp_nar .boolean 1) → (vp_in ((16 * l2) + l1) 256 ∧ (∀ t4 : zs_T, t4 = zs_i t2 648 ((16 * l2) + l1).toNatClampNeg (vp_nar .boolean 1) → K t4))))
def zf_MO_passMove_93 (K : zs_T → Prop) (B9 : Int32 → Int32 → Int32 → Int32 → zs_T → Prop) (l1 : Int32) (l2 : Int32) (l3 : Int32) (l4 : Int32) (st : zs_T) : Prop :=
  B9 l1 l2 l3 (l4 + 1) st
def zf_MO_passMove_53 (K : zs_T → Prop) (B9 : Int32 → Int32 → Int32 → Int32 → zs_T → Prop) (l1 : Int32) (l2 : Int32) (l3 : Int32) (l4 : Int32) (st : zs_T) : Prop :=
  zf_MO_held l1 l3 l4 st (fun r202 u201 => (vp_in ((16 * l2) + l4) 256 ∧ (∀ t204 : zs_T, t204 = zs_i u201 649 ((16 * l2) + l4).toNatClampNeg (vp_nar .boolean r202) → zf_MO_held l1 l4 l3 t204 (fun r206 u205 => (vp_in ((16 * l4) + l2) 256 ∧ (∀ t208 : zs_T, t208 = zs_i u205 649 ((16 * l4) + l2).toNatClampNeg (vp_nar .boolean r206) → zf_MO_passMove_93 K B9 l1 l2 l3 l4 t208))))))
def zf_MO_passMove_9_s (K : zs_T → Prop) (B9 : Int32 → Int32 → Int32 → Int32 → zs_T → Prop) (l1 : Int32) (l2 : Int32) (l3 : Int32) (l4 : Int32) (st : zs_T) : Prop :=
  ((16 ≤ l4 → zf_MO_held l1 l3 l3 st (fun r102 u101 => (vp_in ((16 * l2) + l2) 256 ∧ (∀ t104 : zs_T, t104 = zs_i u101 649 ((16 * l2) + l2).toNatClampNeg (vp_nar .boolean r102) → (vp_in ((16 * l1) + l3) 3216 ∧ (vp_in l2 16 ∧ (∀ t107 : zs_T, t107 = zs_i t104 650 l2.toNatClampNeg (vp_nar .boolean (t104.1 646 ((16 * l1) + l3).toNatClampNeg)) → K t107))))))) ∧ (¬ 16 ≤ l4 → ((¬ l4 = l2 → (vp_in (((256 * l1) + (16 * l3)) + l4) 51456 ∧ (((st.1 644 (((256 * l1) + (16 * l3)) + l4).toNatClampNeg) = 0 → zf_MO_passMove_53 K B9 l1 l2 l3 l4 st) ∧ (¬ (st.1 644 (((256 * l1) + (16 * l3)) + l4).toNatClampNeg) = 0 → zf_MO_tie l2 l4 st (fun u109 => zf_MO_passMove_53 K B9 l1 l2 l3 l4 u109))))) ∧ (l4 = l2 → zf_MO_passMove_93 K B9 l1 l2 l3 l4 st))))
def zf_MO_passMove_9 (K : zs_T → Prop) : Nat → Int32 → Int32 → Int32 → Int32 → zs_T → Prop
  | 0 => fun _ _ _ _ _ => False
  | n + 1 => zf_MO_passMove_9_s K (zf_MO_passMove_9 K n)
def zf_MO_passMove (l1 : Int32) (l2 : Int32) (l3 : Int32) (st : zs_T) (K : zs_T → Prop) : Prop :=
  zf_MO_tie l2 l3 st (fun u1 => ∃ n, zf_MO_passMove_9 K n l1 l2 l3 0 u1)
def zf_MO_passLoad_69 (K : zs_T → Prop) (B3 : Int32 → Int32 → Int32 → Int32 → zs_T → Prop) (l1 : Int32) (l2 : Int32) (l3 : Int32) (l4 : Int32) (st : zs_T) : Prop :=
  B3 l1 l2 l3 (l4 + 1) st
def zf_MO_passLoad_51 (K : zs_T → Prop) (B3 : Int32 → Int32 → Int32 → Int32 → zs_T → Prop) (l1 : Int32) (l2 : Int32) (l3 : Int32) (l4 : Int32) (st : zs_T) : Prop :=
  zf_MO_held l1 l3 l4 st (fun r202 u201 => ((r202 = 0 → zf_MO_passLoad_69 K B3 l1 l2 l3 l4 u201) ∧ (¬ r202 = 0 → zf_MO_tie l2 l4 u201 (fun u203 => zf_MO_passLoad_69 K B3 l1 l2 l3 l4 u203))))
def zf_MO_passLoad_3_s (K : zs_T → Prop) (B3 : Int32 → Int32 → Int32 → Int32 → zs_T → Prop) (l1 : Int32) (l2 : Int32) (l3 : Int32) (l4 : Int32) (st : zs_T) : Prop :=
  ((16 ≤ l4 → K st) ∧ (¬ 16 ≤ l4 → ((¬ l4 = l2 → zf_MO_one l1 l3 l4 st (fun r102 u101 => ((r102 = 0 → zf_MO_passLoad_51 K B3 l1 l2 l3 l4 u101) ∧ (¬ r102 = 0 → (vp_in l4 16 ∧ (∀ t104 : zs_T, t104 = zs_i u101 650 l4.toNatClampNeg (vp_nar .boolean 1) → (vp_in ((16 * l4) + l2) 256 ∧ (∀ t106 : zs_T, t106 = zs_i t104 649 ((16 * l4) + l2).toNatClampNeg (vp_nar .boolean 1) → zf_MO_passLoad_51 K B3 l1 l2 l3 l4 t106)))))))) ∧ (l4 = l2 → zf_MO_passLoad_69 K B3 l1 l2 l3 l4 st))))
def zf_MO_passLoad_3 (K : zs_T → Prop) : Nat → Int32 → Int32 → Int32 → Int32 → zs_T → Prop
  | 0 => fun _ _ _ _ _ => False
  | n + 1 => zf_MO_passLoad_3_s K (zf_MO_passLoad_3 K n)
def zf_MO_passLoad (l1 : Int32) (l2 : Int32) (l3 : Int32) (st : zs_T) (K : zs_T → Prop) : Prop :=
  ∃ n, zf_MO_passLoad_3 K n l1 l2 l3 0 st
def zf_MO_passStore_86 (K : zs_T → Prop) (B3 : Int32 → Int32 → Int32 → Int32 → zs_T → Prop) (B35 : Int32 → Int32 → Int32 → Int32 → Int32 → zs_T → Prop) (l1 : Int32) (l2 : Int32) (l3 : Int32) (l4 : Int32) (l5 : Int32) (s0 : Int32) (s1 : Int32) (st : zs_T) : Prop :=
  (vp_in s1 256 ∧ (∀ t502 : zs_T, t502 = zs_i st 649 s1.toNatClampNeg (vp_nar .boolean s0) → B35 l1 l2 l3 l4 (l5 + 1) t502))
def zf_MO_passStore_81 (K : zs_T → Prop) (B3 : Int32 → Int32 → Int32 → Int32 → zs_T → Prop) (B35 : Int32 → Int32 → Int32 → Int32 → Int32 → zs_T → Prop) (l1 : Int32) (l2 : Int32) (l3 : Int32) (l4 : Int32) (l5 : Int32) (s0 : Int32) (st : zs_T) : Prop :=
  zf_MO_passStore_86 K B3 B35 l1 l2 l3 l4 l5 1 s0 st
def zf_MO_passStore_93 (K : zs_T → Prop) (B3 : Int32 → Int32 → Int32 → Int32 → zs_T → Prop) (l1 : Int32) (l2 : Int32) (l3 : Int32) (l4 : Int32) (st : zs_T) : Prop :=
  B3 l1 l2 l3 (l4 + 1) st
def zf_MO_passStore_35_s (K : zs_T → Prop) (B3 : Int32 → Int32 → Int32 → Int32 → zs_T → Prop) (B35 : Int32 → Int32 → Int32 → Int32 → Int32 → zs_T → Prop) (l1 : Int32) (l2 : Int32) (l3 : Int32) (l4 : Int32) (l5 : Int32) (st : zs_T) : Prop :=
  ((16 ≤ l5 → zf_MO_passStore_93 K B3 l1 l2 l3 l4 st) ∧ (¬ 16 ≤ l5 → (vp_in ((16 * l4) + l5) 256 ∧ ((¬ (st.1 649 ((16 * l4) + l5).toNatClampNeg) = 0 → zf_MO_passStore_81 K B3 B35 l1 l2 l3 l4 l5 ((16 * l4) + l5) st) ∧ ((st.1 649 ((16 * l4) + l5).toNatClampNeg) = 0 → zf_MO_one l1 l3 l5 st (fun r203 u202 => ((r203 = 0 → zf_MO_passStore_86 K B3 B35 l1 l2 l3 l4 l5 0 ((16 * l4) + l5) u202) ∧ (¬ r203 = 0 → zf_MO_passStore_81 K B3 B35 l1 l2 l3 l4 l5 ((16 * l4) + l5) u202))))))))
def zf_MO_passStore_35 (K : zs_T → Prop) (B3 : Int32 → Int32 → Int32 → Int32 → zs_T → Prop) : Nat → Int32 → Int32 → Int32 → Int32 → Int32 → zs_T → Prop
  | 0 => fun _ _ _ _ _ _ => False
  | n + 1 => zf_MO_passStore_35_s K B3 (zf_MO_passStore_35 K B3 n)
def zf_MO_passStore_3_s (K : zs_T → Prop) (B3 : Int32 → Int32 → Int32 → Int32 → zs_T → Prop) (l1 : Int32) (l2 : Int32) (l3 : Int32) (l4 : Int32) (st : zs_T) : Prop :=
  ((16 ≤ l4 → K st) ∧ (¬ 16 ≤ l4 → zf_MO_one l1 l2 l4 st (fun r102 u101 => ((¬ r102 = 0 → (vp_in l4 16 ∧ (∀ t104 : zs_T, t104 = zs_i u101 650 l4.toNatClampNeg (vp_nar .boolean 1) → ∃ n, zf_MO_passStore_35 K B3 n l1 l2 l3 l4 0 t104))) ∧ (r102 = 0 → zf_MO_passStore_93 K B3 l1 l2 l3 l4 u101)))))
def zf_MO_passStore_3 (K : zs_T → Prop) : Nat → Int32 → Int32 → Int32 → Int32 → zs_T → Prop
  | 0 => fun _ _ _ _ _ => False
  | n + 1 => zf_MO_passStore_3_s K (zf_MO_passStore_3 K n)
def zf_MO_passStore (l1 : Int32) (l2 : Int32) (l3 : Int32) (st : zs_T) (K : zs_T → Prop) : Prop :=
  ∃ n, zf_MO_passStore_3 K n l1 l2 l3 0 st
def zf_MO_pass_214 (K : zs_T → Prop) (B58 : Int32 → Int32 → Int32 → Int32 → Int32 → Int32 → zs_T → Prop) (B68 : Int32 → Int32 → Int32 → Int32 → Int32 → Int32 → Int32 → zs_T → Prop) (l1 : Int32) (l2 : Int32) (l3 : Int32) (l4 : Int32) (l5 : Int32) (l6 : Int32) (l7 : Int32) (s0 : Int32) (s1 : Int32) (st : zs_T) : Prop :=
  (vp_in s1 256 ∧ (∀ t2002 : zs_T, t2002 = zs_i st 649 s1.toNatClampNeg (vp_nar .boolean s0) → B68 l1 l2 l3 l4 l5 l6 (l7 + 1) t2002))
def zf_MO_pass_209 (K : zs_T → Prop) (B58 : Int32 → Int32 → Int32 → Int32 → Int32 → Int32 → zs_T → Prop) (B68 : Int32 → Int32 → Int32 → Int32 → Int32 → Int32 → Int32 → zs_T → Prop) (l1 : Int32) (l2 : Int32) (l3 : Int32) (l4 : Int32) (l5 : Int32) (l6 : Int32) (l7 : Int32) (s0 : Int32) (st : zs_T) : Prop :=
  zf_MO_pass_214 K B58 B68 l1 l2 l3 l4 l5 l6 l7 1 s0 st
def zf_MO_pass_213 (K : zs_T → Prop) (B58 : Int32 → Int32 → Int32 → Int32 → Int32 → Int32 → zs_T → Prop) (B68 : Int32 → Int32 → Int32 → Int32 → Int32 → Int32 → Int32 → zs_T → Prop) (l1 : Int32) (l2 : Int32) (l3 : Int32) (l4 : Int32) (l5 : Int32) (l6 : Int32) (l7 : Int32) (s0 : Int32) (st : zs_T) : Prop :=
  zf_MO_pass_214 K B58 B68 l1 l2 l3 l4 l5 l6 l7 0 s0 st
def zf_MO_pass_151 (K : zs_T → Prop) (B58 : Int32 → Int32 → Int32 → Int32 → Int32 → Int32 → zs_T → Prop) (B68 : Int32 → Int32 → Int32 → Int32 → Int32 → Int32 → Int32 → zs_T → Prop) (l1 : Int32) (l2 : Int32) (l3 : Int32) (l4 : Int32) (l5 : Int32) (l6 : Int32) (l7 : Int32) (l8 : Int32) (s0 : Int32) (s1 : Int32) (st : zs_T) : Prop :=
  (vp_in s1 256 ∧ (∀ t1702 : zs_T, t1702 = zs_i st 648 s1.toNatClampNeg (vp_nar .boolean s0) → zf_MO_held l1 l6 l7 t1702 (fun r1704 u1703 => ((r1704 = 0 → zf_MO_pass_213 K B58 B68 l1 l2 l3 l4 l5 l6 l7 ((16 * l6) + l7) u1703) ∧ (¬ r1704 = 0 → ((¬ l8 = 0 → zf_MO_pass_213 K B58 B68 l1 l2 l3 l4 l5 l6 l7 ((16 * l6) + l7) u1703) ∧ (l8 = 0 → ((¬ l2 = 10 → zf_MO_pass_209 K B58 B68 l1 l2 l3 l4 l5 l6 l7 ((16 * l6) + l7) u1703) ∧ (l2 = 10 → zf_MO_meet l6 l3 u1703 (fun r1706 u1705 => ((r1706 = 0 → zf_MO_pass_209 K B58 B68 l1 l2 l3 l4 l5 l6 l7 ((16 * l6) + l7) u1705) ∧ (¬ r1706 = 0 → zf_MO_one l1 l7 l4 u1705 (fun r1708 u1707 => ((r1708 = 0 → zf_MO_pass_213 K B58 B68 l1 l2 l3 l4 l5 l6 l7 ((16 * l6) + l7) u1707) ∧ (¬ r1708 = 0 → zf_MO_pass_209 K B58 B68 l1 l2 l3 l4 l5 l6 l7 ((16 * l6) + l7) u1707)))))))))))))))
def zf_MO_pass_150 (K : zs_T → Prop) (B58 : Int32 → Int32 → Int32 → Int32 → Int32 → Int32 → zs_T → Prop) (B68 : Int32 → Int32 → Int32 → Int32 → Int32 → Int32 → Int32 → zs_T → Prop) (l1 : Int32) (l2 : Int32) (l3 : Int32) (l4 : Int32) (l5 : Int32) (l6 : Int32) (l7 : Int32) (l8 : Int32) (s0 : Int32) (st : zs_T) : Prop :=
  zf_MO_pass_151 K B58 B68 l1 l2 l3 l4 l5 l6 l7 l8 0 s0 st
def zf_MO_pass_105 (K : zs_T → Prop) (B58 : Int32 → Int32 → Int32 → Int32 → Int32 → Int32 → zs_T → Prop) (B68 : Int32 → Int32 → Int32 → Int32 → Int32 → Int32 → Int32 → zs_T → Prop) (l1 : Int32) (l2 : Int32) (l3 : Int32) (l4 : Int32) (l5 : Int32) (l6 : Int32) (l7 : Int32) (s0 : Int32) (st : zs_T) : Prop :=
  (vp_in (((256 * l1) + (16 * l6)) + l7) 51456 ∧ (((st.1 644 (((256 * l1) + (16 * l6)) + l7).toNatClampNeg) = 0 → zf_MO_pass_150 K B58 B68 l1 l2 l3 l4 l5 l6 l7 s0 ((16 * l6) + l7) st) ∧ (¬ (st.1 644 (((256 * l1) + (16 * l6)) + l7).toNatClampNeg) = 0 → ((¬ s0 = 0 → zf_MO_pass_150 K B58 B68 l1 l2 l3 l4 l5 l6 l7 s0 ((16 * l6) + l7) st) ∧ (s0 = 0 → zf_MO_pass_151 K B58 B68 l1 l2 l3 l4 l5 l6 l7 s0 1 ((16 * l6) + l7) st)))))
def zf_MO_pass_100 (K : zs_T → Prop) (B58 : Int32 → Int32 → Int32 → Int32 → Int32 → Int32 → zs_T → Prop) (B68 : Int32 → Int32 → Int32 → Int32 → Int32 → Int32 → Int32 → zs_T → Prop) (l1 : Int32) (l2 : Int32) (l3 : Int32) (l4 : Int32) (l5 : Int32) (l6 : Int32) (l7 : Int32) (st : zs_T) : Prop :=
  zf_MO_pass_105 K B58 B68 l1 l2 l3 l4 l5 l6 l7 1 st
def zf_MO_pass_104 (K : zs_T → Prop) (B58 : Int32 → Int32 → Int32 → Int32 → Int32 → Int32 → zs_T → Prop) (B68 : Int32 → Int32 → Int32 → Int32 → Int32 → Int32 → Int32 → zs_T → Prop) (l1 : Int32) (l2 : Int32) (l3 : Int32) (l4 : Int32) (l5 : Int32) (l6 : Int32) (l7 : Int32) (st : zs_T) : Prop :=
  zf_MO_pass_105 K B58 B68 l1 l2 l3 l4 l5 l6 l7 0 st
def zf_MO_pass_266 (K : zs_T → Prop) (B58 : Int32 → Int32 → Int32 → Int32 → Int32 → Int32 → zs_T → Prop) (l1 : Int32) (l2 : Int32) (l3 : Int32) (l4 : Int32) (l5 : Int32) (l6 : Int32) (s0 : Int32) (s1 : Int32) (st : zs_T) : Prop :=
  (vp_in s1 16 ∧ (∀ t1302 : zs_T, t1302 = zs_i st 650 s1.toNatClampNeg (vp_nar .boolean s0) → B58 l1 l2 l3 l4 l5 (l6 + 1) t1302))
def zf_MO_pass_261 (K : zs_T → Prop) (B58 : Int32 → Int32 → Int32 → Int32 → Int32 → Int32 → zs_T → Prop) (l1 : Int32) (l2 : Int32) (l3 : Int32) (l4 : Int32) (l5 : Int32) (l6 : Int32) (s0 : Int32) (st : zs_T) : Prop :=
  zf_MO_pass_266 K B58 l1 l2 l3 l4 l5 l6 1 s0 st
def zf_MO_pass_265 (K : zs_T → Prop) (B58 : Int32 → Int32 → Int32 → Int32 → Int32 → Int32 → zs_T → Prop) (l1 : Int32) (l2 : Int32) (l3 : Int32) (l4 : Int32) (l5 : Int32) (l6 : Int32) (s0 : Int32) (st : zs_T) : Prop :=
  zf_MO_pass_266 K B58 l1 l2 l3 l4 l5 l6 0 s0 st
def zf_MO_pass_68_s (K : zs_T → Prop) (B58 : Int32 → Int32 → Int32 → Int32 → Int32 → Int32 → zs_T → Prop) (B68 : Int32 → Int32 → Int32 → Int32 → Int32 → Int32 → Int32 → zs_T → Prop) (l1 : Int32) (l2 : Int32) (l3 : Int32) (l4 : Int32) (l5 : Int32) (l6 : Int32) (l7 : Int32) (st : zs_T) : Prop :=
  ((16 ≤ l7 → (vp_in ((16 * l1) + l6) 3216 ∧ (((st.1 646 ((16 * l1) + l6).toNatClampNeg) = 0 → zf_MO_pass_265 K B58 l1 l2 l3 l4 l5 l6 l6 st) ∧ (¬ (st.1 646 ((16 * l1) + l6).toNatClampNeg) = 0 → zf_MO_sets l1 st (fun r503 u502 => ((r503 = 0 → zf_MO_pass_261 K B58 l1 l2 l3 l4 l5 l6 l6 u502) ∧ (¬ r503 = 0 → ((¬ l5 = 0 → zf_MO_pass_261 K B58 l1 l2 l3 l4 l5 l6 l6 u502) ∧ (l5 = 0 → ((l6 = l3 → zf_MO_pass_265 K B58 l1 l2 l3 l4 l5 l6 l6 u502) ∧ (¬ l6 = l3 → zf_MO_pass_261 K B58 l1 l2 l3 l4 l5 l6 l6 u502))))))))))) ∧ (¬ 16 ≤ l7 → zf_MO_sets l1 st (fun r505 u504 => ((r505 = 0 → zf_MO_pass_104 K B58 B68 l1 l2 l3 l4 l5 l6 l7 u504) ∧ (¬ r505 = 0 → ((¬ l5 = 0 → zf_MO_pass_104 K B58 B68 l1 l2 l3 l4 l5 l6 l7 u504) ∧ (l5 = 0 → ((l6 = l3 → zf_MO_pass_100 K B58 B68 l1 l2 l3 l4 l5 l6 l7 u504) ∧ (¬ l6 = l3 → ((¬ l7 = l3 → zf_MO_pass_104 K B58 B68 l1 l2 l3 l4 l5 l6 l7 u504) ∧ (l7 = l3 → zf_MO_pass_100 K B58 B68 l1 l2 l3 l4 l5 l6 l7 u504)))))))))))
def zf_MO_pass_68 (K : zs_T → Prop) (B58 : Int32 → Int32 → Int32 → Int32 → Int32 → Int32 → zs_T → Prop) : Nat → Int32 → Int32 → Int32 → Int32 → Int32 → Int32 → Int32 → zs_T → Prop
  | 0 => fun _ _ _ _ _ _ _ _ => False
  | n + 1 => zf_MO_pass_68_s K B58 (zf_MO_pass_68 K B58 n)
def zf_MO_pass_338 (K : zs_T → Prop) (l1 : Int32) (l2 : Int32) (l3 : Int32) (l4 : Int32) (st : zs_T) : Prop :=
  ((¬ l2 = 10 → K st) ∧ (l2 = 10 → zf_MO_passStore l1 l3 l4 st (fun u1501 => K u1501)))
def zf_MO_pass_324 (K : zs_T → Prop) (l1 : Int32) (l2 : Int32) (l3 : Int32) (l4 : Int32) (st : zs_T) : Prop :=
  ((¬ l2 = 9 → zf_MO_pass_338 K l1 l2 l3 l4 st) ∧ (l2 = 9 → zf_MO_passLoad l1 l3 l4 st (fun u1201 => zf_MO_pass_338 K l1 l2 l3 l4 u1201)))
def zf_MO_pass_310 (K : zs_T → Prop) (l1 : Int32) (l2 : Int32) (l3 : Int32) (l4 : Int32) (st : zs_T) : Prop :=
  ((¬ l2 = 7 → zf_MO_pass_324 K l1 l2 l3 l4 st) ∧ (l2 = 7 → (vp_in l4 16 ∧ (∀ t702 : zs_T, t702 = zs_i st 650 l4.toNatClampNeg (vp_nar .boolean 1) → zf_MO_pass_324 K l1 l2 l3 l4 t702))))
def zf_MO_pass_303 (K : zs_T → Prop) (l1 : Int32) (l2 : Int32) (l3 : Int32) (l4 : Int32) (st : zs_T) : Prop :=
  (vp_in l3 16 ∧ (∀ t602 : zs_T, t602 = zs_i st 650 l3.toNatClampNeg (vp_nar .boolean 1) → zf_MO_pass_310 K l1 l2 l3 l4 t602))
def zf_MO_pass_291 (K : zs_T → Prop) (l1 : Int32) (l2 : Int32) (l3 : Int32) (l4 : Int32) (st : zs_T) : Prop :=
  ((l2 = 7 → zf_MO_pass_303 K l1 l2 l3 l4 st) ∧ (¬ l2 = 7 → ((¬ l2 = 8 → zf_MO_pass_310 K l1 l2 l3 l4 st) ∧ (l2 = 8 → zf_MO_pass_303 K l1 l2 l3 l4 st))))
def zf_MO_pass_58_s (K : zs_T → Prop) (B58 : Int32 → Int32 → Int32 → Int32 → Int32 → Int32 → zs_T → Prop) (l1 : Int32) (l2 : Int32) (l3 : Int32) (l4 : Int32) (l5 : Int32) (l6 : Int32) (st : zs_T) : Prop :=
  ((16 ≤ l6 → ((¬ l2 = 1 → zf_MO_pass_291 K l1 l2 l3 l4 st) ∧ (l2 = 1 → ((¬ l5 = 0 → zf_MO_pass_291 K l1 l2 l3 l4 st) ∧ (l5 = 0 → zf_MO_passMove l1 l3 l4 st (fun u301 => zf_MO_pass_291 K l1 l2 l3 l4 u301)))))) ∧ (¬ 16 ≤ l6 → ∃ n, zf_MO_pass_68 K B58 n l1 l2 l3 l4 l5 l6 0 st))
def zf_MO_pass_58 (K : zs_T → Prop) : Nat → Int32 → Int32 → Int32 → Int32 → Int32 → Int32 → zs_T → Prop
  | 0 => fun _ _ _ _ _ _ _ => False
  | n + 1 => zf_MO_pass_58_s K (zf_MO_pass_58 K n)
def zf_MO_pass_53 (K : zs_T → Prop) (l1 : Int32) (l2 : Int32) (l3 : Int32) (l4 : Int32) (s0 : Int32) (st : zs_T) : Prop :=
  ∃ n, zf_MO_pass_58 K n l1 l2 l3 l4 s0 0 st
def zf_MO_pass_52 (K : zs_T → Prop) (l1 : Int32) (l2 : Int32) (l3 : Int32) (l4 : Int32) (st : zs_T) : Prop :=
  zf_MO_pass_53 K l1 l2 l3 l4 0 st
def zf_MO_pass (l1 : Int32) (st : zs_T) (K : zs_T → Prop) : Prop :=
  (vp_in ((st.1 635 9) + l1) 400 ∧ (vp_in ((st.1 635 9) + l1) 400 ∧ (vp_in ((st.1 635 9) + l1) 400 ∧ ((¬ (st.1 636 ((st.1 635 9) + l1).toNatClampNeg) = 1 → zf_MO_pass_52 K l1 (st.1 636 ((st.1 635 9) + l1).toNatClampNeg) (st.1 637 ((st.1 635 9) + l1).toNatClampNeg) (st.1 638 ((st.1 635 9) + l1).toNatClampNeg) st) ∧ ((st.1 636 ((st.1 635 9) + l1).toNatClampNeg) = 1 → ((¬ (st.1 637 ((st.1 635 9) + l1).toNatClampNeg) = (st.1 638 ((st.1 635 9) + l1).toNatClampNeg) → zf_MO_pass_52 K l1 (st.1 636 ((st.1 635 9) + l1).toNatClampNeg) (st.1 637 ((st.1 635 9) + l1).toNatClampNeg) (st.1 638 ((st.1 635 9) + l1).toNatClampNeg) st) ∧ ((st.1 637 ((st.1 635 9) + l1).toNatClampNeg) = (st.1 638 ((st.1 635 9) + l1).toNatClampNeg) → zf_MO_pass_53 K l1 (st.1 636 ((st.1 635 9) + l1).toNatClampNeg) (st.1 637 ((st.1 635 9) + l1).toNatClampNeg) (st.1 638 ((st.1 635 9) + l1).toNatClampNeg) 1 st)))))))
def zf_MO_meets_150 (K : Int32 → zs_T → Prop) (B4 : Int32 → Int32 → Int32 → zs_T → Prop) (l1 : Int32) (l2 : Int32) (l3 : Int32) (s0 : Int32) (s1 : Int32) (st : zs_T) : Prop :=
  (vp_in s1 51456 ∧ (∀ t1502 : zs_T, t1502 = zs_i st 645 s1.toNatClampNeg (vp_nar .boolean s0) → B4 l1 l2 (l3 + 1) t1502))
def zf_MO_meets_149 (K : Int32 → zs_T → Prop) (B4 : Int32 → Int32 → Int32 → zs_T → Prop) (l1 : Int32) (l2 : Int32) (l3 : Int32) (s0 : Int32) (st : zs_T) : Prop :=
  zf_MO_meets_150 K B4 l1 l2 l3 0 s0 st
def zf_MO_meets_109 (K : Int32 → zs_T → Prop) (B4 : Int32 → Int32 → Int32 → zs_T → Prop) (l1 : Int32) (l2 : Int32) (l3 : Int32) (s0 : Int32) (s1 : Int32) (st : zs_T) : Prop :=
  (vp_in s1 51456 ∧ (∀ t1102 : zs_T, t1102 = zs_i st 644 s1.toNatClampNeg (vp_nar .boolean s0) → (vp_in ((256 * l1) + l3) 51456 ∧ (((t1102.1 645 ((256 * l1) + l3).toNatClampNeg) = 0 → zf_MO_meets_149 K B4 l1 l2 l3 ((256 * l1) + l3) t1102) ∧ (¬ (t1102.1 645 ((256 * l1) + l3).toNatClampNeg) = 0 → (vp_in l3 256 ∧ (((t1102.1 649 l3.toNatClampNeg) = 0 → zf_MO_meets_149 K B4 l1 l2 l3 ((256 * l1) + l3) t1102) ∧ (¬ (t1102.1 649 l3.toNatClampNeg) = 0 → zf_MO_meets_150 K B4 l1 l2 l3 1 ((256 * l1) + l3) t1102))))))))
def zf_MO_meets_108 (K : Int32 → zs_T → Prop) (B4 : Int32 → Int32 → Int32 → zs_T → Prop) (l1 : Int32) (l2 : Int32) (l3 : Int32) (s0 : Int32) (st : zs_T) : Prop :=
  zf_MO_meets_109 K B4 l1 l2 l3 0 s0 st
def zf_MO_meets_68 (K : Int32 → zs_T → Prop) (B4 : Int32 → Int32 → Int32 → zs_T → Prop) (l1 : Int32) (l3 : Int32) (s0 : Int32) (st : zs_T) : Prop :=
  (vp_in ((256 * l1) + l3) 51456 ∧ (((st.1 644 ((256 * l1) + l3).toNatClampNeg) = 0 → zf_MO_meets_108 K B4 l1 s0 l3 ((256 * l1) + l3) st) ∧ (¬ (st.1 644 ((256 * l1) + l3).toNatClampNeg) = 0 → (vp_in l3 256 ∧ (((st.1 648 l3.toNatClampNeg) = 0 → zf_MO_meets_108 K B4 l1 s0 l3 ((256 * l1) + l3) st) ∧ (¬ (st.1 648 l3.toNatClampNeg) = 0 → zf_MO_meets_109 K B4 l1 s0 l3 1 ((256 * l1) + l3) st))))))
def zf_MO_meets_63 (K : Int32 → zs_T → Prop) (B4 : Int32 → Int32 → Int32 → zs_T → Prop) (l1 : Int32) (l3 : Int32) (st : zs_T) : Prop :=
  zf_MO_meets_68 K B4 l1 l3 1 st
def zf_MO_meets_67 (K : Int32 → zs_T → Prop) (B4 : Int32 → Int32 → Int32 → zs_T → Prop) (l1 : Int32) (l3 : Int32) (st : zs_T) : Prop :=
  zf_MO_meets_68 K B4 l1 l3 0 st
def zf_MO_meets_39 (K : Int32 → zs_T → Prop) (B4 : Int32 → Int32 → Int32 → zs_T → Prop) (l1 : Int32) (l3 : Int32) (st : zs_T) : Prop :=
  (vp_in ((256 * l1) + l3) 51456 ∧ (((st.1 645 ((256 * l1) + l3).toNatClampNeg) = 0 → zf_MO_meets_67 K B4 l1 l3 st) ∧ (¬ (st.1 645 ((256 * l1) + l3).toNatClampNeg) = 0 → (vp_in l3 256 ∧ ((¬ (st.1 649 l3.toNatClampNeg) = 0 → zf_MO_meets_67 K B4 l1 l3 st) ∧ ((st.1 649 l3.toNatClampNeg) = 0 → zf_MO_meets_63 K B4 l1 l3 st))))))
def zf_MO_meets_236 (K : Int32 → zs_T → Prop) (B159 : Int32 → Int32 → Int32 → zs_T → Prop) (l1 : Int32) (l2 : Int32) (l3 : Int32) (s0 : Int32) (s1 : Int32) (st : zs_T) : Prop :=
  (vp_in s1 3216 ∧ (∀ t1302 : zs_T, t1302 = zs_i st 646 s1.toNatClampNeg (vp_nar .boolean s0) → B159 l1 l2 (l3 + 1) t1302))
def zf_MO_meets_235 (K : Int32 → zs_T → Prop) (B159 : Int32 → Int32 → Int32 → zs_T → Prop) (l1 : Int32) (l2 : Int32) (l3 : Int32) (s0 : Int32) (st : zs_T) : Prop :=
  zf_MO_meets_236 K B159 l1 l2 l3 0 s0 st
def zf_MO_meets_197 (K : Int32 → zs_T → Prop) (B159 : Int32 → Int32 → Int32 → zs_T → Prop) (l1 : Int32) (l3 : Int32) (s0 : Int32) (st : zs_T) : Prop :=
  (vp_in ((16 * l1) + l3) 3216 ∧ (((st.1 646 ((16 * l1) + l3).toNatClampNeg) = 0 → zf_MO_meets_235 K B159 l1 s0 l3 ((16 * l1) + l3) st) ∧ (¬ (st.1 646 ((16 * l1) + l3).toNatClampNeg) = 0 → (vp_in l3 16 ∧ (((st.1 650 l3.toNatClampNeg) = 0 → zf_MO_meets_235 K B159 l1 s0 l3 ((16 * l1) + l3) st) ∧ (¬ (st.1 650 l3.toNatClampNeg) = 0 → zf_MO_meets_236 K B159 l1 s0 l3 1 ((16 * l1) + l3) st))))))
def zf_MO_meets_192 (K : Int32 → zs_T → Prop) (B159 : Int32 → Int32 → Int32 → zs_T → Prop) (l1 : Int32) (l3 : Int32) (st : zs_T) : Prop :=
  zf_MO_meets_197 K B159 l1 l3 1 st
def zf_MO_meets_196 (K : Int32 → zs_T → Prop) (B159 : Int32 → Int32 → Int32 → zs_T → Prop) (l1 : Int32) (l3 : Int32) (st : zs_T) : Prop :=
  zf_MO_meets_197 K B159 l1 l3 0 st
def zf_MO_meets_159_s (K : Int32 → zs_T → Prop) (B159 : Int32 → Int32 → Int32 → zs_T → Prop) (l1 : Int32) (l2 : Int32) (l3 : Int32) (st : zs_T) : Prop :=
  ((16 ≤ l3 → (zs_bz l2 ∧ K l2 st)) ∧ (¬ 16 ≤ l3 → ((¬ l2 = 0 → zf_MO_meets_192 K B159 l1 l3 st) ∧ (l2 = 0 → (vp_in ((16 * l1) + l3) 3216 ∧ (((st.1 646 ((16 * l1) + l3).toNatClampNeg) = 0 → zf_MO_meets_196 K B159 l1 l3 st) ∧ (¬ (st.1 646 ((16 * l1) + l3).toNatClampNeg) = 0 → (vp_in l3 16 ∧ ((¬ (st.1 650 l3.toNatClampNeg) = 0 → zf_MO_meets_196 K B159 l1 l3 st) ∧ ((st.1 650 l3.toNatClampNeg) = 0 → zf_MO_meets_192 K B159 l1 l3 st))))))))))
def zf_MO_meets_159 (K : Int32 → zs_T → Prop) : Nat → Int32 → Int32 → Int32 → zs_T → Prop
  | 0 => fun _ _ _ _ => False
  | n + 1 => zf_MO_meets_159_s K (zf_MO_meets_159 K n)
def zf_MO_meets_4_s (K : Int32 → zs_T → Prop) (B4 : Int32 → Int32 → Int32 → zs_T → Prop) (l1 : Int32) (l2 : Int32) (l3 : Int32) (st : zs_T) : Prop :=
  ((256 ≤ l3 → ∃ n, zf_MO_meets_159 K n l1 l2 0 st) ∧ (¬ 256 ≤ l3 → ((¬ l2 = 0 → zf_MO_meets_63 K B4 l1 l3 st) ∧ (l2 = 0 → (vp_in ((256 * l1) + l3) 51456 ∧ (((st.1 644 ((256 * l1) + l3).toNatClampNeg) = 0 → zf_MO_meets_39 K B4 l1 l3 st) ∧ (¬ (st.1 644 ((256 * l1) + l3).toNatClampNeg) = 0 → (vp_in l3 256 ∧ (((st.1 648 l3.toNatClampNeg) = 0 → zf_MO_meets_63 K B4 l1 l3 st) ∧ (¬ (st.1 648 l3.toNatClampNeg) = 0 → zf_MO_meets_39 K B4 l1 l3 st))))))))))
def zf_MO_meets_4 (K : Int32 → zs_T → Prop) : Nat → Int32 → Int32 → Int32 → zs_T → Prop
  | 0 => fun _ _ _ _ => False
  | n + 1 => zf_MO_meets_4_s K (zf_MO_meets_4 K n)
def zf_MO_meets (l1 : Int32) (st : zs_T) (K : Int32 → zs_T → Prop) : Prop :=
  ∃ n, zf_MO_meets_4 K n l1 0 0 st
def zf_MO_findFacts_96 (K : zs_T → Prop) (B2 : Int32 → zs_T → Prop) (B12 : Int32 → Int32 → zs_T → Prop) (B20 : Int32 → Int32 → Int32 → zs_T → Prop) (l1 : Int32) (l2 : Int32) (l3 : Int32) (s0 : Int32) (s1 : Int32) (st : zs_T) : Prop :=
  (vp_in s1 51456 ∧ (∀ t1602 : zs_T, t1602 = zs_i st 645 s1.toNatClampNeg (vp_nar .boolean s0) → B20 l1 l2 (l3 + 1) t1602))
def zf_MO_findFacts_95 (K : zs_T → Prop) (B2 : Int32 → zs_T → Prop) (B12 : Int32 → Int32 → zs_T → Prop) (B20 : Int32 → Int32 → Int32 → zs_T → Prop) (l1 : Int32) (l2 : Int32) (l3 : Int32) (s0 : Int32) (st : zs_T) : Prop :=
  zf_MO_findFacts_96 K B2 B12 B20 l1 l2 l3 0 s0 st
def zf_MO_findFacts_61 (K : zs_T → Prop) (B2 : Int32 → zs_T → Prop) (B12 : Int32 → Int32 → zs_T → Prop) (B20 : Int32 → Int32 → Int32 → zs_T → Prop) (l1 : Int32) (l2 : Int32) (l3 : Int32) (s0 : Int32) (s1 : Int32) (st : zs_T) : Prop :=
  (vp_in s1 51456 ∧ (∀ t1102 : zs_T, t1102 = zs_i st 644 s1.toNatClampNeg (vp_nar .boolean s0) → (vp_in l1 201 ∧ (((t1102.1 643 l1.toNatClampNeg) = 0 → zf_MO_findFacts_95 K B2 B12 B20 l1 l2 l3 (((256 * l1) + (16 * l2)) + l3) t1102) ∧ (¬ (t1102.1 643 l1.toNatClampNeg) = 0 → ((l1 ≤ 0 → zf_MO_findFacts_95 K B2 B12 B20 l1 l2 l3 (((256 * l1) + (16 * l2)) + l3) t1102) ∧ (¬ l1 ≤ 0 → zf_MO_findFacts_96 K B2 B12 B20 l1 l2 l3 1 (((256 * l1) + (16 * l2)) + l3) t1102)))))))
def zf_MO_findFacts_60 (K : zs_T → Prop) (B2 : Int32 → zs_T → Prop) (B12 : Int32 → Int32 → zs_T → Prop) (B20 : Int32 → Int32 → Int32 → zs_T → Prop) (l1 : Int32) (l2 : Int32) (l3 : Int32) (s0 : Int32) (st : zs_T) : Prop :=
  zf_MO_findFacts_61 K B2 B12 B20 l1 l2 l3 0 s0 st
def zf_MO_findFacts_131 (K : zs_T → Prop) (B2 : Int32 → zs_T → Prop) (B12 : Int32 → Int32 → zs_T → Prop) (l1 : Int32) (l2 : Int32) (s0 : Int32) (s1 : Int32) (st : zs_T) : Prop :=
  (vp_in s1 3216 ∧ (∀ t902 : zs_T, t902 = zs_i st 646 s1.toNatClampNeg (vp_nar .boolean s0) → B12 l1 (l2 + 1) t902))
def zf_MO_findFacts_130 (K : zs_T → Prop) (B2 : Int32 → zs_T → Prop) (B12 : Int32 → Int32 → zs_T → Prop) (l1 : Int32) (l2 : Int32) (s0 : Int32) (st : zs_T) : Prop :=
  zf_MO_findFacts_131 K B2 B12 l1 l2 0 s0 st
def zf_MO_findFacts_20_s (K : zs_T → Prop) (B2 : Int32 → zs_T → Prop) (B12 : Int32 → Int32 → zs_T → Prop) (B20 : Int32 → Int32 → Int32 → zs_T → Prop) (l1 : Int32) (l2 : Int32) (l3 : Int32) (st : zs_T) : Prop :=
  ((16 ≤ l3 → (vp_in l1 201 ∧ (((st.1 643 l1.toNatClampNeg) = 0 → zf_MO_findFacts_130 K B2 B12 l1 l2 ((16 * l1) + l2) st) ∧ (¬ (st.1 643 l1.toNatClampNeg) = 0 → ((l1 ≤ 0 → zf_MO_findFacts_130 K B2 B12 l1 l2 ((16 * l1) + l2) st) ∧ (¬ l1 ≤ 0 → zf_MO_findFacts_131 K B2 B12 l1 l2 1 ((16 * l1) + l2) st)))))) ∧ (¬ 16 ≤ l3 → (vp_in l1 201 ∧ (((st.1 643 l1.toNatClampNeg) = 0 → zf_MO_findFacts_60 K B2 B12 B20 l1 l2 l3 (((256 * l1) + (16 * l2)) + l3) st) ∧ (¬ (st.1 643 l1.toNatClampNeg) = 0 → ((l2 = l3 → zf_MO_findFacts_60 K B2 B12 B20 l1 l2 l3 (((256 * l1) + (16 * l2)) + l3) st) ∧ (¬ l2 = l3 → zf_MO_findFacts_61 K B2 B12 B20 l1 l2 l3 1 (((256 * l1) + (16 * l2)) + l3) st)))))))
def zf_MO_findFacts_20 (K : zs_T → Prop) (B2 : Int32 → zs_T → Prop) (B12 : Int32 → Int32 → zs_T → Prop) : Nat → Int32 → Int32 → Int32 → zs_T → Prop
  | 0 => fun _ _ _ _ => False
  | n + 1 => zf_MO_findFacts_20_s K B2 B12 (zf_MO_findFacts_20 K B2 B12 n)
def zf_MO_findFacts_12_s (K : zs_T → Prop) (B2 : Int32 → zs_T → Prop) (B12 : Int32 → Int32 → zs_T → Prop) (l1 : Int32) (l2 : Int32) (st : zs_T) : Prop :=
  ((16 ≤ l2 → B2 (l1 + 1) st) ∧ (¬ 16 ≤ l2 → ∃ n, zf_MO_findFacts_20 K B2 B12 n l1 l2 0 st))
def zf_MO_findFacts_12 (K : zs_T → Prop) (B2 : Int32 → zs_T → Prop) : Nat → Int32 → Int32 → zs_T → Prop
  | 0 => fun _ _ _ => False
  | n + 1 => zf_MO_findFacts_12_s K B2 (zf_MO_findFacts_12 K B2 n)
def zf_MO_findFacts_219 (K : zs_T → Prop) (B146 : Int32 → zs_T → Prop) (B154 : Int32 → Int32 → zs_T → Prop) (B181 : Int32 → Int32 → Int32 → zs_T → Prop) (l1 : Int32) (l2 : Int32) (l3 : Int32) (st : zs_T) : Prop :=
  B181 l1 l2 (l3 + 1) st
def zf_MO_findFacts_218 (K : zs_T → Prop) (B146 : Int32 → zs_T → Prop) (B154 : Int32 → Int32 → zs_T → Prop) (B181 : Int32 → Int32 → Int32 → zs_T → Prop) (l2 : Int32) (l3 : Int32) (s0 : Int32) (st : zs_T) : Prop :=
  zf_MO_findFacts_219 K B146 B154 B181 s0 l2 l3 st
def zf_MO_findFacts_213 (K : zs_T → Prop) (B146 : Int32 → zs_T → Prop) (B154 : Int32 → Int32 → zs_T → Prop) (B181 : Int32 → Int32 → Int32 → zs_T → Prop) (l2 : Int32) (l3 : Int32) (st : zs_T) : Prop :=
  zf_MO_findFacts_218 K B146 B154 B181 l2 l3 1 st
def zf_MO_findFacts_225 (K : zs_T → Prop) (B146 : Int32 → zs_T → Prop) (B154 : Int32 → Int32 → zs_T → Prop) (l1 : Int32) (l2 : Int32) (st : zs_T) : Prop :=
  B154 l1 (l2 + 1) st
def zf_MO_findFacts_181_s (K : zs_T → Prop) (B146 : Int32 → zs_T → Prop) (B154 : Int32 → Int32 → zs_T → Prop) (B181 : Int32 → Int32 → Int32 → zs_T → Prop) (l1 : Int32) (l2 : Int32) (l3 : Int32) (st : zs_T) : Prop :=
  ((2 ≤ l3 → zf_MO_findFacts_225 K B146 B154 l1 l2 st) ∧ (¬ 2 ≤ l3 → zf_MO_next l2 l3 st (fun r602 u601 => ((r602 = (-1) → zf_MO_findFacts_219 K B146 B154 B181 l1 l2 l3 u601) ∧ (¬ r602 = (-1) → zf_MO_next l2 l3 u601 (fun r604 u603 => zf_MO_meets r604 u603 (fun r606 u605 => ((¬ r606 = 0 → zf_MO_findFacts_213 K B146 B154 B181 l2 l3 u605) ∧ (r606 = 0 → ((l1 = 0 → zf_MO_findFacts_218 K B146 B154 B181 l2 l3 0 u605) ∧ (¬ l1 = 0 → zf_MO_findFacts_213 K B146 B154 B181 l2 l3 u605)))))))))))
def zf_MO_findFacts_181 (K : zs_T → Prop) (B146 : Int32 → zs_T → Prop) (B154 : Int32 → Int32 → zs_T → Prop) : Nat → Int32 → Int32 → Int32 → zs_T → Prop
  | 0 => fun _ _ _ _ => False
  | n + 1 => zf_MO_findFacts_181_s K B146 B154 (zf_MO_findFacts_181 K B146 B154 n)
def zf_MO_findFacts_154_s (K : zs_T → Prop) (B146 : Int32 → zs_T → Prop) (B154 : Int32 → Int32 → zs_T → Prop) (l1 : Int32) (l2 : Int32) (st : zs_T) : Prop :=
  (((st.1 635 5) ≤ l2 → B146 l1 st) ∧ (¬ (st.1 635 5) ≤ l2 → (vp_in l2 201 ∧ ((¬ (st.1 643 l2.toNatClampNeg) = 0 → zf_MO_pass l2 st (fun u402 => ∃ n, zf_MO_findFacts_181 K B146 B154 n l1 l2 0 u402)) ∧ ((st.1 643 l2.toNatClampNeg) = 0 → zf_MO_findFacts_225 K B146 B154 l1 l2 st)))))
def zf_MO_findFacts_154 (K : zs_T → Prop) (B146 : Int32 → zs_T → Prop) : Nat → Int32 → Int32 → zs_T → Prop
  | 0 => fun _ _ _ => False
  | n + 1 => zf_MO_findFacts_154_s K B146 (zf_MO_findFacts_154 K B146 n)
def zf_MO_findFacts_146_s (K : zs_T → Prop) (B146 : Int32 → zs_T → Prop) (l1 : Int32) (st : zs_T) : Prop :=
  ((l1 = 0 → K st) ∧ (¬ l1 = 0 → ∃ n, zf_MO_findFacts_154 K B146 n 0 0 st))
def zf_MO_findFacts_146 (K : zs_T → Prop) : Nat → Int32 → zs_T → Prop
  | 0 => fun _ _ => False
  | n + 1 => zf_MO_findFacts_146_s K (zf_MO_findFacts_146 K n)
def zf_MO_findFacts_2_s (K : zs_T → Prop) (B2 : Int32 → zs_T → Prop) (l1 : Int32) (st : zs_T) : Prop :=
  (((st.1 635 5) < l1 → ∃ n, zf_MO_findFacts_146 K n 1 st) ∧ (¬ (st.1 635 5) < l1 → ∃ n, zf_MO_findFacts_12 K B2 n l1 0 st))
def zf_MO_findFacts_2 (K : zs_T → Prop) : Nat → Int32 → zs_T → Prop
  | 0 => fun _ _ => False
  | n + 1 => zf_MO_findFacts_2_s K (zf_MO_findFacts_2 K n)
def zf_MO_findFacts  (st : zs_T) (K : zs_T → Prop) : Prop :=
  ∃ n, zf_MO_findFacts_2 K n 0 st
