/-! what the methods need and do, as pure predicates: by program (wip/whole/gen) -/
def zf_AD_has (d0 n0 : Nat) (l1 : Int32) (l2 : Int32) (st : zs_T) (K : Int32 → zs_T → Prop) : Prop :=
  (vp_in ((l1 * 4) + (l2 >>> ((6 : Int32) &&& 31))) n0 ∧ (((lg_cmp ((((st.2 d0 ((l1 * 4) + (l2 >>> ((6 : Int32) &&& 31))).toNatClampNeg).toUInt64 >>> ((l2 &&& 63).toInt64.toUInt64 &&& Int64.toUInt64 63)).toInt64) &&& 1) 0) = 0 → K 0 st) ∧ (¬ (lg_cmp ((((st.2 d0 ((l1 * 4) + (l2 >>> ((6 : Int32) &&& 31))).toNatClampNeg).toUInt64 >>> ((l2 &&& 63).toInt64.toUInt64 &&& Int64.toUInt64 63)).toInt64) &&& 1) 0) = 0 → K 1 st)))
def zf_AD_join_56 (d0 n0 : Nat) (d2 n2 : Nat) (K : Int32 → zs_T → Prop) (B6 : Int32 → Int32 → Int32 → Int32 → zs_T → Prop) (l1 : Int32) (l3 : Int32) (l4 : Int32) (l5 : Int32) (st : zs_T) : Prop :=
  B6 l1 l3 l4 (l5 + 1) st
def zf_AD_join_6_s (d0 n0 : Nat) (d2 n2 : Nat) (K : Int32 → zs_T → Prop) (B6 : Int32 → Int32 → Int32 → Int32 → zs_T → Prop) (l1 : Int32) (l3 : Int32) (l4 : Int32) (l5 : Int32) (st : zs_T) : Prop :=
  ((4 ≤ l5 → (zs_bz l4 ∧ K l4 st)) ∧ (¬ 4 ≤ l5 → (vp_in ((l1 * 4) + l5) n0 ∧ (vp_in ((l3 * 4) + l5) n2 ∧ (((lg_cmp ((st.2 d0 ((l1 * 4) + l5).toNatClampNeg) ||| (st.2 d2 ((l3 * 4) + l5).toNatClampNeg)) (st.2 d0 ((l1 * 4) + l5).toNatClampNeg)) = 0 → zf_AD_join_56 d0 n0 d2 n2 K B6 l1 l3 l4 l5 st) ∧ (¬ (lg_cmp ((st.2 d0 ((l1 * 4) + l5).toNatClampNeg) ||| (st.2 d2 ((l3 * 4) + l5).toNatClampNeg)) (st.2 d0 ((l1 * 4) + l5).toNatClampNeg)) = 0 → (vp_in ((l1 * 4) + l5) n0 ∧ (∀ t105 : zs_T, t105 = zs_l st d0 ((l1 * 4) + l5).toNatClampNeg ((st.2 d0 ((l1 * 4) + l5).toNatClampNeg) ||| (st.2 d2 ((l3 * 4) + l5).toNatClampNeg)) → zf_AD_join_56 d0 n0 d2 n2 K B6 l1 l3 1 l5 t105))))))))
def zf_AD_join_6 (d0 n0 : Nat) (d2 n2 : Nat) (K : Int32 → zs_T → Prop) : Nat → Int32 → Int32 → Int32 → Int32 → zs_T → Prop
  | 0 => fun _ _ _ _ _ => False
  | n + 1 => zf_AD_join_6_s d0 n0 d2 n2 K (zf_AD_join_6 d0 n0 d2 n2 K n)
def zf_AD_join (d0 n0 : Nat) (l1 : Int32) (d2 n2 : Nat) (l3 : Int32) (st : zs_T) (K : Int32 → zs_T → Prop) : Prop :=
  ∃ n, zf_AD_join_6 d0 n0 d2 n2 K n l1 l3 0 0 st
def zf_AD_enter (l1 : Int32) (l2 : Int32) (st : zs_T) (K : Int32 → zs_T → Prop) : Prop :=
  zf_AD_has 13 64 l1 l2 st (fun r2 u1 => ((r2 = 0 → (vp_in ((l1 * 4) + (l2 >>> ((6 : Int32) &&& 31))) 64 ∧ (vp_in ((l1 * 4) + (l2 >>> ((6 : Int32) &&& 31))) 64 ∧ (∀ t5 : zs_T, t5 = zs_l u1 13 ((l1 * 4) + (l2 >>> ((6 : Int32) &&& 31))).toNatClampNeg ((u1.2 13 ((l1 * 4) + (l2 >>> ((6 : Int32) &&& 31))).toNatClampNeg) ||| ((1 : Int64) <<< ((l2 &&& 63).toInt64 &&& 63))) → K 1 t5)))) ∧ (¬ r2 = 0 → K 0 u1)))
def zf_AD_followLoad_56 (K : Int32 → zs_T → Prop) (B5 : Int32 → Int32 → Int32 → Int32 → zs_T → Prop) (l1 : Int32) (l2 : Int32) (l3 : Int32) (l4 : Int32) (st : zs_T) : Prop :=
  B5 l1 l2 l3 (l4 + 1) st
def zf_AD_followLoad_5_s (K : Int32 → zs_T → Prop) (B5 : Int32 → Int32 → Int32 → Int32 → zs_T → Prop) (l1 : Int32) (l2 : Int32) (l3 : Int32) (l4 : Int32) (st : zs_T) : Prop :=
  (((st.1 12 3) ≤ l4 → (zs_bz l3 ∧ K l3 st)) ∧ (¬ (st.1 12 3) ≤ l4 → (vp_in l4 200 ∧ zf_AD_has 13 64 l2 (st.1 15 l4.toNatClampNeg) st (fun r104 u103 => ((r104 = 0 → zf_AD_followLoad_56 K B5 l1 l2 l3 l4 u103) ∧ (¬ r104 = 0 → (vp_in l4 200 ∧ zf_AD_join 13 64 l1 14 800 (u103.1 15 l4.toNatClampNeg) u103 (fun r107 u106 => ((r107 = 0 → zf_AD_followLoad_56 K B5 l1 l2 l3 l4 u106) ∧ (¬ r107 = 0 → zf_AD_followLoad_56 K B5 l1 l2 1 l4 u106))))))))))
def zf_AD_followLoad_5 (K : Int32 → zs_T → Prop) : Nat → Int32 → Int32 → Int32 → Int32 → zs_T → Prop
  | 0 => fun _ _ _ _ _ => False
  | n + 1 => zf_AD_followLoad_5_s K (zf_AD_followLoad_5 K n)
def zf_AD_followLoad (l1 : Int32) (l2 : Int32) (st : zs_T) (K : Int32 → zs_T → Prop) : Prop :=
  ∃ n, zf_AD_followLoad_5 K n l1 l2 0 0 st
def zf_AD_followStore_56 (K : Int32 → zs_T → Prop) (B5 : Int32 → Int32 → Int32 → Int32 → zs_T → Prop) (l1 : Int32) (l2 : Int32) (l3 : Int32) (l4 : Int32) (st : zs_T) : Prop :=
  B5 l1 l2 l3 (l4 + 1) st
def zf_AD_followStore_5_s (K : Int32 → zs_T → Prop) (B5 : Int32 → Int32 → Int32 → Int32 → zs_T → Prop) (l1 : Int32) (l2 : Int32) (l3 : Int32) (l4 : Int32) (st : zs_T) : Prop :=
  (((st.1 12 3) ≤ l4 → (zs_bz l3 ∧ K l3 st)) ∧ (¬ (st.1 12 3) ≤ l4 → (vp_in l4 200 ∧ zf_AD_has 13 64 l1 (st.1 15 l4.toNatClampNeg) st (fun r104 u103 => ((r104 = 0 → zf_AD_followStore_56 K B5 l1 l2 l3 l4 u103) ∧ (¬ r104 = 0 → (vp_in l4 200 ∧ zf_AD_join 14 800 (u103.1 15 l4.toNatClampNeg) 13 64 l2 u103 (fun r107 u106 => ((r107 = 0 → zf_AD_followStore_56 K B5 l1 l2 l3 l4 u106) ∧ (¬ r107 = 0 → zf_AD_followStore_56 K B5 l1 l2 1 l4 u106))))))))))
def zf_AD_followStore_5 (K : Int32 → zs_T → Prop) : Nat → Int32 → Int32 → Int32 → Int32 → zs_T → Prop
  | 0 => fun _ _ _ _ _ => False
  | n + 1 => zf_AD_followStore_5_s K (zf_AD_followStore_5 K n)
def zf_AD_followStore (l1 : Int32) (l2 : Int32) (st : zs_T) (K : Int32 → zs_T → Prop) : Prop :=
  ∃ n, zf_AD_followStore_5 K n l1 l2 0 0 st
def zf_AD_follow_83 (d1 : Nat) (K : Int32 → zs_T → Prop) (l3 : Int32) (l4 : Int32) (st : zs_T) : Prop :=
  zf_AD_join 13 64 l3 13 64 l4 st (fun r102 u101 => (zs_bz r102 ∧ K r102 u101))
def zf_AD_follow (d1 : Nat) (l2 : Int32) (st : zs_T) (K : Int32 → zs_T → Prop) : Prop :=
  (vp_in l2 200 ∧ (vp_in l2 200 ∧ (vp_in l2 200 ∧ (((st.1 (d1 + 1) l2.toNatClampNeg) = 1 → zf_AD_follow_83 d1 K (st.1 (d1 + 2) l2.toNatClampNeg) (st.1 (d1 + 3) l2.toNatClampNeg) st) ∧ (¬ (st.1 (d1 + 1) l2.toNatClampNeg) = 1 → (((st.1 (d1 + 1) l2.toNatClampNeg) = 2 → K 0 st) ∧ (¬ (st.1 (d1 + 1) l2.toNatClampNeg) = 2 → (((st.1 (d1 + 1) l2.toNatClampNeg) = 3 → K 0 st) ∧ (¬ (st.1 (d1 + 1) l2.toNatClampNeg) = 3 → (((st.1 (d1 + 1) l2.toNatClampNeg) = 4 → K 0 st) ∧ (¬ (st.1 (d1 + 1) l2.toNatClampNeg) = 4 → (((st.1 (d1 + 1) l2.toNatClampNeg) = 5 → K 0 st) ∧ (¬ (st.1 (d1 + 1) l2.toNatClampNeg) = 5 → (((st.1 (d1 + 1) l2.toNatClampNeg) = 6 → K 0 st) ∧ (¬ (st.1 (d1 + 1) l2.toNatClampNeg) = 6 → (((st.1 (d1 + 1) l2.toNatClampNeg) = 7 → zf_AD_follow_83 d1 K (st.1 (d1 + 2) l2.toNatClampNeg) (st.1 (d1 + 3) l2.toNatClampNeg) st) ∧ (¬ (st.1 (d1 + 1) l2.toNatClampNeg) = 7 → (((st.1 (d1 + 1) l2.toNatClampNeg) = 8 → zf_AD_enter (st.1 (d1 + 2) l2.toNatClampNeg) l2 st (fun r5 u4 => (zs_bz r5 ∧ K r5 u4))) ∧ (¬ (st.1 (d1 + 1) l2.toNatClampNeg) = 8 → (((st.1 (d1 + 1) l2.toNatClampNeg) = 9 → zf_AD_followLoad (st.1 (d1 + 2) l2.toNatClampNeg) (st.1 (d1 + 3) l2.toNatClampNeg) st (fun r8 u7 => (zs_bz r8 ∧ K r8 u7))) ∧ (¬ (st.1 (d1 + 1) l2.toNatClampNeg) = 9 → (((st.1 (d1 + 1) l2.toNatClampNeg) = 10 → zf_AD_followStore (st.1 (d1 + 2) l2.toNatClampNeg) (st.1 (d1 + 3) l2.toNatClampNeg) st (fun r11 u10 => (zs_bz r11 ∧ K r11 u10))) ∧ (¬ (st.1 (d1 + 1) l2.toNatClampNeg) = 10 → K 0 st)))))))))))))))))))))))
def zf_AD_listSites_46 (d1 : Nat) (K : zs_T → Prop) (B7 : Int32 → zs_T → Prop) (l2 : Int32) (st : zs_T) : Prop :=
  B7 (l2 + 1) st
def zf_AD_listSites_7_s (d1 : Nat) (K : zs_T → Prop) (B7 : Int32 → zs_T → Prop) (l2 : Int32) (st : zs_T) : Prop :=
  (((st.1 d1 4) ≤ l2 → K st) ∧ (¬ (st.1 d1 4) ≤ l2 → (vp_in l2 200 ∧ ((¬ (st.1 (d1 + 1) l2.toNatClampNeg) = 8 → zf_AD_listSites_46 d1 K B7 l2 st) ∧ ((st.1 (d1 + 1) l2.toNatClampNeg) = 8 → (vp_in (st.1 12 3) 200 ∧ (∀ t103 : zs_T, t103 = zs_i st 15 (st.1 12 3).toNatClampNeg l2 → (∀ t104 : zs_T, t104 = zs_i t103 12 3 ((t103.1 12 3) + 1) → zf_AD_listSites_46 d1 K B7 l2 t104))))))))
def zf_AD_listSites_7 (d1 : Nat) (K : zs_T → Prop) : Nat → Int32 → zs_T → Prop
  | 0 => fun _ _ => False
  | n + 1 => zf_AD_listSites_7_s d1 K (zf_AD_listSites_7 d1 K n)
def zf_AD_listSites (d1 : Nat) (st : zs_T) (K : zs_T → Prop) : Prop :=
  (∀ t1 : zs_T, t1 = zs_i st 12 3 0 → ∃ n, zf_AD_listSites_7 d1 K n 0 t1)
def zf_AD_haveCommonSite_41 (K : Int32 → zs_T → Prop) (B5 : Int32 → Int32 → Int32 → Int32 → zs_T → Prop) (l1 : Int32) (l2 : Int32) (l3 : Int32) (l4 : Int32) (st : zs_T) : Prop :=
  B5 l1 l2 l3 (l4 + 1) st
def zf_AD_haveCommonSite_5_s (K : Int32 → zs_T → Prop) (B5 : Int32 → Int32 → Int32 → Int32 → zs_T → Prop) (l1 : Int32) (l2 : Int32) (l3 : Int32) (l4 : Int32) (st : zs_T) : Prop :=
  ((4 ≤ l4 → (zs_bz l3 ∧ K l3 st)) ∧ (¬ 4 ≤ l4 → (vp_in ((l1 * 4) + l4) 64 ∧ (vp_in ((l2 * 4) + l4) 64 ∧ (((lg_cmp ((st.2 13 ((l1 * 4) + l4).toNatClampNeg) &&& (st.2 13 ((l2 * 4) + l4).toNatClampNeg)) 0) = 0 → zf_AD_haveCommonSite_41 K B5 l1 l2 l3 l4 st) ∧ (¬ (lg_cmp ((st.2 13 ((l1 * 4) + l4).toNatClampNeg) &&& (st.2 13 ((l2 * 4) + l4).toNatClampNeg)) 0) = 0 → zf_AD_haveCommonSite_41 K B5 l1 l2 1 l4 st))))))
def zf_AD_haveCommonSite_5 (K : Int32 → zs_T → Prop) : Nat → Int32 → Int32 → Int32 → Int32 → zs_T → Prop
  | 0 => fun _ _ _ _ _ => False
  | n + 1 => zf_AD_haveCommonSite_5_s K (zf_AD_haveCommonSite_5 K n)
def zf_AD_haveCommonSite (l1 : Int32) (l2 : Int32) (st : zs_T) (K : Int32 → zs_T → Prop) : Prop :=
  ∃ n, zf_AD_haveCommonSite_5 K n l1 l2 0 0 st
def zf_AD_findMeeting_44 (K : zs_T → Prop) (B2 : Int32 → zs_T → Prop) (B17 : Int32 → Int32 → zs_T → Prop) (l1 : Int32) (l2 : Int32) (st : zs_T) : Prop :=
  B17 l1 (l2 + 1) st
def zf_AD_findMeeting_17_s (K : zs_T → Prop) (B2 : Int32 → zs_T → Prop) (B17 : Int32 → Int32 → zs_T → Prop) (l1 : Int32) (l2 : Int32) (st : zs_T) : Prop :=
  ((16 ≤ l2 → B2 (l1 + 1) st) ∧ (¬ 16 ≤ l2 → zf_AD_haveCommonSite l1 l2 st (fun r202 u201 => ((r202 = 0 → zf_AD_findMeeting_44 K B2 B17 l1 l2 u201) ∧ (¬ r202 = 0 → (vp_in l1 16 ∧ (vp_in l1 16 ∧ (∀ t205 : zs_T, t205 = zs_i u201 16 l1.toNatClampNeg ((u201.1 16 l1.toNatClampNeg) ||| ((1 : Int32) <<< (l2 &&& 31))) → zf_AD_findMeeting_44 K B2 B17 l1 l2 t205))))))))
def zf_AD_findMeeting_17 (K : zs_T → Prop) (B2 : Int32 → zs_T → Prop) : Nat → Int32 → Int32 → zs_T → Prop
  | 0 => fun _ _ _ => False
  | n + 1 => zf_AD_findMeeting_17_s K B2 (zf_AD_findMeeting_17 K B2 n)
def zf_AD_findMeeting_2_s (K : zs_T → Prop) (B2 : Int32 → zs_T → Prop) (l1 : Int32) (st : zs_T) : Prop :=
  ((16 ≤ l1 → K st) ∧ (¬ 16 ≤ l1 → (vp_in l1 16 ∧ (∀ t102 : zs_T, t102 = zs_i st 16 l1.toNatClampNeg 0 → ∃ n, zf_AD_findMeeting_17 K B2 n l1 0 t102))))
def zf_AD_findMeeting_2 (K : zs_T → Prop) : Nat → Int32 → zs_T → Prop
  | 0 => fun _ _ => False
  | n + 1 => zf_AD_findMeeting_2_s K (zf_AD_findMeeting_2 K n)
def zf_AD_findMeeting  (st : zs_T) (K : zs_T → Prop) : Prop :=
  ∃ n, zf_AD_findMeeting_2 K n 0 st
def zf_AD_takeHolders_34 (K : zs_T → Prop) (B2 : Int32 → Int32 → zs_T → Prop) (l1 : Int32) (l2 : Int32) (st : zs_T) : Prop :=
  B2 l1 (l2 + 1) st
def zf_AD_takeHolders_2_s (K : zs_T → Prop) (B2 : Int32 → Int32 → zs_T → Prop) (l1 : Int32) (l2 : Int32) (st : zs_T) : Prop :=
  ((16 ≤ l2 → K st) ∧ (¬ 16 ≤ l2 → zf_AD_has 13 64 l2 l1 st (fun r102 u101 => ((r102 = 0 → zf_AD_takeHolders_34 K B2 l1 l2 u101) ∧ (¬ r102 = 0 → (∀ t103 : zs_T, t103 = zs_i u101 12 5 ((u101.1 12 5) &&& (((1 : Int32) <<< (l2 &&& 31)) ^^^ (-1))) → zf_AD_takeHolders_34 K B2 l1 l2 t103))))))
def zf_AD_takeHolders_2 (K : zs_T → Prop) : Nat → Int32 → Int32 → zs_T → Prop
  | 0 => fun _ _ _ => False
  | n + 1 => zf_AD_takeHolders_2_s K (zf_AD_takeHolders_2 K n)
def zf_AD_takeHolders (l1 : Int32) (st : zs_T) (K : zs_T → Prop) : Prop :=
  ∃ n, zf_AD_takeHolders_2 K n l1 0 st
def zf_AD_findUnkept_41 (d1 : Nat) (K : zs_T → Prop) (B8 : Int32 → zs_T → Prop) (l2 : Int32) (st : zs_T) : Prop :=
  B8 (l2 + 1) st
def zf_AD_findUnkept_8_s (d1 : Nat) (K : zs_T → Prop) (B8 : Int32 → zs_T → Prop) (l2 : Int32) (st : zs_T) : Prop :=
  (((st.1 12 3) ≤ l2 → K st) ∧ (¬ (st.1 12 3) ≤ l2 → (vp_in l2 200 ∧ (vp_in (st.1 15 l2.toNatClampNeg) 200 ∧ ((¬ (st.1 (d1 + 4) (st.1 15 l2.toNatClampNeg).toNatClampNeg) = 1 → zf_AD_findUnkept_41 d1 K B8 l2 st) ∧ ((st.1 (d1 + 4) (st.1 15 l2.toNatClampNeg).toNatClampNeg) = 1 → (vp_in l2 200 ∧ zf_AD_takeHolders (st.1 15 l2.toNatClampNeg) st (fun u104 => zf_AD_findUnkept_41 d1 K B8 l2 u104))))))))
def zf_AD_findUnkept_8 (d1 : Nat) (K : zs_T → Prop) : Nat → Int32 → zs_T → Prop
  | 0 => fun _ _ => False
  | n + 1 => zf_AD_findUnkept_8_s d1 K (zf_AD_findUnkept_8 d1 K n)
def zf_AD_findUnkept (d1 : Nat) (st : zs_T) (K : zs_T → Prop) : Prop :=
  (∀ t1 : zs_T, t1 = zs_i st 12 5 65535 → ∃ n, zf_AD_findUnkept_8 d1 K n 0 t1)
def zf_AD_find_61 (d1 : Nat) (K : zs_T → Prop) (B25 : Int32 → Int32 → zs_T → Prop) (B40 : Int32 → Int32 → Int32 → zs_T → Prop) (l2 : Int32) (l3 : Int32) (l4 : Int32) (st : zs_T) : Prop :=
  B40 l2 l3 (l4 + 1) st
def zf_AD_find_40_s (d1 : Nat) (K : zs_T → Prop) (B25 : Int32 → Int32 → zs_T → Prop) (B40 : Int32 → Int32 → Int32 → zs_T → Prop) (l2 : Int32) (l3 : Int32) (l4 : Int32) (st : zs_T) : Prop :=
  (((st.1 d1 4) ≤ l4 → B25 l2 (l3 + 1) st) ∧ (¬ (st.1 d1 4) ≤ l4 → zf_AD_follow d1 l4 st (fun r302 u301 => ((r302 = 0 → zf_AD_find_61 d1 K B25 B40 l2 l3 l4 u301) ∧ (¬ r302 = 0 → zf_AD_find_61 d1 K B25 B40 1 l3 l4 u301)))))
def zf_AD_find_40 (d1 : Nat) (K : zs_T → Prop) (B25 : Int32 → Int32 → zs_T → Prop) : Nat → Int32 → Int32 → Int32 → zs_T → Prop
  | 0 => fun _ _ _ _ => False
  | n + 1 => zf_AD_find_40_s d1 K B25 (zf_AD_find_40 d1 K B25 n)
def zf_AD_find_73 (d1 : Nat) (K : zs_T → Prop)  (st : zs_T) : Prop :=
  zf_AD_findMeeting st (fun u201 => zf_AD_findUnkept d1 u201 (fun u202 => K u202))
def zf_AD_find_25_s (d1 : Nat) (K : zs_T → Prop) (B25 : Int32 → Int32 → zs_T → Prop) (l2 : Int32) (l3 : Int32) (st : zs_T) : Prop :=
  ((l2 = 0 → zf_AD_find_73 d1 K st) ∧ (¬ l2 = 0 → ((1000000 ≤ l3 → zf_AD_find_73 d1 K st) ∧ (¬ 1000000 ≤ l3 → ∃ n, zf_AD_find_40 d1 K B25 n 0 l3 0 st))))
def zf_AD_find_25 (d1 : Nat) (K : zs_T → Prop) : Nat → Int32 → Int32 → zs_T → Prop
  | 0 => fun _ _ _ => False
  | n + 1 => zf_AD_find_25_s d1 K (zf_AD_find_25 d1 K n)
def zf_AD_find (d1 : Nat) (st : zs_T) (K : zs_T → Prop) : Prop :=
  zf_AR_fill_AJJV 13 64 0 st (fun u1 => zf_AR_fill_AJJV 14 800 0 u1 (fun u2 => zf_AD_listSites d1 u2 (fun u3 => ∃ n, zf_AD_find_25 d1 K n 1 0 u3)))
def zf_AD_mayBe (l1 : Int32) (l2 : Int32) (st : zs_T) (K : Int32 → zs_T → Prop) : Prop :=
  zf_AD_has 13 64 l1 l2 st (fun r2 u1 => (zs_bz r2 ∧ K r2 u1))
def zf_AD_mayHold (l1 : Int32) (l2 : Int32) (st : zs_T) (K : Int32 → zs_T → Prop) : Prop :=
  zf_AD_has 14 800 l1 l2 st (fun r2 u1 => (zs_bz r2 ∧ K r2 u1))
