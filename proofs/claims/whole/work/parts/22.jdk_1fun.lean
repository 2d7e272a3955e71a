/-! what the methods need and do, as pure predicates: by program (wip/whole/gen) -/
def zf_AR_fill_AIIV_5_s (d0 n0 : Nat) (K : zs_T → Prop) (B5 : Int32 → Int32 → Int32 → zs_T → Prop) (l1 : Int32) (l2 : Int32) (l3 : Int32) (st : zs_T) : Prop :=
  ((l3 ≤ l2 → K st) ∧ (¬ l3 ≤ l2 → (vp_in l2 n0 ∧ (∀ t102 : zs_T, t102 = zs_i st d0 l2.toNatClampNeg l1 → B5 l1 (l2 + 1) l3 t102))))
def zf_AR_fill_AIIV_5 (d0 n0 : Nat) (K : zs_T → Prop) : Nat → Int32 → Int32 → Int32 → zs_T → Prop
  | 0 => fun _ _ _ _ => False
  | n + 1 => zf_AR_fill_AIIV_5_s d0 n0 K (zf_AR_fill_AIIV_5 d0 n0 K n)
def zf_AR_fill_AIIV (d0 n0 : Nat) (l1 : Int32) (st : zs_T) (K : zs_T → Prop) : Prop :=
  ∃ n, zf_AR_fill_AIIV_5 d0 n0 K n l1 0 (nI n0) st
def zf_AR_fill_AJJV_6_s (d0 n0 : Nat) (K : zs_T → Prop) (B6 : Int64 → Int32 → Int32 → zs_T → Prop) (l1 : Int64) (l3 : Int32) (l4 : Int32) (st : zs_T) : Prop :=
  ((l4 ≤ l3 → K st) ∧ (¬ l4 ≤ l3 → (vp_in l3 n0 ∧ (∀ t102 : zs_T, t102 = zs_l st d0 l3.toNatClampNeg l1 → B6 l1 (l3 + 1) l4 t102))))
def zf_AR_fill_AJJV_6 (d0 n0 : Nat) (K : zs_T → Prop) : Nat → Int64 → Int32 → Int32 → zs_T → Prop
  | 0 => fun _ _ _ _ => False
  | n + 1 => zf_AR_fill_AJJV_6_s d0 n0 K (zf_AR_fill_AJJV_6 d0 n0 K n)
def zf_AR_fill_AJJV (d0 n0 : Nat) (l1 : Int64) (st : zs_T) (K : zs_T → Prop) : Prop :=
  ∃ n, zf_AR_fill_AJJV_6 d0 n0 K n l1 0 (nI n0) st
def zf_IN_numberOfTrailingZeros_II_74 (K : Int32 → zs_T → Prop) (l0 : Int32) (l1 : Int32) (st : zs_T) : Prop :=
  K (l1 + ((l0.toUInt32 >>> ((1 : Int32).toUInt32 &&& Int32.toUInt32 31)).toInt32)) st
def zf_IN_numberOfTrailingZeros_II_62 (K : Int32 → zs_T → Prop) (l0 : Int32) (l1 : Int32) (st : zs_T) : Prop :=
  ((l0 ≤ 4 → zf_IN_numberOfTrailingZeros_II_74 K l0 l1 st) ∧ (¬ l0 ≤ 4 → zf_IN_numberOfTrailingZeros_II_74 K ((l0.toUInt32 >>> ((2 : Int32).toUInt32 &&& Int32.toUInt32 31)).toInt32) (l1 + 2) st))
def zf_IN_numberOfTrailingZeros_II_49 (K : Int32 → zs_T → Prop) (l0 : Int32) (l1 : Int32) (st : zs_T) : Prop :=
  ((l0 ≤ 16 → zf_IN_numberOfTrailingZeros_II_62 K l0 l1 st) ∧ (¬ l0 ≤ 16 → zf_IN_numberOfTrailingZeros_II_62 K ((l0.toUInt32 >>> ((4 : Int32).toUInt32 &&& Int32.toUInt32 31)).toInt32) (l1 + 4) st))
def zf_IN_numberOfTrailingZeros_II_34 (K : Int32 → zs_T → Prop) (l0 : Int32) (l1 : Int32) (st : zs_T) : Prop :=
  ((l0 ≤ 256 → zf_IN_numberOfTrailingZeros_II_49 K l0 l1 st) ∧ (¬ l0 ≤ 256 → zf_IN_numberOfTrailingZeros_II_49 K ((l0.toUInt32 >>> ((8 : Int32).toUInt32 &&& Int32.toUInt32 31)).toInt32) (l1 + 8) st))
def zf_IN_numberOfTrailingZeros_II (l0 : Int32) (st : zs_T) (K : Int32 → zs_T → Prop) : Prop :=
  ((0 < ((l0 ^^^ (-1)) &&& (l0 - 1)) → ((((l0 ^^^ (-1)) &&& (l0 - 1)) ≤ 65536 → zf_IN_numberOfTrailingZeros_II_34 K ((l0 ^^^ (-1)) &&& (l0 - 1)) 1 st) ∧ (¬ ((l0 ^^^ (-1)) &&& (l0 - 1)) ≤ 65536 → zf_IN_numberOfTrailingZeros_II_34 K ((((l0 ^^^ (-1)) &&& (l0 - 1)).toUInt32 >>> ((16 : Int32).toUInt32 &&& Int32.toUInt32 31)).toInt32) (1 + 16) st))) ∧ (¬ 0 < ((l0 ^^^ (-1)) &&& (l0 - 1)) → K (((l0 ^^^ (-1)) &&& (l0 - 1)) &&& 32) st))
