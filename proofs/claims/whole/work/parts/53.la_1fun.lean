/-! what the law's helpers do: by program -/
def zf_LA_add (l1 l2 l3 l4 : Int32) (st : zs_T) (K : Int32 → zs_T → Prop) : Prop :=
  (zf_TS_add l1 l2 l3 l4 st (fun r2 u1 => (vp_in 0 1 ∧ (∀ t4 : zs_T, t4 = zs_l u1 658 (0 : Int32).toNatClampNeg r2.toInt64 → K 0 t4))) ∨ zg_TS_add l1 l2 l3 l4 st (fun E u => (E = "java/lang/IllegalArgumentException" ∧ K 1 u) ∨ (E = "java/lang/IllegalStateException" ∧ K 2 u)))
def zf_LA_thrift (st : zs_T) (K : Int32 → zs_T → Prop) : Prop :=
  (zf_TS_thrift st (fun r2 u1 => (vp_in 0 1 ∧ (∀ t4 : zs_T, t4 = zs_l u1 658 (0 : Int32).toNatClampNeg r2.toInt64 → K 0 t4))) ∨ zg_TS_thrift st (fun E u => (E = "java/lang/IllegalStateException" ∧ K 1 u)))
def zf_LA_instruction (l1 l2 l3 : Int32) (st : zs_T) (K : Int32 → zs_T → Prop) : Prop :=
  (zf_TS_instruction l1 l2 l3 st (fun r2 u1 => (vp_in 0 1 ∧ (∀ t4 : zs_T, t4 = zs_l u1 658 (0 : Int32).toNatClampNeg r2.toInt64 → K 0 t4))) ∨ zg_TS_instruction l1 l2 l3 st (fun E u => (E = "java/lang/IndexOutOfBoundsException" ∧ K 1 u) ∨ (E = "java/lang/IllegalArgumentException" ∧ K 2 u) ∨ (E = "java/lang/IllegalStateException" ∧ K 3 u)))
def zf_LA_fate (l1 : Int32) (st : zs_T) (K : Int32 → zs_T → Prop) : Prop :=
  (zf_TS_fate l1 st (fun r2 u1 => (vp_in 0 1 ∧ (∀ t4 : zs_T, t4 = zs_l u1 658 (0 : Int32).toNatClampNeg r2.toInt64 → K 0 t4))) ∨ zg_TS_fate l1 st (fun E u => (E = "java/lang/IndexOutOfBoundsException" ∧ K 1 u) ∨ (E = "java/lang/IllegalStateException" ∧ K 2 u)))
def zf_LA_rounds (st : zs_T) (K : Int32 → zs_T → Prop) : Prop :=
  (zf_TS_rounds st (fun r2 u1 => (vp_in 0 1 ∧ (∀ t4 : zs_T, t4 = zs_l u1 658 (0 : Int32).toNatClampNeg r2.toInt64 → K 0 t4))) ∨ zg_TS_rounds st (fun E u => (E = "java/lang/IllegalStateException" ∧ K 1 u)))
def zf_LA_may (l1 l2 : Int32) (st : zs_T) (K : Int32 → zs_T → Prop) : Prop :=
  (zf_TS_may l1 l2 st (fun r2 u1 => ((r2 = 0 → (vp_in 0 1 ∧ (∀ t4 : zs_T, t4 = zs_l u1 658 (0 : Int32).toNatClampNeg 0 → K 0 t4))) ∧ (¬ r2 = 0 → (vp_in 0 1 ∧ (∀ t6 : zs_T, t6 = zs_l u1 658 (0 : Int32).toNatClampNeg 1 → K 0 t6))))) ∨ zg_TS_may l1 l2 st (fun E u => (E = "java/lang/IndexOutOfBoundsException" ∧ K 1 u) ∨ (E = "java/lang/IllegalStateException" ∧ K 2 u)))
def zf_LA_inside (l1 l2 : Int32) (st : zs_T) (K : Int32 → zs_T → Prop) : Prop :=
  (zf_TS_inside l1 l2 st (fun r2 u1 => ((r2 = 0 → (vp_in 0 1 ∧ (∀ t4 : zs_T, t4 = zs_l u1 658 (0 : Int32).toNatClampNeg 0 → K 0 t4))) ∧ (¬ r2 = 0 → (vp_in 0 1 ∧ (∀ t6 : zs_T, t6 = zs_l u1 658 (0 : Int32).toNatClampNeg 1 → K 0 t6))))) ∨ zg_TS_inside l1 l2 st (fun E u => (E = "java/lang/IndexOutOfBoundsException" ∧ K 1 u) ∨ (E = "java/lang/IllegalStateException" ∧ K 2 u)))
def zf_LA_fact (l1 l2 l3 l4 : Int32) (st : zs_T) (K : Int32 → zs_T → Prop) : Prop :=
  (zf_TS_fact l1 l2 l3 l4 st (fun r2 u1 => ((r2 = 0 → (vp_in 0 1 ∧ (∀ t4 : zs_T, t4 = zs_l u1 658 (0 : Int32).toNatClampNeg 0 → K 0 t4))) ∧ (¬ r2 = 0 → (vp_in 0 1 ∧ (∀ t6 : zs_T, t6 = zs_l u1 658 (0 : Int32).toNatClampNeg 1 → K 0 t6))))) ∨ zg_TS_fact l1 l2 l3 l4 st (fun E u => (E = "java/lang/IndexOutOfBoundsException" ∧ K 1 u) ∨ (E = "java/lang/IllegalArgumentException" ∧ K 2 u) ∨ (E = "java/lang/IllegalStateException" ∧ K 3 u)))
def zf_LA_free (l1 l2 : Int32) (st : zs_T) (K : Int32 → zs_T → Prop) : Prop :=
  (zf_TS_free l1 l2 st (fun r2 u1 => ((r2 = 0 → (vp_in 0 1 ∧ (∀ t4 : zs_T, t4 = zs_l u1 658 (0 : Int32).toNatClampNeg 0 → K 0 t4))) ∧ (¬ r2 = 0 → (vp_in 0 1 ∧ (∀ t6 : zs_T, t6 = zs_l u1 658 (0 : Int32).toNatClampNeg 1 → K 0 t6))))) ∨ zg_TS_free l1 l2 st (fun E u => (E = "java/lang/IndexOutOfBoundsException" ∧ K 1 u) ∨ (E = "java/lang/IllegalStateException" ∧ K 2 u)))
def zf_LA_run (l1 l2 : Int32) (st : zs_T) (K : Int32 → zs_T → Prop) : Prop :=
  (zf_TS_run l1 l2 st (fun r2 u1 => (vp_in 0 1 ∧ (∀ t4 : zs_T, t4 = zs_l u1 658 (0 : Int32).toNatClampNeg r2.toInt64 → K 0 t4))) ∨ zg_TS_run l1 l2 st (fun E u => (E = "java/lang/IllegalArgumentException" ∧ K 1 u) ∨ (E = "java/lang/IllegalStateException" ∧ K 2 u)))
def zf_LA_print (l1 : Int32) (st : zs_T) (K : Int32 → zs_T → Prop) : Prop :=
  (zf_TS_print l1 st (fun r2 u1 => (vp_in 0 1 ∧ (∀ t4 : zs_T, t4 = zs_l u1 658 (0 : Int32).toNatClampNeg r2.toInt64 → K 0 t4))) ∨ zg_TS_print l1 st (fun E u => (E = "java/lang/IndexOutOfBoundsException" ∧ K 1 u)))
def zf_LA_cell (l1 l2 l3 : Int32) (st : zs_T) (K : Int32 → zs_T → Prop) : Prop :=
  (zf_TS_cell l1 l2 l3 st (fun r2 u1 => (vp_in 0 1 ∧ (∀ t4 : zs_T, t4 = zs_l u1 658 (0 : Int32).toNatClampNeg r2.toInt64 → K 0 t4))) ∨ zg_TS_cell l1 l2 l3 st (fun E u => (E = "java/lang/IndexOutOfBoundsException" ∧ K 1 u) ∨ (E = "java/lang/IllegalArgumentException" ∧ K 2 u)))
