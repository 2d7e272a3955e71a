/-! what the methods need and do, as pure predicates: by program (wip/whole/gen) -/
def zf_TS_needPresent (l0 : Int32) (st : zs_T) (K : zs_T → Prop) : Prop :=
  ((¬ l0 = 0 → K st) ∧ (l0 = 0 → False))
def zf_TS_needSensible (l0 : Int32) (st : zs_T) (K : zs_T → Prop) : Prop :=
  ((¬ l0 = 0 → K st) ∧ (l0 = 0 → False))
def zf_TS_needThrifty (l1 : Int32) (st : zs_T) (K : zs_T → Prop) : Prop :=
  ((¬ l1 = 0 → K st) ∧ (l1 = 0 → ((¬ (st.1 0 7) = 0 → K st) ∧ ((st.1 0 7) = 0 → False))))
def zf_TS_add_41 (K : Int32 → zs_T → Prop)  (st : zs_T) : Prop :=
  False
def zf_TS_add (l1 : Int32) (l2 : Int32) (l3 : Int32) (l4 : Int32) (st : zs_T) (K : Int32 → zs_T → Prop) : Prop :=
  zf_PR_mayStand l1 l2 l3 l4 st (fun r2 u1 => ((¬ r2 = 0 → ((¬ (u1.1 0 7) = 0 → zf_TS_add_41 K u1) ∧ ((u1.1 0 7) = 0 → (((u1.1 1 4) < 200 → zf_PR_append 1 l1 l2 l3 l4 u1 (fun r4 u3 => K r4 u3)) ∧ (¬ (u1.1 1 4) < 200 → zf_TS_add_41 K u1))))) ∧ (r2 = 0 → False)))
def zf_TS_thrift_81 (K : Int32 → zs_T → Prop) (l1 : Int32) (st : zs_T) : Prop :=
  zf_TS_lookThrough 1 st (fun u201 => (∀ t202 : zs_T, t202 = zs_i u201 0 7 1 → K l1 t202))
def zf_TS_thrift_45_s (K : Int32 → zs_T → Prop) (B45 : Int32 → Int32 → zs_T → Prop) (l1 : Int32) (l2 : Int32) (st : zs_T) : Prop :=
  ((l2 = 0 → zf_TS_thrift_81 K l1 st) ∧ (¬ l2 = 0 → ((1000 ≤ (st.1 0 8) → zf_TS_thrift_81 K l1 st) ∧ (¬ 1000 ≤ (st.1 0 8) → zf_TS_makeRound st (fun r102 u101 => (∀ t103 : zs_T, t103 = zs_i u101 0 8 ((u101.1 0 8) + 1) → B45 (l1 + r102) r102 t103))))))
def zf_TS_thrift_45 (K : Int32 → zs_T → Prop) : Nat → Int32 → Int32 → zs_T → Prop
  | 0 => fun _ _ _ => False
  | n + 1 => zf_TS_thrift_45_s K (zf_TS_thrift_45 K n)
def zf_TS_thrift  (st : zs_T) (K : Int32 → zs_T → Prop) : Prop :=
  (((st.1 0 7) = 0 → zf_PR_copy 6 1 st (fun u1 => zf_AR_fill_AIIV 11 200 0 u1 (fun u2 => (∀ t3 : zs_T, t3 = zs_i u2 0 8 0 → ∃ n, zf_TS_thrift_45 K n 0 (-1) t3)))) ∧ (¬ (st.1 0 7) = 0 → False))
def zf_TS_instruction_22 (K : Int32 → zs_T → Prop) (l1 : Int32) (l2 : Int32) (l3 : Int32) (s0 : Int32) (st : zs_T) : Prop :=
  zf_TS_needSensible s0 st (fun u201 => zf_TS_needThrifty l3 u201 (fun u202 => ((l3 = 0 → zf_PR_part 6 l1 l2 u202 (fun r204 u203 => K r204 u203)) ∧ (¬ l3 = 0 → zf_PR_part 1 l1 l2 u202 (fun r206 u205 => K r206 u205)))))
def zf_TS_instruction_21 (K : Int32 → zs_T → Prop) (l1 : Int32) (l2 : Int32) (l3 : Int32) (st : zs_T) : Prop :=
  zf_TS_instruction_22 K l1 l2 l3 0 st
def zf_TS_instruction (l1 : Int32) (l2 : Int32) (l3 : Int32) (st : zs_T) (K : Int32 → zs_T → Prop) : Prop :=
  zf_TS_isInstruction l1 st (fun r2 u1 => zf_TS_needPresent r2 u1 (fun u3 => ((l2 < 0 → zf_TS_instruction_21 K l1 l2 l3 u3) ∧ (¬ l2 < 0 → ((3 < l2 → zf_TS_instruction_21 K l1 l2 l3 u3) ∧ (¬ 3 < l2 → zf_TS_instruction_22 K l1 l2 l3 1 u3))))))
def zf_TS_fate (l1 : Int32) (st : zs_T) (K : Int32 → zs_T → Prop) : Prop :=
  zf_TS_isInstruction l1 st (fun r2 u1 => zf_TS_needPresent r2 u1 (fun u3 => zf_TS_needThrifty 0 u3 (fun u4 => (vp_in l1 200 ∧ K (u4.1 11 l1.toNatClampNeg) u4))))
def zf_TS_rounds  (st : zs_T) (K : Int32 → zs_T → Prop) : Prop :=
  zf_TS_needThrifty 0 st (fun u1 => K (u1.1 0 8) u1)
def zf_TS_may_20 (K : Int32 → zs_T → Prop) (l1 : Int32) (l2 : Int32) (s0 : Int32) (st : zs_T) : Prop :=
  zf_TS_needPresent s0 st (fun u201 => zf_TS_needThrifty 0 u201 (fun u202 => zf_AD_mayBe l1 l2 u202 (fun r204 u203 => (zs_bz r204 ∧ K r204 u203))))
def zf_TS_may_19 (K : Int32 → zs_T → Prop) (l1 : Int32) (l2 : Int32) (st : zs_T) : Prop :=
  zf_TS_may_20 K l1 l2 0 st
def zf_TS_may (l1 : Int32) (l2 : Int32) (st : zs_T) (K : Int32 → zs_T → Prop) : Prop :=
  zf_TS_isRegister l1 st (fun r2 u1 => ((r2 = 0 → zf_TS_may_19 K l1 l2 u1) ∧ (¬ r2 = 0 → zf_TS_isInstruction l2 u1 (fun r4 u3 => ((r4 = 0 → zf_TS_may_19 K l1 l2 u3) ∧ (¬ r4 = 0 → zf_TS_may_20 K l1 l2 1 u3))))))
def zf_TS_inside_21 (K : Int32 → zs_T → Prop) (l1 : Int32) (l2 : Int32) (s0 : Int32) (st : zs_T) : Prop :=
  zf_TS_needPresent s0 st (fun u201 => zf_TS_needThrifty 0 u201 (fun u202 => zf_AD_mayHold l1 l2 u202 (fun r204 u203 => (zs_bz r204 ∧ K r204 u203))))
def zf_TS_inside_20 (K : Int32 → zs_T → Prop) (l1 : Int32) (l2 : Int32) (st : zs_T) : Prop :=
  zf_TS_inside_21 K l1 l2 0 st
def zf_TS_inside (l1 : Int32) (l2 : Int32) (st : zs_T) (K : Int32 → zs_T → Prop) : Prop :=
  zf_TS_isInstruction l1 st (fun r2 u1 => ((r2 = 0 → zf_TS_inside_20 K l1 l2 u1) ∧ (¬ r2 = 0 → zf_TS_isInstruction l2 u1 (fun r4 u3 => ((r4 = 0 → zf_TS_inside_20 K l1 l2 u3) ∧ (¬ r4 = 0 → zf_TS_inside_21 K l1 l2 1 u3))))))
def zf_TS_fact_64 (K : Int32 → zs_T → Prop) (l1 : Int32) (l2 : Int32) (l3 : Int32) (l4 : Int32) (s0 : Int32) (st : zs_T) : Prop :=
  zf_TS_needSensible s0 st (fun u501 => zf_TS_needThrifty 0 u501 (fun u502 => zf_KN_tells l1 l2 l3 l4 u502 (fun r504 u503 => (zs_bz r504 ∧ K r504 u503))))
def zf_TS_fact_59 (K : Int32 → zs_T → Prop) (l1 : Int32) (l2 : Int32) (l3 : Int32) (l4 : Int32) (st : zs_T) : Prop :=
  zf_TS_fact_64 K l1 l2 l3 l4 1 st
def zf_TS_fact_63 (K : Int32 → zs_T → Prop) (l1 : Int32) (l2 : Int32) (l3 : Int32) (l4 : Int32) (st : zs_T) : Prop :=
  zf_TS_fact_64 K l1 l2 l3 l4 0 st
def zf_TS_fact_50 (K : Int32 → zs_T → Prop) (l1 : Int32) (l2 : Int32) (l3 : Int32) (l4 : Int32) (st : zs_T) : Prop :=
  ((l2 < 3 → zf_TS_fact_59 K l1 l2 l3 l4 st) ∧ (¬ l2 < 3 → ((¬ l3 = 0 → zf_TS_fact_63 K l1 l2 l3 l4 st) ∧ (l3 = 0 → zf_TS_fact_59 K l1 l2 l3 l4 st))))
def zf_TS_fact_28 (K : Int32 → zs_T → Prop) (l1 : Int32) (l2 : Int32) (l3 : Int32) (l4 : Int32) (s0 : Int32) (st : zs_T) : Prop :=
  zf_TS_needPresent s0 st (fun u201 => ((l2 < 0 → zf_TS_fact_63 K l1 l2 l3 l4 u201) ∧ (¬ l2 < 0 → ((3 < l2 → zf_TS_fact_63 K l1 l2 l3 l4 u201) ∧ (¬ 3 < l2 → ((l2 < 2 → zf_TS_fact_50 K l1 l2 l3 l4 u201) ∧ (¬ l2 < 2 → ((¬ l4 = 0 → zf_TS_fact_63 K l1 l2 l3 l4 u201) ∧ (l4 = 0 → zf_TS_fact_50 K l1 l2 l3 l4 u201)))))))))
def zf_TS_fact_27 (K : Int32 → zs_T → Prop) (l1 : Int32) (l2 : Int32) (l3 : Int32) (l4 : Int32) (st : zs_T) : Prop :=
  zf_TS_fact_28 K l1 l2 l3 l4 0 st
def zf_TS_fact (l1 : Int32) (l2 : Int32) (l3 : Int32) (l4 : Int32) (st : zs_T) (K : Int32 → zs_T → Prop) : Prop :=
  zf_TS_isPoint l1 st (fun r2 u1 => ((r2 = 0 → zf_TS_fact_27 K l1 l2 l3 l4 u1) ∧ (¬ r2 = 0 → zf_TS_isRegister l3 u1 (fun r4 u3 => ((r4 = 0 → zf_TS_fact_27 K l1 l2 l3 l4 u3) ∧ (¬ r4 = 0 → zf_TS_isRegister l4 u3 (fun r6 u5 => ((r6 = 0 → zf_TS_fact_27 K l1 l2 l3 l4 u5) ∧ (¬ r6 = 0 → zf_TS_fact_28 K l1 l2 l3 l4 1 u5)))))))))
def zf_TS_free_20 (K : Int32 → zs_T → Prop) (l1 : Int32) (l2 : Int32) (s0 : Int32) (st : zs_T) : Prop :=
  zf_TS_needPresent s0 st (fun u201 => zf_TS_needThrifty 0 u201 (fun u202 => zf_FR_isFreeBehind l1 l2 u202 (fun r204 u203 => (zs_bz r204 ∧ K r204 u203))))
def zf_TS_free_19 (K : Int32 → zs_T → Prop) (l1 : Int32) (l2 : Int32) (st : zs_T) : Prop :=
  zf_TS_free_20 K l1 l2 0 st
def zf_TS_free (l1 : Int32) (l2 : Int32) (st : zs_T) (K : Int32 → zs_T → Prop) : Prop :=
  zf_TS_isPoint l1 st (fun r2 u1 => ((r2 = 0 → zf_TS_free_19 K l1 l2 u1) ∧ (¬ r2 = 0 → zf_TS_isRegister l2 u1 (fun r4 u3 => ((r4 = 0 → zf_TS_free_19 K l1 l2 u3) ∧ (¬ r4 = 0 → zf_TS_free_20 K l1 l2 1 u3))))))
def zf_TS_run_17 (K : Int32 → zs_T → Prop) (l1 : Int32) (l2 : Int32) (s0 : Int32) (st : zs_T) : Prop :=
  zf_TS_needSensible s0 st (fun u201 => zf_TS_needThrifty l1 u201 (fun u202 => ((l1 = 0 → zf_MA_perform 6 l2 u202 (fun r204 u203 => K r204 u203)) ∧ (¬ l1 = 0 → zf_MA_perform 1 l2 u202 (fun r206 u205 => K r206 u205)))))
def zf_TS_run_16 (K : Int32 → zs_T → Prop) (l1 : Int32) (l2 : Int32) (st : zs_T) : Prop :=
  zf_TS_run_17 K l1 l2 0 st
def zf_TS_run (l1 : Int32) (l2 : Int32) (st : zs_T) (K : Int32 → zs_T → Prop) : Prop :=
  ((l2 < 1 → zf_TS_run_16 K l1 l2 st) ∧ (¬ l2 < 1 → ((5000 < l2 → zf_TS_run_16 K l1 l2 st) ∧ (¬ 5000 < l2 → zf_TS_run_17 K l1 l2 1 st))))
def zf_TS_print_20 (K : Int32 → zs_T → Prop) (l1 : Int32) (s0 : Int32) (st : zs_T) : Prop :=
  zf_TS_needPresent s0 st (fun u201 => (vp_in l1 200 ∧ K (u201.1 634 l1.toNatClampNeg) u201))
def zf_TS_print_19 (K : Int32 → zs_T → Prop) (l1 : Int32) (st : zs_T) : Prop :=
  zf_TS_print_20 K l1 0 st
def zf_TS_print (l1 : Int32) (st : zs_T) (K : Int32 → zs_T → Prop) : Prop :=
  ((l1 < 0 → zf_TS_print_19 K l1 st) ∧ (¬ l1 < 0 → (((st.1 629 9) ≤ l1 → zf_TS_print_19 K l1 st) ∧ (¬ (st.1 629 9) ≤ l1 → zf_TS_print_20 K l1 1 st))))
def zf_TS_cell_26 (K : Int32 → zs_T → Prop) (l1 : Int32) (l2 : Int32) (l3 : Int32) (s0 : Int32) (st : zs_T) : Prop :=
  zf_TS_needSensible s0 st (fun u201 => zf_MA_partOfCell l1 l2 l3 u201 (fun r203 u202 => K r203 u202))
def zf_TS_cell_25 (K : Int32 → zs_T → Prop) (l1 : Int32) (l2 : Int32) (l3 : Int32) (st : zs_T) : Prop :=
  zf_TS_cell_26 K l1 l2 l3 0 st
def zf_TS_cell (l1 : Int32) (l2 : Int32) (l3 : Int32) (st : zs_T) (K : Int32 → zs_T → Prop) : Prop :=
  zf_MA_hasKeptCell l1 l2 st (fun r2 u1 => zf_TS_needPresent r2 u1 (fun u3 => ((l3 < 0 → zf_TS_cell_25 K l1 l2 l3 u3) ∧ (¬ l3 < 0 → ((2 < l3 → zf_TS_cell_25 K l1 l2 l3 u3) ∧ (¬ 2 < l3 → zf_TS_cell_26 K l1 l2 l3 1 u3))))))
