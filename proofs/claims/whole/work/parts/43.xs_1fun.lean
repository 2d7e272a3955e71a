/-! the same methods where they throw: by program (wip/whole/gen) -/
def zg_TS_needPresent (l0 : Int32) (st : zs_T) (KX : String → zs_T → Prop) : Prop :=
  ((¬ l0 = 0 → False) ∧ (l0 = 0 → KX "java/lang/IndexOutOfBoundsException" st))
def zg_TS_needSensible (l0 : Int32) (st : zs_T) (KX : String → zs_T → Prop) : Prop :=
  ((¬ l0 = 0 → False) ∧ (l0 = 0 → KX "java/lang/IllegalArgumentException" st))
def zg_TS_needThrifty (l1 : Int32) (st : zs_T) (KX : String → zs_T → Prop) : Prop :=
  ((¬ l1 = 0 → False) ∧ (l1 = 0 → ((¬ (st.1 0 7) = 0 → False) ∧ ((st.1 0 7) = 0 → KX "java/lang/IllegalStateException" st))))
def zg_TS_thrift  (st : zs_T) (KX : String → zs_T → Prop) : Prop :=
  (((st.1 0 7) = 0 → False) ∧ (¬ (st.1 0 7) = 0 → KX "java/lang/IllegalStateException" st))
def zg_TS_instruction_22 (KX : String → zs_T → Prop) (l1 : Int32) (l2 : Int32) (l3 : Int32) (s0 : Int32) (st : zs_T) : Prop :=
  (zf_TS_needSensible s0 st (fun u201 => (zf_TS_needThrifty l3 u201 (fun u202 => ((l3 = 0 → zf_PR_part 6 l1 l2 u202 (fun r204 u203 => False)) ∧ (¬ l3 = 0 → zf_PR_part 1 l1 l2 u202 (fun r206 u205 => False)))) ∨ zg_TS_needThrifty l3 u201 KX)) ∨ zg_TS_needSensible s0 st KX)
def zg_TS_instruction_21 (KX : String → zs_T → Prop) (l1 : Int32) (l2 : Int32) (l3 : Int32) (st : zs_T) : Prop :=
  zg_TS_instruction_22 KX l1 l2 l3 0 st
def zg_TS_instruction (l1 : Int32) (l2 : Int32) (l3 : Int32) (st : zs_T) (KX : String → zs_T → Prop) : Prop :=
  zf_TS_isInstruction l1 st (fun r2 u1 => (zf_TS_needPresent r2 u1 (fun u3 => ((l2 < 0 → zg_TS_instruction_21 KX l1 l2 l3 u3) ∧ (¬ l2 < 0 → ((3 < l2 → zg_TS_instruction_21 KX l1 l2 l3 u3) ∧ (¬ 3 < l2 → zg_TS_instruction_22 KX l1 l2 l3 1 u3))))) ∨ zg_TS_needPresent r2 u1 KX))
def zg_TS_fate (l1 : Int32) (st : zs_T) (KX : String → zs_T → Prop) : Prop :=
  zf_TS_isInstruction l1 st (fun r2 u1 => (zf_TS_needPresent r2 u1 (fun u3 => (zf_TS_needThrifty 0 u3 (fun u4 => (vp_in l1 200 ∧ False)) ∨ zg_TS_needThrifty 0 u3 KX)) ∨ zg_TS_needPresent r2 u1 KX))
def zg_TS_rounds  (st : zs_T) (KX : String → zs_T → Prop) : Prop :=
  (zf_TS_needThrifty 0 st (fun u1 => False) ∨ zg_TS_needThrifty 0 st KX)
def zg_TS_may_20 (KX : String → zs_T → Prop) (l1 : Int32) (l2 : Int32) (s0 : Int32) (st : zs_T) : Prop :=
  (zf_TS_needPresent s0 st (fun u201 => (zf_TS_needThrifty 0 u201 (fun u202 => zf_AD_mayBe l1 l2 u202 (fun r204 u203 => False)) ∨ zg_TS_needThrifty 0 u201 KX)) ∨ zg_TS_needPresent s0 st KX)
def zg_TS_may_19 (KX : String → zs_T → Prop) (l1 : Int32) (l2 : Int32) (st : zs_T) : Prop :=
  zg_TS_may_20 KX l1 l2 0 st
def zg_TS_may (l1 : Int32) (l2 : Int32) (st : zs_T) (KX : String → zs_T → Prop) : Prop :=
  zf_TS_isRegister l1 st (fun r2 u1 => ((r2 = 0 → zg_TS_may_19 KX l1 l2 u1) ∧ (¬ r2 = 0 → zf_TS_isInstruction l2 u1 (fun r4 u3 => ((r4 = 0 → zg_TS_may_19 KX l1 l2 u3) ∧ (¬ r4 = 0 → zg_TS_may_20 KX l1 l2 1 u3))))))
def zg_TS_inside_21 (KX : String → zs_T → Prop) (l1 : Int32) (l2 : Int32) (s0 : Int32) (st : zs_T) : Prop :=
  (zf_TS_needPresent s0 st (fun u201 => (zf_TS_needThrifty 0 u201 (fun u202 => zf_AD_mayHold l1 l2 u202 (fun r204 u203 => False)) ∨ zg_TS_needThrifty 0 u201 KX)) ∨ zg_TS_needPresent s0 st KX)
def zg_TS_inside_20 (KX : String → zs_T → Prop) (l1 : Int32) (l2 : Int32) (st : zs_T) : Prop :=
  zg_TS_inside_21 KX l1 l2 0 st
def zg_TS_inside (l1 : Int32) (l2 : Int32) (st : zs_T) (KX : String → zs_T → Prop) : Prop :=
  zf_TS_isInstruction l1 st (fun r2 u1 => ((r2 = 0 → zg_TS_inside_20 KX l1 l2 u1) ∧ (¬ r2 = 0 → zf_TS_isInstruction l2 u1 (fun r4 u3 => ((r4 = 0 → zg_TS_inside_20 KX l1 l2 u3) ∧ (¬ r4 = 0 → zg_TS_inside_21 KX l1 l2 1 u3))))))
def zg_TS_fact_64 (KX : String → zs_T → Prop) (l1 : Int32) (l2 : Int32) (l3 : Int32) (l4 : Int32) (s0 : Int32) (st : zs_T) : Prop :=
  (zf_TS_needSensible s0 st (fun u501 => (zf_TS_needThrifty 0 u501 (fun u502 => zf_KN_tells l1 l2 l3 l4 u502 (fun r504 u503 => False)) ∨ zg_TS_needThrifty 0 u501 KX)) ∨ zg_TS_needSensible s0 st KX)
def zg_TS_fact_59 (KX : String → zs_T → Prop) (l1 : Int32) (l2 : Int32) (l3 : Int32) (l4 : Int32) (st : zs_T) : Prop :=
  zg_TS_fact_64 KX l1 l2 l3 l4 1 st
def zg_TS_fact_63 (KX : String → zs_T → Prop) (l1 : Int32) (l2 : Int32) (l3 : Int32) (l4 : Int32) (st : zs_T) : Prop :=
  zg_TS_fact_64 KX l1 l2 l3 l4 0 st
def zg_TS_fact_50 (KX : String → zs_T → Prop) (l1 : Int32) (l2 : Int32) (l3 : Int32) (l4 : Int32) (st : zs_T) : Prop :=
  ((l2 < 3 → zg_TS_fact_59 KX l1 l2 l3 l4 st) ∧ (¬ l2 < 3 → ((¬ l3 = 0 → zg_TS_fact_63 KX l1 l2 l3 l4 st) ∧ (l3 = 0 → zg_TS_fact_59 KX l1 l2 l3 l4 st))))
def zg_TS_fact_28 (KX : String → zs_T → Prop) (l1 : Int32) (l2 : Int32) (l3 : Int32) (l4 : Int32) (s0 : Int32) (st : zs_T) : Prop :=
  (zf_TS_needPresent s0 st (fun u201 => ((l2 < 0 → zg_TS_fact_63 KX l1 l2 l3 l4 u201) ∧ (¬ l2 < 0 → ((3 < l2 → zg_TS_fact_63 KX l1 l2 l3 l4 u201) ∧ (¬ 3 < l2 → ((l2 < 2 → zg_TS_fact_50 KX l1 l2 l3 l4 u201) ∧ (¬ l2 < 2 → ((¬ l4 = 0 → zg_TS_fact_63 KX l1 l2 l3 l4 u201) ∧ (l4 = 0 → zg_TS_fact_50 KX l1 l2 l3 l4 u201))))))))) ∨ zg_TS_needPresent s0 st KX)
def zg_TS_fact_27 (KX : String → zs_T → Prop) (l1 : Int32) (l2 : Int32) (l3 : Int32) (l4 : Int32) (st : zs_T) : Prop :=
  zg_TS_fact_28 KX l1 l2 l3 l4 0 st
def zg_TS_fact (l1 : Int32) (l2 : Int32) (l3 : Int32) (l4 : Int32) (st : zs_T) (KX : String → zs_T → Prop) : Prop :=
  zf_TS_isPoint l1 st (fun r2 u1 => ((r2 = 0 → zg_TS_fact_27 KX l1 l2 l3 l4 u1) ∧ (¬ r2 = 0 → zf_TS_isRegister l3 u1 (fun r4 u3 => ((r4 = 0 → zg_TS_fact_27 KX l1 l2 l3 l4 u3) ∧ (¬ r4 = 0 → zf_TS_isRegister l4 u3 (fun r6 u5 => ((r6 = 0 → zg_TS_fact_27 KX l1 l2 l3 l4 u5) ∧ (¬ r6 = 0 → zg_TS_fact_28 KX l1 l2 l3 l4 1 u5)))))))))
def zg_TS_free_20 (KX : String → zs_T → Prop) (l1 : Int32) (l2 : Int32) (s0 : Int32) (st : zs_T) : Prop :=
  (zf_TS_needPresent s0 st (fun u201 => (zf_TS_needThrifty 0 u201 (fun u202 => zf_FR_isFreeBehind l1 l2 u202 (fun r204 u203 => False)) ∨ zg_TS_needThrifty 0 u201 KX)) ∨ zg_TS_needPresent s0 st KX)
def zg_TS_free_19 (KX : String → zs_T → Prop) (l1 : Int32) (l2 : Int32) (st : zs_T) : Prop :=
  zg_TS_free_20 KX l1 l2 0 st
def zg_TS_free (l1 : Int32) (l2 : Int32) (st : zs_T) (KX : String → zs_T → Prop) : Prop :=
  zf_TS_isPoint l1 st (fun r2 u1 => ((r2 = 0 → zg_TS_free_19 KX l1 l2 u1) ∧ (¬ r2 = 0 → zf_TS_isRegister l2 u1 (fun r4 u3 => ((r4 = 0 → zg_TS_free_19 KX l1 l2 u3) ∧ (¬ r4 = 0 → zg_TS_free_20 KX l1 l2 1 u3))))))
def zg_TS_run_17 (KX : String → zs_T → Prop) (l1 : Int32) (l2 : Int32) (s0 : Int32) (st : zs_T) : Prop :=
  (zf_TS_needSensible s0 st (fun u201 => (zf_TS_needThrifty l1 u201 (fun u202 => ((l1 = 0 → zf_MA_perform 6 l2 u202 (fun r204 u203 => False)) ∧ (¬ l1 = 0 → zf_MA_perform 1 l2 u202 (fun r206 u205 => False)))) ∨ zg_TS_needThrifty l1 u201 KX)) ∨ zg_TS_needSensible s0 st KX)
def zg_TS_run_16 (KX : String → zs_T → Prop) (l1 : Int32) (l2 : Int32) (st : zs_T) : Prop :=
  zg_TS_run_17 KX l1 l2 0 st
def zg_TS_run (l1 : Int32) (l2 : Int32) (st : zs_T) (KX : String → zs_T → Prop) : Prop :=
  ((l2 < 1 → zg_TS_run_16 KX l1 l2 st) ∧ (¬ l2 < 1 → ((5000 < l2 → zg_TS_run_16 KX l1 l2 st) ∧ (¬ 5000 < l2 → zg_TS_run_17 KX l1 l2 1 st))))
def zg_TS_print_20 (KX : String → zs_T → Prop) (l1 : Int32) (s0 : Int32) (st : zs_T) : Prop :=
  (zf_TS_needPresent s0 st (fun u201 => (vp_in l1 200 ∧ False)) ∨ zg_TS_needPresent s0 st KX)
def zg_TS_print_19 (KX : String → zs_T → Prop) (l1 : Int32) (st : zs_T) : Prop :=
  zg_TS_print_20 KX l1 0 st
def zg_TS_print (l1 : Int32) (st : zs_T) (KX : String → zs_T → Prop) : Prop :=
  ((l1 < 0 → zg_TS_print_19 KX l1 st) ∧ (¬ l1 < 0 → (((st.1 629 9) ≤ l1 → zg_TS_print_19 KX l1 st) ∧ (¬ (st.1 629 9) ≤ l1 → zg_TS_print_20 KX l1 1 st))))
def zg_TS_cell_26 (KX : String → zs_T → Prop) (l1 : Int32) (l2 : Int32) (l3 : Int32) (s0 : Int32) (st : zs_T) : Prop :=
  (zf_TS_needSensible s0 st (fun u201 => zf_MA_partOfCell l1 l2 l3 u201 (fun r203 u202 => False)) ∨ zg_TS_needSensible s0 st KX)
def zg_TS_cell_25 (KX : String → zs_T → Prop) (l1 : Int32) (l2 : Int32) (l3 : Int32) (st : zs_T) : Prop :=
  zg_TS_cell_26 KX l1 l2 l3 0 st
def zg_TS_cell (l1 : Int32) (l2 : Int32) (l3 : Int32) (st : zs_T) (KX : String → zs_T → Prop) : Prop :=
  zf_MA_hasKeptCell l1 l2 st (fun r2 u1 => (zf_TS_needPresent r2 u1 (fun u3 => ((l3 < 0 → zg_TS_cell_25 KX l1 l2 l3 u3) ∧ (¬ l3 < 0 → ((2 < l3 → zg_TS_cell_25 KX l1 l2 l3 u3) ∧ (¬ 2 < l3 → zg_TS_cell_26 KX l1 l2 l3 1 u3))))) ∨ zg_TS_needPresent r2 u1 KX))
