/-! what the methods need and do, as pure predicates: by program (wip/whole/gen) -/
def zf_TS_isInstruction (l1 : Int32) (st : zs_T) (K : Int32 → zs_T → Prop) : Prop :=
  ((l1 < 0 → K 0 st) ∧ (¬ l1 < 0 → (((st.1 1 4) ≤ l1 → K 0 st) ∧ (¬ (st.1 1 4) ≤ l1 → K 1 st))))
def zf_TS_isPoint (l1 : Int32) (st : zs_T) (K : Int32 → zs_T → Prop) : Prop :=
  ((l1 < 0 → K 0 st) ∧ (¬ l1 < 0 → (((st.1 1 4) < l1 → K 0 st) ∧ (¬ (st.1 1 4) < l1 → K 1 st))))
def zf_TS_clear  (st : zs_T) (K : Int32 → zs_T → Prop) : Prop :=
  (∀ t1 : zs_T, t1 = zs_i st 1 4 0 → (∀ t2 : zs_T, t2 = zs_i t1 0 7 0 → K (st.1 1 4) t2))
def zf_TS_size  (st : zs_T) (K : Int32 → zs_T → Prop) : Prop :=
  K (st.1 1 4) st
def zf_TS_steps  (st : zs_T) (K : Int32 → zs_T → Prop) : Prop :=
  K (st.1 629 10) st
def zf_TS_printed  (st : zs_T) (K : Int32 → zs_T → Prop) : Prop :=
  K (st.1 629 9) st
def zf_TS_kept  (st : zs_T) (K : Int32 → zs_T → Prop) : Prop :=
  zf_MA_objectsKept st (fun r2 u1 => K r2 u1)
def zf_TS_lookThrough (d1 : Nat) (st : zs_T) (K : zs_T → Prop) : Prop :=
  zf_AD_find d1 st (fun u1 => zf_KN_find d1 u1 (fun u2 => zf_FR_find d1 u2 (fun u3 => K u3)))
def zf_TS_dropWhatIsKnown_163 (K : Int32 → zs_T → Prop) (B4 : Int32 → Int32 → zs_T → Prop) (l1 : Int32) (l2 : Int32) (st : zs_T) : Prop :=
  B4 l1 (l2 + 1) st
def zf_TS_dropWhatIsKnown_122 (K : Int32 → zs_T → Prop) (B4 : Int32 → Int32 → zs_T → Prop) (l1 : Int32) (l2 : Int32) (l3 : Int32) (l4 : Int32) (l5 : Int32) (st : zs_T) : Prop :=
  (l2.toNatClampNeg < 201 ∧ ((¬ l3 = 10 → zf_TS_dropWhatIsKnown_163 K B4 l1 l2 st) ∧ (l3 = 10 → (vp_in l4 16 ∧ (((((st.1 (24 + 3 * l2.toNatClampNeg + 2) l4.toNatClampNeg) >>> (l5 &&& 31)) &&& 1) = 0 → zf_TS_dropWhatIsKnown_163 K B4 l1 l2 st) ∧ (¬ (((st.1 (24 + 3 * l2.toNatClampNeg + 2) l4.toNatClampNeg) >>> (l5 &&& 31)) &&& 1) = 0 → zf_PR_replace 6 l2 15 0 0 st (fun u202 => (vp_in l2 200 ∧ (∀ t204 : zs_T, t204 = zs_i u202 11 l2.toNatClampNeg 2 → zf_TS_dropWhatIsKnown_163 K B4 (l1 + 1) l2 t204)))))))))
def zf_TS_dropWhatIsKnown_4_s (K : Int32 → zs_T → Prop) (B4 : Int32 → Int32 → zs_T → Prop) (l1 : Int32) (l2 : Int32) (st : zs_T) : Prop :=
  (((st.1 6 4) ≤ l2 → K l1 st) ∧ (¬ (st.1 6 4) ≤ l2 → (vp_in l2 201 ∧ ((¬ (st.1 19 l2.toNatClampNeg) = 0 → (vp_in l2 200 ∧ (vp_in l2 200 ∧ (vp_in l2 200 ∧ (vp_in l2 201 ∧ l2.toNatClampNeg < 201 ∧ ((¬ (st.1 (6 + 1) l2.toNatClampNeg) = 9 → zf_TS_dropWhatIsKnown_122 K B4 l1 l2 (st.1 (6 + 1) l2.toNatClampNeg) (st.1 (6 + 2) l2.toNatClampNeg) (st.1 (6 + 3) l2.toNatClampNeg) st) ∧ ((st.1 (6 + 1) l2.toNatClampNeg) = 9 → (vp_in (st.1 (6 + 3) l2.toNatClampNeg) 16 ∧ (((st.1 (24 + 3 * l2.toNatClampNeg + 2) (st.1 (6 + 3) l2.toNatClampNeg).toNatClampNeg) = 0 → zf_TS_dropWhatIsKnown_122 K B4 l1 l2 (st.1 (6 + 1) l2.toNatClampNeg) (st.1 (6 + 2) l2.toNatClampNeg) (st.1 (6 + 3) l2.toNatClampNeg) st) ∧ (¬ (st.1 (24 + 3 * l2.toNatClampNeg + 2) (st.1 (6 + 3) l2.toNatClampNeg).toNatClampNeg) = 0 → (vp_in (st.1 (6 + 3) l2.toNatClampNeg) 16 ∧ zf_IN_numberOfTrailingZeros_II (st.1 (24 + 3 * l2.toNatClampNeg + 2) (st.1 (6 + 3) l2.toNatClampNeg).toNatClampNeg) st (fun r110 u109 => zf_PR_replace 6 l2 1 (st.1 (6 + 2) l2.toNatClampNeg) r110 u109 (fun u111 => (vp_in l2 200 ∧ (∀ t113 : zs_T, t113 = zs_i u111 11 l2.toNatClampNeg 1 → zf_TS_dropWhatIsKnown_163 K B4 (l1 + 1) l2 t113))))))))))))))) ∧ ((st.1 19 l2.toNatClampNeg) = 0 → zf_TS_dropWhatIsKnown_163 K B4 l1 l2 st)))))
def zf_TS_dropWhatIsKnown_4 (K : Int32 → zs_T → Prop) : Nat → Int32 → Int32 → zs_T → Prop
  | 0 => fun _ _ _ => False
  | n + 1 => zf_TS_dropWhatIsKnown_4_s K (zf_TS_dropWhatIsKnown_4 K n)
def zf_TS_dropWhatIsKnown  (st : zs_T) (K : Int32 → zs_T → Prop) : Prop :=
  ∃ n, zf_TS_dropWhatIsKnown_4 K n 0 0 st
def zf_TS_dropWhatIsDead_116 (K : Int32 → zs_T → Prop) (B4 : Int32 → Int32 → zs_T → Prop) (l1 : Int32) (l2 : Int32) (st : zs_T) : Prop :=
  B4 l1 (l2 + 1) st
def zf_TS_dropWhatIsDead_75 (K : Int32 → zs_T → Prop) (B4 : Int32 → Int32 → zs_T → Prop) (l1 : Int32) (l2 : Int32) (l3 : Int32) (s0 : Int32) (st : zs_T) : Prop :=
  ((s0 = 0 → zf_TS_dropWhatIsDead_116 K B4 l1 l2 st) ∧ (¬ s0 = 0 → zf_FR_isFreeBehind l2 l3 st (fun r302 u301 => ((r302 = 0 → zf_TS_dropWhatIsDead_116 K B4 l1 l2 u301) ∧ (¬ r302 = 0 → zf_PR_replace 6 l2 15 0 0 u301 (fun u303 => (vp_in l2 200 ∧ (∀ t305 : zs_T, t305 = zs_i u303 11 l2.toNatClampNeg 3 → zf_TS_dropWhatIsDead_116 K B4 (l1 + 1) l2 t305))))))))
def zf_TS_dropWhatIsDead_4_s (K : Int32 → zs_T → Prop) (B4 : Int32 → Int32 → zs_T → Prop) (l1 : Int32) (l2 : Int32) (st : zs_T) : Prop :=
  (((st.1 6 4) ≤ l2 → K l1 st) ∧ (¬ (st.1 6 4) ≤ l2 → (vp_in l2 200 ∧ ((¬ (st.1 (6 + 1) l2.toNatClampNeg) = 10 → zf_TS_dropWhatIsDead_116 K B4 l1 l2 st) ∧ ((st.1 (6 + 1) l2.toNatClampNeg) = 10 → (vp_in l2 201 ∧ (((st.1 19 l2.toNatClampNeg) = 0 → zf_TS_dropWhatIsDead_116 K B4 l1 l2 st) ∧ (¬ (st.1 19 l2.toNatClampNeg) = 0 → (vp_in l2 200 ∧ (vp_in l2 201 ∧ l2.toNatClampNeg < 201 ∧ (((((st.1 (24 + 3 * l2.toNatClampNeg) 2) >>> ((st.1 (6 + 2) l2.toNatClampNeg) &&& 31)) &&& 1) = 0 → zf_TS_dropWhatIsDead_75 K B4 l1 l2 (st.1 (6 + 2) l2.toNatClampNeg) 0 st) ∧ (¬ (((st.1 (24 + 3 * l2.toNatClampNeg) 2) >>> ((st.1 (6 + 2) l2.toNatClampNeg) &&& 31)) &&& 1) = 0 → zf_TS_dropWhatIsDead_75 K B4 l1 l2 (st.1 (6 + 2) l2.toNatClampNeg) 1 st))))))))))))
def zf_TS_dropWhatIsDead_4 (K : Int32 → zs_T → Prop) : Nat → Int32 → Int32 → zs_T → Prop
  | 0 => fun _ _ _ => False
  | n + 1 => zf_TS_dropWhatIsDead_4_s K (zf_TS_dropWhatIsDead_4 K n)
def zf_TS_dropWhatIsDead  (st : zs_T) (K : Int32 → zs_T → Prop) : Prop :=
  ∃ n, zf_TS_dropWhatIsDead_4 K n 0 0 st
def zf_TS_makeRound_25 (K : Int32 → zs_T → Prop) (l1 : Int32) (st : zs_T) : Prop :=
  zf_TS_dropWhatIsDead st (fun r102 u101 => K (l1 + r102) u101)
def zf_TS_makeRound  (st : zs_T) (K : Int32 → zs_T → Prop) : Prop :=
  zf_TS_lookThrough 6 st (fun u1 => zf_TS_dropWhatIsKnown u1 (fun r3 u2 => ((r3 ≤ 0 → zf_TS_makeRound_25 K r3 u2) ∧ (¬ r3 ≤ 0 → zf_TS_lookThrough 6 u2 (fun u4 => zf_TS_makeRound_25 K r3 u4)))))
