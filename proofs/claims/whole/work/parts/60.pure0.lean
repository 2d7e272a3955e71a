/-! ===== Int32 by its bits: bt x i ===== -/
def bt (x : Int32) (i : Nat) : Bool := x.toBitVec.getLsbD i
theorem b_ext {x y : Int32} (h : ∀ i, i < 32 → bt x i = bt y i) : x = y := Int32.toBitVec_inj.mp (BitVec.eq_of_getLsbD_eq (fun i hi => h i hi))
theorem b_or (x y : Int32) (i : Nat) : bt (x ||| y) i = (bt x i || bt y i) := by unfold bt; rw [Int32.toBitVec_or, BitVec.getLsbD_or]
theorem b_and (x y : Int32) (i : Nat) : bt (x &&& y) i = (bt x i && bt y i) := by unfold bt; rw [Int32.toBitVec_and, BitVec.getLsbD_and]
theorem b_xor (x y : Int32) (i : Nat) : bt (x ^^^ y) i = (bt x i ^^ bt y i) := by unfold bt; rw [Int32.toBitVec_xor, BitVec.getLsbD_xor]
theorem b_big {x : Int32} {i : Nat} (h : 32 ≤ i) : bt x i = false := BitVec.getLsbD_of_ge _ _ h
theorem b_255 (i : Nat) : bt 255 i = decide (i < 8) := by
  rcases Nat.lt_or_ge i 32 with h | h
  · exact (by decide +kernel : ∀ i, i < 32 → bt 255 i = decide (i < 8)) i h
  · rw [b_big h, decide_eq_false (by omega)]
theorem b_65535 (i : Nat) : bt 65535 i = decide (i < 16) := by
  rcases Nat.lt_or_ge i 32 with h | h
  · exact (by decide +kernel : ∀ i, i < 32 → bt 65535 i = decide (i < 16)) i h
  · rw [b_big h, decide_eq_false (by omega)]
theorem b_m1 : ∀ i, i < 32 → bt (-1) i = true := by decide +kernel
theorem b_0 (i : Nat) : bt 0 i = false := BitVec.getLsbD_zero
theorem s_l : ∀ n, n < 32 → ((nI n &&& 31).toBitVec.smod 32).toNat = n := by decide +kernel
theorem s_u : ∀ n, n < 32 → (((nI n).toUInt32 &&& Int32.toUInt32 31).toBitVec % 32).toNat = n := by decide +kernel
theorem b_shl (n : Nat) (hn : n < 32) (x : Int32) {i : Nat} (hi : i < 32) : bt (x <<< (nI n &&& 31)) i = (decide (n ≤ i) && bt x (i - n)) := by
  unfold bt
  rw [Int32.toBitVec_shiftLeft]
  show (x.toBitVec <<< ((nI n &&& 31).toBitVec.smod 32).toNat).getLsbD i = _
  rw [s_l n hn, BitVec.getLsbD_shiftLeft]
  rcases Nat.lt_or_ge i n with h | h
  · simp [h, Nat.not_le.mpr h]
  · simp [hi, h, Nat.not_lt.mpr h]
theorem b_ushr (n : Nat) (hn : n < 32) (x : Int32) (i : Nat) : bt ((x.toUInt32 >>> ((nI n).toUInt32 &&& Int32.toUInt32 31)).toInt32) i = bt x (n + i) := by
  show (x.toUInt32 >>> ((nI n).toUInt32 &&& Int32.toUInt32 31)).toBitVec.getLsbD i = x.toUInt32.toBitVec.getLsbD (n + i)
  rw [UInt32.toBitVec_shiftRight]
  show (x.toUInt32.toBitVec >>> (((nI n).toUInt32 &&& Int32.toUInt32 31).toBitVec % 32).toNat).getLsbD i = _
  rw [s_u n hn, BitVec.getLsbD_ushiftRight]
theorem b_sshr (n : Nat) (hn : n < 32) (x : Int32) {i : Nat} (hi : i < 32) : bt (x >>> (nI n &&& 31)) i = if n + i < 32 then bt x (n + i) else bt x 31 := by
  unfold bt
  rw [Int32.toBitVec_shiftRight]
  show (x.toBitVec.sshiftRight ((nI n &&& 31).toBitVec.smod 32).toNat).getLsbD i = _
  rw [s_l n hn, BitVec.getLsbD_sshiftRight, BitVec.msb_eq_getLsbD_last]
  simp [hi]
/-! ===== Int64 as a set of bits: test, set, clear ===== -/
theorem ts_nf {x : Bool} (h : ¬ x = false) : x = true := by cases x <;> first | rfl | exact absurd rfl h
theorem ts_nt {x : Bool} (h : ¬ x = true) : x = false := by cases x <;> first | rfl | exact absurd rfl h
theorem ts_bit {w : Int64} {s : UInt64} {j : Nat} (hj : j < 64) (hs : s.toNat = j) : ((w.toUInt64 >>> s).toInt64 &&& 1) = 0 ↔ w.toBitVec.getLsbD j = false := by
  have e : (w.toUInt64 >>> s).toInt64.toBitVec = w.toBitVec >>> j := by
    apply BitVec.eq_of_toNat_eq
    show (w.toUInt64 >>> s).toNat = _
    rw [UInt64.toNat_shiftRight, hs, Nat.mod_eq_of_lt hj, BitVec.toNat_ushiftRight]
    rfl
  rw [← Int64.toBitVec_inj, Int64.toBitVec_and, e]
  show w.toBitVec >>> j &&& 1#64 = 0#64 ↔ _
  constructor
  · intro h
    have t := congrArg (fun x => x.getLsbD 0) h
    simpa using t
  · intro h
    apply BitVec.eq_of_getLsbD_eq
    intro i hi
    cases i with
    | zero => simp [h]
    | succ i => simp
theorem ts_or {w m : Int64} {j : Nat} (hj : j < 64) (hm : m.toBitVec = BitVec.twoPow 64 j) : (w ||| m) = w ↔ w.toBitVec.getLsbD j = true := by
  rw [← Int64.toBitVec_inj, Int64.toBitVec_or, hm]
  constructor
  · intro h
    have t := congrArg (fun x => x.getLsbD j) h
    simp only [BitVec.getLsbD_or, BitVec.getLsbD_twoPow] at t
    simpa [hj] using t.symm
  · intro h
    apply BitVec.eq_of_getLsbD_eq
    intro i hi
    rw [BitVec.getLsbD_or, BitVec.getLsbD_twoPow]
    by_cases e : j = i
    · subst e; rw [h, Bool.true_or]
    · simp [e]
/-! own tools of the pure part: reading the memory, bits, counting -/
theorem yi_m (st : zs_T) (d j : Nat) (v : Int32) (d' j' : Nat) : (zs_i st d j v).1 d' j' = if d' = d ∧ j' = j then v else st.1 d' j' := by
  show va_up st.1 d (upd (st.1 d) j v) d' j' = _
  unfold va_up upd
  by_cases h : d' = d
  · subst h
    by_cases h2 : j' = j <;> simp [h2]
  · simp [h]
theorem yi_2 (st : zs_T) (d j : Nat) (v : Int32) : (zs_i st d j v).2 = st.2 := rfl
theorem yi_r (st : zs_T) (d j : Nat) (v : Int32) {d' : Nat} (h : d' ≠ d) : (zs_i st d j v).1 d' = st.1 d' := zs_ne h
theorem yi_s (st : zs_T) (d j : Nat) (v : Int32) : (zs_i st d j v).1 d j = v := by rw [yi_m]; simp
theorem yi_n (st : zs_T) (d : Nat) (v : Int32) {j j' : Nat} (h : j' ≠ j) : (zs_i st d j v).1 d j' = st.1 d j' := by rw [yi_m]; simp [h]
theorem yl_1 (st : zs_T) (d j : Nat) (v : Int64) : (zs_l st d j v).1 = st.1 := rfl
theorem yl_m (st : zs_T) (d j : Nat) (v : Int64) (d' j' : Nat) : (zs_l st d j v).2 d' j' = if d' = d ∧ j' = j then v else st.2 d' j' := by
  show va_up st.2 d (vp_updL (st.2 d) j v) d' j' = _
  unfold va_up vp_updL
  by_cases h : d' = d
  · subst h
    by_cases h2 : j' = j <;> simp [h2]
  · simp [h]
theorem yl_r (st : zs_T) (d j : Nat) (v : Int64) {d' : Nat} (h : d' ≠ d) : (zs_l st d j v).2 d' = st.2 d' := zs_ne h
theorem ya_1 (st : zs_T) (d : Nat) (f : Nat → Int32) (d' : Nat) : (zs_a st d f).1 d' = if d' = d then f else st.1 d' := rfl
theorem ya_2 (st : zs_T) (d : Nat) (f : Nat → Int32) : (zs_a st d f).2 = st.2 := rfl
/-- outside the cells lo .. hi nothing changed -/
def zs_ag (lo hi : Nat) (st st' : zs_T) : Prop := ∀ d, d < lo ∨ hi < d → st'.1 d = st.1 d ∧ st'.2 d = st.2 d
theorem zs_ag.refl {lo hi : Nat} {st : zs_T} : zs_ag lo hi st st := fun _ _ => ⟨rfl, rfl⟩
theorem zs_ag.trans {lo hi : Nat} {a b c : zs_T} (h : zs_ag lo hi a b) (h2 : zs_ag lo hi b c) : zs_ag lo hi a c :=
  fun d hd => ⟨(h2 d hd).1.trans (h d hd).1, (h2 d hd).2.trans (h d hd).2⟩
theorem zs_ag.wide {lo hi lo' hi' : Nat} {a b : zs_T} (h : zs_ag lo hi a b) (h1 : lo' ≤ lo) (h2 : hi ≤ hi') : zs_ag lo' hi' a b :=
  fun d hd => h d (by omega)
theorem zs_ag.i {lo hi : Nat} {a b : zs_T} (h : zs_ag lo hi a b) {d j : Nat} {v : Int32} (h1 : lo ≤ d) (h2 : d ≤ hi) : zs_ag lo hi a (zs_i b d j v) :=
  h.trans (fun d' hd => ⟨yi_r b d j v (by omega), rfl⟩)
theorem zs_ag.l {lo hi : Nat} {a b : zs_T} (h : zs_ag lo hi a b) {d j : Nat} {v : Int64} (h1 : lo ≤ d) (h2 : d ≤ hi) : zs_ag lo hi a (zs_l b d j v) :=
  h.trans (fun d' hd => ⟨rfl, yl_r b d j v (by omega)⟩)
theorem zs_ag.a {lo hi : Nat} {a b : zs_T} (h : zs_ag lo hi a b) {d : Nat} {f : Nat → Int32} (h1 : lo ≤ d) (h2 : d ≤ hi) : zs_ag lo hi a (zs_a b d f) :=
  h.trans (fun d' hd => ⟨by rw [ya_1, if_neg (by omega)], rfl⟩)
theorem zs_ag.e1 {lo hi : Nat} {a b : zs_T} (h : zs_ag lo hi a b) {d : Nat} (hd : d < lo ∨ hi < d) : b.1 d = a.1 d := (h d hd).1
theorem zs_ag.e2 {lo hi : Nat} {a b : zs_T} (h : zs_ag lo hi a b) {d : Nat} (hd : d < lo ∨ hi < d) : b.2 d = a.2 d := (h d hd).2
/-- bits of masks -/
theorem yb_not (x : Int32) {i : Nat} (hi : i < 32) : bt (x ^^^ (-1)) i = !bt x i := by rw [b_xor, b_m1 i hi]; cases bt x i <;> rfl
theorem yb_1 : ∀ i, i < 32 → bt (1 : Int32) i = decide (i = 0) := by decide +kernel
theorem yb_one {a i : Nat} (ha : a < 32) (hi : i < 32) : bt ((1 : Int32) <<< (nI a &&& 31)) i = decide (i = a) := by
  rw [b_shl a ha 1 hi, yb_1 (i - a) (by omega)]
  by_cases h : a ≤ i
  · by_cases h2 : i = a
    · subst h2; simp
    · have h3 : ¬ i - a = 0 := by omega
      simp [h2, h3]
  · have h2 : ¬ i = a := by omega
    simp [h, h2]
theorem yb_z {x : Int32} : x = 0 ↔ ∀ i, i < 32 → bt x i = false := by
  constructor
  · intro h i _; rw [h]; exact b_0 i
  · intro h; exact b_ext (fun i hi => by rw [h i hi, b_0])
theorem yb_nz {x : Int32} : ¬ x = 0 ↔ ∃ i, i < 32 ∧ bt x i = true := by
  rw [yb_z]
  constructor
  · intro h
    apply Classical.byContradiction
    intro h2
    exact h (fun i hi => by
      cases hb : bt x i with
      | false => rfl
      | true => exact absurd ⟨i, hi, hb⟩ h2)
  · rintro ⟨i, hi, h⟩ h2
    rw [h2 i hi] at h
    cases h
theorem yb_low (x : Int32) {b i : Nat} (hb : b < 32) (hi : i < 32) : bt ((x >>> (nI b &&& 31)) &&& 1) i = (decide (i = 0) && bt x b) := by
  rw [b_and, yb_1 i hi]
  by_cases h : i = 0
  · subst h
    rw [b_sshr b hb x hi]
    simp [hb]
  · simp [h]
theorem yb_tst (x : Int32) {b : Nat} (hb : b < 32) : ((x >>> (nI b &&& 31)) &&& 1) = 0 ↔ bt x b = false := by
  rw [yb_z]
  constructor
  · intro h
    have := h 0 (by omega)
    rw [yb_low x hb (by omega)] at this
    simpa using this
  · intro h i hi
    rw [yb_low x hb hi, h, Bool.and_false]
theorem yb_mv (x : Int32) {a b i : Nat} (ha : a < 32) (hb : b < 32) (hi : i < 32) : bt (((x >>> (nI b &&& 31)) &&& 1) <<< (nI a &&& 31)) i = (decide (i = a) && bt x b) := by
  rw [b_shl a ha _ hi, yb_low x hb (by omega)]
  by_cases h : a ≤ i
  · by_cases h2 : i = a
    · subst h2; simp
    · have h3 : ¬ i - a = 0 := by omega
      simp [h2, h3]
  · have h2 : ¬ i = a := by omega
    simp [h, h2]
/-- bits of longs -/
def bl (x : Int64) (i : Nat) : Bool := x.toBitVec.getLsbD i
theorem bl_ext {x y : Int64} (h : ∀ i, i < 64 → bl x i = bl y i) : x = y := Int64.toBitVec_inj.mp (BitVec.eq_of_getLsbD_eq (fun i hi => h i hi))
theorem bl_or (x y : Int64) (i : Nat) : bl (x ||| y) i = (bl x i || bl y i) := by unfold bl; rw [Int64.toBitVec_or, BitVec.getLsbD_or]
theorem bl_and (x y : Int64) (i : Nat) : bl (x &&& y) i = (bl x i && bl y i) := by unfold bl; rw [Int64.toBitVec_and, BitVec.getLsbD_and]
theorem bl_0 (i : Nat) : bl 0 i = false := BitVec.getLsbD_zero
theorem bl_z {x : Int64} : x = 0 ↔ ∀ i, i < 64 → bl x i = false := by
  constructor
  · intro h i _; rw [h]; exact bl_0 i
  · intro h; exact bl_ext (fun i hi => by rw [h i hi, bl_0])
theorem bl_s : ∀ k, k < 64 → ((nI k &&& 63).toInt64.toUInt64 &&& Int64.toUInt64 63).toNat = k := by decide +kernel
theorem bl_m : ∀ k, k < 256 → nI k &&& 63 = nI (k % 64) := by decide +kernel
theorem bl_d : ∀ k, k < 256 → nI k >>> ((6 : Int32) &&& 31) = nI (k / 64) := by decide +kernel
theorem bl_sm : ∀ k, k < 64 → (((nI k).toInt64 &&& 63).toBitVec.smod 64).toNat = k := by decide +kernel
theorem bl_su : ∀ k, k < 64 → ((nI k).toInt64.toUInt64 &&& Int64.toUInt64 63).toNat = k := by decide +kernel
theorem bl_tst (x : Int64) {k : Nat} (hk : k < 64) : (lg_cmp (((x.toUInt64 >>> ((nI k).toInt64.toUInt64 &&& Int64.toUInt64 63)).toInt64) &&& 1) 0) = 0 ↔ bl x k = false := by
  rw [lg_cmp_eq]
  exact ts_bit hk (bl_su k hk)
theorem bl_one {a i : Nat} (ha : a < 64) (hi : i < 64) : bl ((1 : Int64) <<< ((nI a).toInt64 &&& 63)) i = decide (i = a) := by
  unfold bl
  rw [Int64.toBitVec_shiftLeft]
  show ((1#64) <<< (((nI a).toInt64 &&& 63).toBitVec.smod 64).toNat).getLsbD i = _
  rw [bl_sm a ha, BitVec.getLsbD_shiftLeft]
  by_cases h : a ≤ i
  · by_cases h2 : i = a
    · subst h2; simp [hi]
    · have h3 : ¬ i - a = 0 := by omega
      simp [h2, hi, h3]
  · have h2 : ¬ i = a := by omega
    have h3 : i < a := by omega
    simp [h2, h3]
/-- booleans as ints -/
def yb (b : Bool) : Int32 := if b then 1 else 0
theorem yb_bz (b : Bool) : zs_bz (yb b) := by cases b; exact zs_b0; exact zs_b1
theorem yb_nar (b : Bool) : vp_nar .boolean (yb b) = yb b := zs_nz (yb_bz b)
theorem yb_n0 : vp_nar .boolean 0 = 0 := zs_nz zs_b0
theorem yb_n1 : vp_nar .boolean 1 = 1 := zs_nz zs_b1
theorem yb_e0 (b : Bool) : yb b = 0 ↔ b = false := by cases b <;> decide
theorem yb_of {v : Int32} (h : zs_bz v) : v = yb (decide (v = 1)) := by
  rcases h with h | h <;> subst h <;> decide
/-- how many below n -/
noncomputable def yp_c (p : Nat → Prop) : Nat → Nat
  | 0 => 0
  | n + 1 => yp_c p n + @ite Nat (p n) (Classical.propDecidable _) 1 0
theorem yp_c_le (p : Nat → Prop) (n : Nat) : yp_c p n ≤ n := by
  induction n with
  | zero => exact Nat.le_refl 0
  | succ n ih => unfold yp_c; split <;> omega
theorem yp_c_mono {p q : Nat → Prop} {n : Nat} (h : ∀ i, i < n → p i → q i) : yp_c p n ≤ yp_c q n := by
  induction n with
  | zero => exact Nat.le_refl 0
  | succ n ih =>
    have h1 := ih (fun i hi => h i (by omega))
    unfold yp_c
    by_cases hp : p n
    · rw [if_pos hp, if_pos (h n (by omega) hp)]; omega
    · rw [if_neg hp]; split <;> omega
theorem yp_c_lt {p q : Nat → Prop} {n k : Nat} (h : ∀ i, i < n → p i → q i) (hk : k < n) (h1 : ¬ p k) (h2 : q k) : yp_c p n < yp_c q n := by
  induction n with
  | zero => omega
  | succ n ih =>
    unfold yp_c
    by_cases e : k = n
    · subst e
      rw [if_neg h1, if_pos h2]
      have := yp_c_mono (p := p) (q := q) (n := k) (fun i hi => h i (by omega))
      omega
    · have h3 := ih (fun i hi => h i (by omega)) (by omega)
      by_cases hp : p n
      · rw [if_pos hp, if_pos (h n (by omega) hp)]; omega
      · rw [if_neg hp]; split <;> omega
theorem yp_c_eq {p q : Nat → Prop} {n : Nat} (h : ∀ i, i < n → (p i ↔ q i)) : yp_c p n = yp_c q n :=
  Nat.le_antisymm (yp_c_mono (fun i hi => (h i hi).mp)) (yp_c_mono (fun i hi => (h i hi).mpr))
