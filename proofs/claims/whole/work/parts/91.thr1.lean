/-! thrift, in the class: the passes -/
def yt_t4 (x n : Int32) : Int32 := n + ((x.toUInt32 >>> ((1 : Int32).toUInt32 &&& Int32.toUInt32 31)).toInt32)
def yt_t3 (x n : Int32) : Int32 := if x ≤ 4 then yt_t4 x n else yt_t4 ((x.toUInt32 >>> ((2 : Int32).toUInt32 &&& Int32.toUInt32 31)).toInt32) (n + 2)
def yt_t2 (x n : Int32) : Int32 := if x ≤ 16 then yt_t3 x n else yt_t3 ((x.toUInt32 >>> ((4 : Int32).toUInt32 &&& Int32.toUInt32 31)).toInt32) (n + 4)
def yt_t1 (x n : Int32) : Int32 := if x ≤ 256 then yt_t2 x n else yt_t2 ((x.toUInt32 >>> ((8 : Int32).toUInt32 &&& Int32.toUInt32 31)).toInt32) (n + 8)
def yt_t0 (y : Int32) : Int32 := if 0 < y then (if y ≤ 65536 then yt_t1 y 1 else yt_t1 ((y.toUInt32 >>> ((16 : Int32).toUInt32 &&& Int32.toUInt32 31)).toInt32) (1 + 16)) else y &&& 32
theorem yt_z3 {x n : Int32} {st : zs_T} {K : Int32 → zs_T → Prop} (h : K (yt_t3 x n) st) : zf_IN_numberOfTrailingZeros_II_62 K x n st := by
  unfold yt_t3 at h
  refine ⟨fun c => ?_, fun c => ?_⟩
  · rw [if_pos c] at h; exact h
  · rw [if_neg c] at h; exact h
theorem yt_z2 {x n : Int32} {st : zs_T} {K : Int32 → zs_T → Prop} (h : K (yt_t2 x n) st) : zf_IN_numberOfTrailingZeros_II_49 K x n st := by
  unfold yt_t2 at h
  refine ⟨fun c => ?_, fun c => ?_⟩
  · rw [if_pos c] at h; exact yt_z3 h
  · rw [if_neg c] at h; exact yt_z3 h
theorem yt_z1 {x n : Int32} {st : zs_T} {K : Int32 → zs_T → Prop} (h : K (yt_t1 x n) st) : zf_IN_numberOfTrailingZeros_II_34 K x n st := by
  unfold yt_t1 at h
  refine ⟨fun c => ?_, fun c => ?_⟩
  · rw [if_pos c] at h; exact yt_z2 h
  · rw [if_neg c] at h; exact yt_z2 h
theorem yt_z0 {x : Int32} {st : zs_T} {K : Int32 → zs_T → Prop} (h : K (yt_t0 ((x ^^^ (-1)) &&& (x - 1))) st) : zf_IN_numberOfTrailingZeros_II x st K := by
  unfold yt_t0 at h
  refine ⟨fun c => ?_, fun c => ?_⟩
  · rw [if_pos c] at h
    refine ⟨fun c2 => ?_, fun c2 => ?_⟩
    · rw [if_pos c2] at h; exact yt_z1 h
    · rw [if_neg c2] at h; exact yt_z1 h
  · rw [if_neg c] at h; exact h
theorem yt_tv : ∀ b, b < 16 → yt_t0 (nI (2 ^ b - 1)) = nI b := by decide +kernel
theorem yt_low {m : Int32} {b : Nat} (hb : b < 16) (h1 : bt m b = true) (h2 : ∀ w, w < b → bt m w = false) : (m ^^^ (-1)) &&& (m - 1) = nI (2 ^ b - 1) := by
  have e : ∀ i, bt m i = m.toBitVec.toNat.testBit i := fun i => rfl
  have hlt : m.toBitVec.toNat < 4294967296 := m.toBitVec.isLt
  have hs : ∀ i, bt (m - 1) i = (m - 1).toBitVec.toNat.testBit i := fun i => rfl
  have hsub : (m - 1).toBitVec.toNat = (4294967296 - 1 + m.toBitVec.toNat) % 4294967296 := by
    rw [Int32.toBitVec_sub, BitVec.toNat_sub]
    rfl
  generalize hx : m.toBitVec.toNat = x at e hlt hsub
  obtain ⟨w, hw⟩ : ∃ w, x = 2 ^ b * (2 * w + 1) := by
    have z : x % 2 ^ b = 0 := by
      apply Nat.eq_of_testBit_eq
      intro i
      rw [Nat.testBit_mod_two_pow, Nat.zero_testBit]
      by_cases c : i < b
      · rw [← e, h2 i c, Bool.and_false]
      · rw [decide_eq_false c, Bool.false_and]
    have o : (x / 2 ^ b).testBit 0 = true := by
      rw [Nat.testBit_div_two_pow, Nat.zero_add, ← e]
      exact h1
    rw [Nat.testBit_zero, decide_eq_true_eq] at o
    refine ⟨x / 2 ^ b / 2, ?_⟩
    have d1 := Nat.div_add_mod x (2 ^ b)
    have d2 := Nat.div_add_mod (x / 2 ^ b) 2
    rw [z, Nat.add_zero] at d1
    rw [o] at d2
    rw [d2, d1]
  have hp : 0 < 2 ^ b := Nat.two_pow_pos b
  have hx1 : x - 1 = 2 ^ b * (2 * w) + (2 ^ b - 1) := by
    rw [hw, Nat.mul_add, Nat.mul_one]
    omega
  have hx0 : 1 ≤ x := by
    rw [hw, Nat.mul_add, Nat.mul_one]
    omega
  have hsub' : (m - 1).toBitVec.toNat = x - 1 := by
    rw [hsub]
    omega
  have hp2 : 2 ^ b - 1 < 2 ^ 32 := by
    have : 2 ^ b < 2 ^ 32 := Nat.pow_lt_pow_right (by omega) (by omega)
    omega
  apply b_ext
  intro i hi
  rw [b_and, yb_not m hi, hs, hsub', e]
  show _ = (nI (2 ^ b - 1)).toBitVec.toNat.testBit i
  rw [pk_tn hp2, Nat.testBit_two_pow_sub_one, hx1, Nat.testBit_two_pow_mul_add _ (by omega), hw, Nat.testBit_two_pow_mul]
  by_cases c : i < b
  · rw [if_pos c, Nat.testBit_two_pow_sub_one, decide_eq_true c, decide_eq_false (by omega)]
    rfl
  · rw [if_neg c, decide_eq_false c, decide_eq_true (by omega)]
    obtain ⟨k, hk⟩ : ∃ k, i - b = k := ⟨_, rfl⟩
    rw [hk]
    cases k with
    | zero =>
      rw [Nat.testBit_zero, Nat.testBit_zero, show 2 * w % 2 = 0 by omega]
      simp
    | succ k =>
      rw [Nat.testBit_succ, Nat.testBit_succ, show (2 * w + 1) / 2 = w by omega, show 2 * w / 2 = w by omega]
      cases w.testBit k <;> rfl
theorem yt_ntz {m : Int32} {b : Nat} {st : zs_T} {K : Int32 → zs_T → Prop} (hb : b < 16) (h1 : bt m b = true) (h2 : ∀ w, w < b → bt m w = false) (hK : K (nI b) st) : zf_IN_numberOfTrailingZeros_II m st K := by
  refine yt_z0 ?_
  rw [yt_low hb h1 h2, yt_tv b hb]
  exact hK
/-- the thrifty program and the fates -/
def yt_C (H : yp_G) (f : Nat → Nat) (t : zs_T) : Prop := yp_C 6 H t ∧ ∀ i, i < yn H → t.1 11 i = nI (f i)
def yt_wr (t : zs_T) (k : Nat) (e : Nat × Nat × Nat × Nat) : zs_T := zs_i (zs_i (zs_i (zs_i (zs_i t 7 k (nI e.1)) 8 k (nI e.2.1)) 9 k (nI e.2.2.1)) 10 k 0) 11 k (nI e.2.2.2)
theorem yt_wr_ag {a t : zs_T} {k : Nat} {e : Nat × Nat × Nat × Nat} (h : zs_ag 7 11 a t) : zs_ag 7 11 a (yt_wr t k e) :=
  ((((h.i (by omega) (by omega)).i (by omega) (by omega)).i (by omega) (by omega)).i (by omega) (by omega)).i (by omega) (by omega)
theorem yt_Cw {E : Nat → yt_e} {k : Nat} {H : yp_G} {f : Nat → Nat} {t : zs_T} {e : Nat × Nat × Nat × Nat} (h : yt_C (yt_ap E k H) (yt_fa E k f) t) (he : E k = some e) : yt_C (yt_ap E (k + 1) H) (yt_fa E (k + 1) f) (yt_wr t k e) := by
  obtain ⟨⟨h1, h2⟩, h3⟩ := h
  refine ⟨⟨?_, fun i hi => ?_⟩, fun i hi => ?_⟩
  · unfold yt_wr
    rw [yi_r _ _ _ _ (by omega), yi_r _ _ _ _ (by omega), yi_r _ _ _ _ (by omega), yi_r _ _ _ _ (by omega), yi_r _ _ _ _ (by omega)]
    exact h1
  · obtain ⟨c1, c2, c3, c4⟩ := h2 i hi
    show (yt_wr t k e).1 7 i = nI (yt_o (decide (i < k + 1)) (E i) (fun e => e.1) (yk H i)) ∧ (yt_wr t k e).1 8 i = nI (yt_o (decide (i < k + 1)) (E i) (fun e => e.2.1) (ya H i)) ∧ (yt_wr t k e).1 9 i = yt_o (decide (i < k + 1)) (E i) (fun e => nI e.2.2.1) (yx H i) ∧ (yt_wr t k e).1 10 i = nI (yt_o (decide (i < k + 1)) (E i) (fun _ => 0) (yd H i))
    by_cases c : i = k
    · subst c
      rw [yt_at _ _ he, yt_at _ _ he, yt_at _ _ he, yt_at _ _ he]
      unfold yt_wr
      simp [yi_m]
      rfl
    · rw [yt_step _ _ (Or.inl c), yt_step _ _ (Or.inl c), yt_step _ _ (Or.inl c), yt_step _ _ (Or.inl c)]
      unfold yt_wr
      simp only [yi_m, c, and_false, if_false]
      exact ⟨c1, c2, c3, c4⟩
  · have c0 := h3 i hi
    show (yt_wr t k e).1 11 i = nI (yt_o (decide (i < k + 1)) (E i) (fun e => e.2.2.2) (f i))
    by_cases c : i = k
    · subst c
      rw [yt_at _ _ he]
      unfold yt_wr
      rw [yi_s]
    · rw [yt_step _ _ (Or.inl c)]
      unfold yt_wr
      simp only [yi_m, c, and_false, if_false]
      exact c0
theorem yt_Ck {E : Nat → yt_e} {k : Nat} {H : yp_G} {f : Nat → Nat} {t : zs_T} (h : yt_C (yt_ap E k H) (yt_fa E k f) t) (hk : k < yn H) : t.1 7 k = nI (yk H k) ∧ t.1 8 k = nI (ya H k) ∧ t.1 9 k = yx H k := by
  obtain ⟨c1, c2, c3, c4⟩ := h.1.2 k hk
  have e1 : yk (yt_ap E k H) k = yk H k := yt_be _ _
  have e2 : ya (yt_ap E k H) k = ya H k := yt_be _ _
  have e3 : yx (yt_ap E k H) k = yx H k := yt_be _ _
  rw [e1] at c1
  rw [e2] at c2
  rw [e3] at c3
  exact ⟨c1, c2, c3⟩
section YT
variable {H : yp_G} {f : Nat → Nat} {st : zs_T}
theorem yt_rep {i : Nat} {e : Nat × Nat × Nat × Nat} {K : zs_T → Prop} (hi : i < 200) (hK : K (yt_wr st i e)) : zf_PR_replace 6 (nI i) (nI e.1) (nI e.2.1) (nI e.2.2.1) st (fun u => (vp_in (nI i) 200 ∧ (∀ t : zs_T, t = zs_i u 11 i (nI e.2.2.2) → K t))) := by
  unfold zf_PR_replace
  rw [nI_clamp (n := i) (by omega)]
  exact ⟨vp_in_nI (by omega) (by omega), nm_e ⟨vp_in_nI (by omega) (by omega), nm_e ⟨vp_in_nI (by omega) (by omega), nm_e ⟨vp_in_nI (by omega) (by omega), nm_e ⟨vp_in_nI (by omega) (by omega), nm_e hK⟩⟩⟩⟩⟩
theorem yt_known {K : Int32 → zs_T → Prop} (hok : yp_ok H) (h : yt_C H f st) (hX : yc_X H st) (hK : ∀ t, zs_ag 7 11 st t → yt_C (yt_ap (yt_F H) (yn H) H) (yt_fa (yt_F H) (yn H) f) t → K (nI (yt_n (yt_F H) (yn H))) t) : zf_TS_dropWhatIsKnown st K := by
  have hn := hok.n
  unfold zf_TS_dropWhatIsKnown
  refine pk_loop (W := fun m k (t : zs_T) => zf_TS_dropWhatIsKnown_4 K m (nI (yt_n (yt_F H) k)) (nI k) t) (fun k t => zs_ag 7 11 st t ∧ yt_C (yt_ap (yt_F H) k H) (yt_fa (yt_F H) k f) t) (yn H) 0 st (by omega) ⟨zs_ag.refl, by rw [yt_ap_0, yt_fa_0]; exact h⟩ ?_ ?_
  · rintro m t ⟨a, hC⟩
    exact pk_le (yn H) (yn H) (fun _ => hK t a hC) (fun h => by omega) hC.1.1
  · rintro m k t hk ⟨a, hC⟩ ih
    obtain ⟨c1, c2, c3⟩ := yt_Ck hC hk
    have hkk := hok.k hk
    have ha2 := hok.a2 hk
    have fin0 : yt_F H k = none → zf_TS_dropWhatIsKnown_163 K (zf_TS_dropWhatIsKnown_4 K m) (nI (yt_n (yt_F H) k)) (nI k) t := by
      intro he
      unfold zf_TS_dropWhatIsKnown_163
      rw [nI_1]
      have z := ih t ⟨a, by rw [yt_ap_none he, yt_fa_none he]; exact hC⟩
      rw [yt_n_none he] at z
      exact z
    have fin1 : ∀ e, yt_F H k = some e → zf_TS_dropWhatIsKnown_163 K (zf_TS_dropWhatIsKnown_4 K m) (nI (yt_n (yt_F H) k) + 1) (nI k) (yt_wr t k e) := by
      intro e he
      unfold zf_TS_dropWhatIsKnown_163
      rw [nI_1, nI_1]
      have z := ih (yt_wr t k e) ⟨yt_wr_ag a, yt_Cw hC he⟩
      rw [yt_n_some he] at z
      exact z
    have hr : (¬ t.1 19 k = 0 ↔ yp_R H k) := by
      rw [a.e1 (by omega)]
      exact hX.2.1.1 k (by omega)
    refine pk_le (yn H) k (fun h => by omega) (fun _ => ?_) hC.1.1
    rw [nI_clamp (n := k) (by omega), c1, c2, c3]
    refine ⟨vp_in_nI (by omega) (by omega), And.intro (fun c => ?_) (fun c => fin0 (yt_F_n (fun q => hr.mpr q.1 c) (fun q => hr.mpr q.1 c)))⟩
    have hR := hr.mp c
    obtain ⟨q1, q2, q3⟩ := hX.2.1.2 k hR
    have iv : vp_in (nI k) 200 := vp_in_nI (by omega) (by omega)
    have hbit : ∀ r s, r < 16 → s < 16 → (bt (t.1 (24 + 3 * k + 2) r) s = true ↔ yp_F H k 1 r s) := by
      intro r s hr hs
      rw [a.e1 (by omega), ← q3 1 r s (by omega) hr hs]
      exact ⟨fun z => ⟨by omega, hr, hs, z⟩, fun z => z.2.2.2⟩
    have hbit2 : ∀ r s, r < 16 → 16 ≤ s → bt (t.1 (24 + 3 * k + 2) r) s = false := by
      intro r s hr hs
      rw [a.e1 (by omega)]
      exact (q1.1 r s hr hs).2
    have h122 : ¬ (yk H k = 9 ∧ yt_fv H k < 16) → zf_TS_dropWhatIsKnown_122 K (zf_TS_dropWhatIsKnown_4 K m) (nI (yt_n (yt_F H) k)) (nI k) (nI (yk H k)) (nI (ya H k)) (yx H k) t := by
      intro hno
      unfold zf_TS_dropWhatIsKnown_122
      rw [nI_clamp (n := k) (by omega)]
      refine ⟨by omega, yi_ne (yk H k) 10 (fun c5 => fin0 (yt_F_n (fun q => hno q.2) (fun q => c5 q.2.1))) (fun c5 => ?_)⟩
      have ha := hok.a hk (by omega)
      have he := hok.e hk ⟨by omega, by omega, by omega⟩
      rw [hok.x hk (by omega), nI_clamp (n := ya H k) (by omega)]
      refine ⟨vp_in_nI (by omega) (by omega), br_c (fun c6 => fin0 (yt_F_n (fun q => hno q.2) (fun q => ?_))) (fun c6 => ?_)⟩
      · rw [yb_tst _ (by omega)] at c6
        rw [(hbit _ _ ha he).mpr q.2.2] at c6
        cases c6
      · rw [yb_tst _ (by omega)] at c6
        have hs := yt_F_s hR c5 ((hbit _ _ ha he).mp (ts_nf c6))
        exact yt_rep (i := k) (e := (15, 0, 0, 2)) (by omega) (fin1 _ hs)
    refine ⟨iv, iv, iv, vp_in_nI (by omega) (by omega), by omega, yi_ne (yk H k) 9 (fun c5 => h122 (fun q => c5 q.1)) (fun c5 => ?_)⟩
    have ha := hok.a hk (by omega)
    have he := hok.e hk ⟨by omega, by omega, by omega⟩
    have hx := hok.x hk (by omega)
    have hcl : (yx H k).toNatClampNeg = ye H k := rfl
    rw [hcl]
    have ive : vp_in (yx H k) 16 := by
      rw [hx]
      exact vp_in_nI (by omega) (by omega)
    refine ⟨ive, br_c (fun c6 => h122 (fun q => ?_)) (fun c6 => ⟨ive, ?_⟩)⟩
    · have z := yt_lv_p q.2
      have z2 := (hbit _ _ he q.2).mpr z
      rw [c6, b_0] at z2
      cases z2
    · have hv : yt_fv H k < 16 := by
        obtain ⟨s, hs, hb⟩ := yb_nz.mp c6
        have hs16 : s < 16 := by
          apply Classical.byContradiction
          intro z
          rw [hbit2 _ s he (by omega)] at hb
          cases hb
        apply Classical.byContradiction
        intro z
        have hle := yt_lv_le (fun v => yp_F H k 1 (ye H k) v) 16
        have z2 : yt_fv H k = 16 := by
          unfold yt_fv at z ⊢
          omega
        refine yt_lv_no (p := fun v => yp_F H k 1 (ye H k) v) (n := 16) (v := s) ?_ ((hbit _ _ he hs16).mp hb)
        show s < yt_fv H k
        omega
      have hl := yt_F_l hR c5 hv
      refine yt_ntz hv ((hbit _ _ he hv).mpr (yt_lv_p hv)) (fun w hw => ?_) ?_
      · apply ts_nt
        intro z
        exact yt_lv_no hw ((hbit _ _ he (by omega)).mp z)
      · exact yt_rep (i := k) (e := (1, ya H k, yt_fv H k, 1)) (by omega) (fin1 _ hl)
theorem yt_dead {K : Int32 → zs_T → Prop} (hok : yp_ok H) (h : yt_C H f st) (hX : yc_X H st) (hK : ∀ t, zs_ag 7 11 st t → yt_C (yt_ap (yt_D H) (yn H) H) (yt_fa (yt_D H) (yn H) f) t → K (nI (yt_n (yt_D H) (yn H))) t) : zf_TS_dropWhatIsDead st K := by
  have hn := hok.n
  unfold zf_TS_dropWhatIsDead
  refine pk_loop (W := fun m k (t : zs_T) => zf_TS_dropWhatIsDead_4 K m (nI (yt_n (yt_D H) k)) (nI k) t) (fun k t => zs_ag 7 11 st t ∧ yt_C (yt_ap (yt_D H) k H) (yt_fa (yt_D H) k f) t) (yn H) 0 st (by omega) ⟨zs_ag.refl, by rw [yt_ap_0, yt_fa_0]; exact h⟩ ?_ ?_
  · rintro m t ⟨a, hC⟩
    exact pk_le (yn H) (yn H) (fun _ => hK t a hC) (fun h => by omega) hC.1.1
  · rintro m k t hk ⟨a, hC⟩ ih
    obtain ⟨c1, c2, c3⟩ := yt_Ck hC hk
    have hkk := hok.k hk
    have fin0 : ¬ (yp_R H k ∧ yk H k = 10 ∧ yp_F H k 2 (ya H k) 0 ∧ yp_fr H k (ya H k)) → zf_TS_dropWhatIsDead_116 K (zf_TS_dropWhatIsDead_4 K m) (nI (yt_n (yt_D H) k)) (nI k) t := by
      intro hno
      have he := yt_D_n hno
      unfold zf_TS_dropWhatIsDead_116
      rw [nI_1]
      have z := ih t ⟨a, by rw [yt_ap_none he, yt_fa_none he]; exact hC⟩
      rw [yt_n_none he] at z
      exact z
    have hr : (¬ t.1 19 k = 0 ↔ yp_R H k) := by
      rw [a.e1 (by omega)]
      exact hX.2.1.1 k (by omega)
    have iv : vp_in (nI k) 200 := vp_in_nI (by omega) (by omega)
    have iv1 : vp_in (nI k) 201 := vp_in_nI (by omega) (by omega)
    refine pk_le (yn H) k (fun h => by omega) (fun _ => ?_) hC.1.1
    rw [nI_clamp (n := k) (by omega), c1, c2]
    refine ⟨iv, yi_ne (yk H k) 10 (fun c5 => fin0 (fun q => c5 q.2.1)) (fun c5 => ⟨iv1, br_c (fun c => fin0 (fun q => hr.mpr q.1 c)) (fun c => ⟨iv, iv1, by omega, ?_⟩)⟩)⟩
    have hR := hr.mp c
    have ha := hok.a hk (by omega)
    obtain ⟨q1, q2, q3⟩ := hX.2.1.2 k hR
    have hsure : bt (t.1 (24 + 3 * k) 2) (ya H k) = true ↔ yp_F H k 2 (ya H k) 0 := by
      rw [a.e1 (by omega), ← q3 2 (ya H k) 0 (by omega) ha (by omega)]
      exact ⟨fun z => ⟨by omega, ha, by omega, z⟩, fun z => z.2.2.2⟩
    have hfree : bt (t.1 628 k) (ya H k) = true ↔ yp_fr H k (ya H k) := by
      rw [a.e1 (by omega)]
      exact ⟨fun z => ((hX.2.2 k (ya H k) (by omega) (by omega)).mp z).2, fun z => (hX.2.2 k (ya H k) (by omega) (by omega)).mpr ⟨ha, z⟩⟩
    have h75 : yp_F H k 2 (ya H k) 0 → zf_TS_dropWhatIsDead_75 K (zf_TS_dropWhatIsDead_4 K m) (nI (yt_n (yt_D H) k)) (nI k) (nI (ya H k)) 1 t := by
      intro hF
      refine ⟨fun c6 => absurd c6 (by decide), fun _ => ?_⟩
      unfold zf_FR_isFreeBehind
      rw [nI_clamp (n := k) (by omega)]
      refine ⟨iv1, br_c (fun c6 => ⟨fun _ => fin0 (fun q => ?_), fun c7 => absurd rfl c7⟩) (fun c6 => ⟨fun c7 => absurd c7 (by decide), fun _ => ?_⟩)⟩
      · rw [yb_tst _ (by omega)] at c6
        rw [hfree.mpr q.2.2.2] at c6
        cases c6
      · rw [yb_tst _ (by omega)] at c6
        have he := yt_D_s ⟨hR, c5, hF, hfree.mp (ts_nf c6)⟩
        refine yt_rep (i := k) (e := (15, 0, 0, 3)) (by omega) ?_
        unfold zf_TS_dropWhatIsDead_116
        rw [nI_1, nI_1]
        have z := ih (yt_wr t k (15, 0, 0, 3)) ⟨yt_wr_ag a, yt_Cw hC he⟩
        rw [yt_n_some he] at z
        exact z
    refine br_c (fun c6 => ⟨fun _ => fin0 (fun q => ?_), fun c7 => absurd rfl c7⟩) (fun c6 => ?_)
    · rw [yb_tst _ (by omega)] at c6
      rw [hsure.mpr q.2.2.1] at c6
      cases c6
    · rw [yb_tst _ (by omega)] at c6
      exact h75 (hsure.mp (ts_nf c6))
end YT
