/-! values of the machine: an object (0: none) and a number, in a long and as two ints -/
abbrev ys_v : Type := Nat × Int32
def yv (w : Int64) (v : ys_v) : Prop := v.1 ≤ 300 ∧ w.toBitVec.toNat = v.1 * 4294967296 + v.2.toBitVec.toNat
def ys_o (o : Nat) : Int32 := nI o - 1
theorem ys_o_0 : ys_o 0 = -1 := by decide
theorem ys_o_s (o : Nat) : ys_o (o + 1) = nI o := nI_pred o
theorem ys_o_e {o : Nat} (h : o ≤ 300) : ys_o o = -1 ↔ o = 0 := by
  cases o with
  | zero => exact ⟨fun _ => rfl, fun _ => ys_o_0⟩
  | succ o =>
    rw [ys_o_s]
    exact ⟨fun q => absurd q (yi_m1 (by omega)), fun q => by omega⟩
theorem ys_o_i {o o' : Nat} (h : o ≤ 300) (h' : o' ≤ 300) : ys_o o = ys_o o' ↔ o = o' := by
  constructor
  · intro e
    cases o with
    | zero => exact ((ys_o_e h').mp (e.symm.trans ys_o_0)).symm
    | succ o =>
      cases o' with
      | zero => exact (ys_o_e h).mp (e.trans ys_o_0)
      | succ o' =>
        rw [ys_o_s, ys_o_s, nI_eq (by omega) (by omega)] at e
        rw [e]
  · intro e; rw [e]
theorem yv_lt (x : Int32) : x.toBitVec.toNat < 4294967296 := x.toBitVec.isLt
theorem yv_sh {w : Int64} {v : ys_v} (h : yv w v) : ((w.toUInt64 >>> ((32 : Int32).toInt64.toUInt64 &&& Int64.toUInt64 63)).toInt64).toBitVec.toNat = v.1 := by
  have hs : ((32 : Int32).toInt64.toUInt64 &&& Int64.toUInt64 63).toNat = 32 := by decide
  have hl := yv_lt v.2
  show (w.toUInt64 >>> ((32 : Int32).toInt64.toUInt64 &&& Int64.toUInt64 63)).toNat = v.1
  rw [UInt64.toNat_shiftRight, hs]
  show w.toBitVec.toNat >>> (32 % 64) = v.1
  rw [h.2, Nat.shiftRight_eq_div_pow, show 2 ^ (32 % 64) = 4294967296 from rfl]
  omega
theorem yv_l0 {x : Int64} : x = 0 ↔ x.toBitVec.toNat = 0 := by
  constructor
  · intro h; rw [h]; rfl
  · intro h
    exact Int64.toBitVec_inj.mp (BitVec.eq_of_toNat_eq (h.trans rfl))
theorem yv_is {w : Int64} {v : ys_v} (h : yv w v) : lg_cmp ((w.toUInt64 >>> ((32 : Int32).toInt64.toUInt64 &&& Int64.toUInt64 63)).toInt64) 0 = 0 ↔ v.1 = 0 := by
  rw [lg_cmp_eq, yv_l0, yv_sh h]
theorem yv_i {x : Int64} {n : Int32} (h : x.toBitVec.toNat % 4294967296 = n.toBitVec.toNat) : x.toInt32 = n := by
  apply Int32.toBitVec_inj.mp
  apply BitVec.eq_of_toNat_eq
  rw [Int64.toBitVec_toInt32, BitVec.signExtend_eq_setWidth_of_le _ (by omega), BitVec.toNat_setWidth]
  exact h
theorem yv_ob {w : Int64} {v : ys_v} (h : yv w v) : ((w.toUInt64 >>> ((32 : Int32).toInt64.toUInt64 &&& Int64.toUInt64 63)).toInt64).toInt32 - 1 = ys_o v.1 := by
  unfold ys_o
  have h1 := h.1
  rw [yv_i (n := nI v.1)]
  rw [yv_sh h, pk_tn (by omega)]
  omega
theorem yv_lo {w : Int64} {v : ys_v} (h : yv w v) : w.toInt32 = v.2 := by
  have hl := yv_lt v.2
  apply yv_i
  rw [h.2]
  omega
theorem yv_eq {w w' : Int64} {v v' : ys_v} (h : yv w v) (h' : yv w' v') : lg_cmp w w' = 0 ↔ v = v' := by
  have hl := yv_lt v.2
  have hl' := yv_lt v'.2
  have h2 := h.2
  have h2' := h'.2
  rw [lg_cmp_eq]
  constructor
  · intro e
    rw [e] at h2
    have e1 : v.1 = v'.1 := by omega
    have e2 : v.2.toBitVec.toNat = v'.2.toBitVec.toNat := by omega
    exact Prod.ext e1 (Int32.toBitVec_inj.mp (BitVec.eq_of_toNat_eq e2))
  · intro e
    rw [e] at h2
    exact Int64.toBitVec_inj.mp (BitVec.eq_of_toNat_eq (h2.trans h2'.symm))
theorem yv_00 : yv 0 (0, 0) := ⟨by omega, by decide⟩
theorem yv_01 : yv 1 (0, 1) := ⟨by omega, by decide⟩
theorem yv_nu (n : Int32) : yv (n.toInt64 &&& 4294967295) (0, n) := by
  refine ⟨Nat.zero_le _, ?_⟩
  have hl := yv_lt n
  rw [Int64.toBitVec_and, Int32.toBitVec_toInt64, BitVec.toNat_and, show (4294967295 : Int64).toBitVec.toNat = 2 ^ 32 - 1 by decide, Nat.and_two_pow_sub_one_eq_mod, BitVec.toNat_signExtend]
  show _ = 0 * 4294967296 + n.toBitVec.toNat
  have e : (BitVec.setWidth 64 n.toBitVec).toNat = n.toBitVec.toNat := by
    rw [BitVec.toNat_setWidth]
    omega
  rw [e]
  by_cases c : n.toBitVec.msb = true
  · rw [if_pos c]; omega
  · rw [if_neg c]; omega
theorem yv_ad0 : ∀ o, o < 300 → ∀ p, p < 16 → ((((nI o + 1).toInt64) <<< ((32 : Int32).toInt64 &&& 63)) ||| (nI p).toInt64).toBitVec.toNat = (o + 1) * 4294967296 + p := by decide +kernel
theorem yv_ad {o p : Nat} (ho : o < 300) (hp : p < 16) : yv ((((nI o + 1).toInt64) <<< ((32 : Int32).toInt64 &&& 63)) ||| (nI p).toInt64) (o + 1, nI p) := by
  refine ⟨by show o + 1 ≤ 300; omega, ?_⟩
  rw [yv_ad0 o ho p hp]
  show _ = (o + 1) * 4294967296 + (nI p).toBitVec.toNat
  rw [pk_tn (by omega)]
theorem yv_pl {L : Int64} {s : Nat} (hs : s ≤ 16) (h1 : ¬ lg_cmp L 0 < 0) (h2 : lg_cmp L (nI s).toInt64 < 0) : ∃ p, p < s ∧ L.toInt32 = nI p := by
  rw [lg_cmp_lt, Int64.lt_iff_toInt_lt] at h1 h2
  rw [Int32.toInt_toInt64, nI_toInt (by omega)] at h2
  have h0 : (0 : Int64).toInt = 0 := by decide
  rw [h0] at h1
  refine ⟨L.toInt.toNat, by omega, Int32.toInt_inj.mp ?_⟩
  rw [Int64.toInt_toInt32, nI_toInt (by omega)]
  rw [Int.bmod_eq_of_le (by omega) (by omega)]
  omega
/-- the machine -/
abbrev ys_M : Type := (Nat → ys_v) × (Nat → ys_v) × (Nat → Nat) × (Nat → Bool) × Nat × (Nat → Int32) × Nat × Nat × Int32
def ysr (m : ys_M) : Nat → ys_v := m.1
def ysc (m : ys_M) : Nat → ys_v := m.2.1
def ysz (m : ys_M) : Nat → Nat := m.2.2.1
def ysk (m : ys_M) : Nat → Bool := m.2.2.2.1
def ysn (m : ys_M) : Nat := m.2.2.2.2.1
def ysp (m : ys_M) : Nat → Int32 := m.2.2.2.2.2.1
def ysq (m : ys_M) : Nat := m.2.2.2.2.2.2.1
def ysa (m : ys_M) : Nat := m.2.2.2.2.2.2.2.1
def yse (m : ys_M) : Int32 := m.2.2.2.2.2.2.2.2
def ys_u {α : Type} (f : Nat → α) (i : Nat) (v : α) : Nat → α := fun j => if j = i then v else f j
theorem ys_u_s {α : Type} (f : Nat → α) (i : Nat) (v : α) : ys_u f i v i = v := if_pos rfl
theorem ys_u_n {α : Type} (f : Nat → α) {i j : Nat} (v : α) (h : j ≠ i) : ys_u f i v j = f j := if_neg h
def ys_w (m : ys_M) (a : Nat) (v : ys_v) : ys_M := (ys_u (ysr m) a v, ysc m, ysz m, ysk m, ysn m, ysp m, ysq m, ysa m + 1, yse m)
def ys_x (m : ys_M) (e : Int32) : ys_M := (ysr m, ysc m, ysz m, ysk m, ysn m, ysp m, ysq m, ysa m + 1, e)
def ys_j (m : ys_M) (i : Nat) : ys_M := (ysr m, ysc m, ysz m, ysk m, ysn m, ysp m, ysq m, i, yse m)
def ys_ar (m : ys_M) (a b c : Nat) (f : Int32 → Int32 → Int32) : ys_M := if (ysr m b).1 = 0 ∧ (ysr m c).1 = 0 then ys_w m a (0, f (ysr m b).2 (ysr m c).2) else ys_x m 1
def ys_sm (m : ys_M) (b c : Nat) : Int64 := (ysr m b).2.toInt64 + (ysr m c).2.toInt64
def ys_sh (m : ys_M) (a b c : Nat) : ys_M := if (ysr m b).1 ≠ 0 ∧ (ysr m c).1 = 0 ∧ ¬ lg_cmp (ys_sm m b c) 0 < 0 ∧ lg_cmp (ys_sm m b c) (nI (ysz m ((ysr m b).1 - 1))).toInt64 < 0 then ys_w m a ((ysr m b).1, (ys_sm m b c).toInt32) else ys_x m 1
def ys_mk (m : ys_M) (a x d : Nat) : ys_M := if ysn m = 300 then ys_x m 3 else (ys_u (ysr m) a (ysn m + 1, 0), fun j => if 16 * ysn m ≤ j ∧ j < 16 * ysn m + x then (0, 0) else ysc m j, ys_u (ysz m) (ysn m) x, ys_u (ysk m) (ysn m) (decide (d = 1)), ysn m + 1, ysp m, ysq m, ysa m + 1, yse m)
def ys_ad (v : ys_v) : Nat := 16 * (v.1 - 1) + v.2.toNatClampNeg
def ys_lo (m : ys_M) (a b : Nat) : ys_M := if (ysr m b).1 = 0 then ys_x m 1 else ys_w m a (ysc m (ys_ad (ysr m b)))
def ys_st (m : ys_M) (a b : Nat) : ys_M := if (ysr m a).1 = 0 then ys_x m 1 else (ysr m, ys_u (ysc m) (ys_ad (ysr m a)) (ysr m b), ysz m, ysk m, ysn m, ysp m, ysq m, ysa m + 1, yse m)
def ys_pr (m : ys_M) (a : Nat) : ys_M := if (ysr m a).1 = 0 then (if ysq m = 200 then ys_x m 3 else (ysr m, ysc m, ysz m, ysk m, ysn m, ys_u (ysp m) (ysq m) (ysr m a).2, ysq m + 1, ysa m + 1, yse m)) else ys_x m 1
def ys_if (m : ys_M) (a b : Nat) : ys_M := if (ysr m a).1 = 0 then (if (ysr m a).2 = 0 then ys_x m (yse m) else ys_j m b) else ys_x m 1
def ys_s (k a : Nat) (x : Int32) (c : Nat) (m : ys_M) : ys_M := match k with
  | 0 => ys_w m a (0, x)
  | 1 => ys_w m a (ysr m x.toNatClampNeg)
  | 2 => ys_ar m a x.toNatClampNeg c (fun x y => x + y)
  | 3 => ys_ar m a x.toNatClampNeg c (fun x y => x - y)
  | 4 => ys_ar m a x.toNatClampNeg c (fun x y => x * y)
  | 5 => ys_ar m a x.toNatClampNeg c (fun x y => if y ≤ x then 0 else 1)
  | 6 => ys_w m a (0, if ysr m x.toNatClampNeg = ysr m c then 1 else 0)
  | 7 => ys_sh m a x.toNatClampNeg c
  | 8 => ys_mk m a x.toNatClampNeg c
  | 9 => ys_lo m a x.toNatClampNeg
  | 10 => ys_st m a x.toNatClampNeg
  | 11 => ys_pr m a
  | 12 => ys_j m a
  | 13 => ys_if m a x.toNatClampNeg
  | 14 => ys_x m 0
  | _ => ys_x m (yse m)
/-- it is sound -/
def ys_vo (z : Nat → Nat) (n : Nat) (v : ys_v) : Prop := v.1 = 0 ∨ (v.1 ≤ n ∧ ∃ p, p < z (v.1 - 1) ∧ v.2 = nI p)
def ys_ok (m : ys_M) : Prop := ysn m ≤ 300 ∧ ysq m ≤ 200 ∧ (∀ o, o < ysn m → 1 ≤ ysz m o ∧ ysz m o ≤ 16) ∧ (∀ r, r < 16 → ys_vo (ysz m) (ysn m) (ysr m r)) ∧ ∀ o k, o < ysn m → k < ysz m o → ys_vo (ysz m) (ysn m) (ysc m (16 * o + k))
section YS
variable {m : ys_M}
theorem ys_vo_0 {z : Nat → Nat} {n : Nat} (x : Int32) : ys_vo z n (0, x) := Or.inl rfl
theorem ys_ok.w (h : ys_ok m) {a : Nat} {v : ys_v} (hv : ys_vo (ysz m) (ysn m) v) : ys_ok (ys_w m a v) := by
  obtain ⟨h1, h2, h3, h4, h5⟩ := h
  refine ⟨h1, h2, h3, fun r hr => ?_, h5⟩
  show ys_vo (ysz m) (ysn m) (ys_u (ysr m) a v r)
  by_cases c : r = a
  · rw [c, ys_u_s]; exact hv
  · rw [ys_u_n _ _ c]; exact h4 r hr
theorem ys_ok.x (h : ys_ok m) (e : Int32) : ys_ok (ys_x m e) := h
theorem ys_ok.j (h : ys_ok m) (i : Nat) : ys_ok (ys_j m i) := h
theorem ys_ok.v300 (h : ys_ok m) {r : Nat} (hr : r < 16) : (ysr m r).1 ≤ 300 := by
  have h1 := h.1
  rcases h.2.2.2.1 r hr with c | c
  · omega
  · omega
/-- what an address points at -/
theorem ys_ok.at (h : ys_ok m) {r : Nat} (hr : r < 16) (hn : ¬ (ysr m r).1 = 0) : ∃ o p, o < ysn m ∧ p < ysz m o ∧ ysr m r = (o + 1, nI p) ∧ ys_ad (ysr m r) = 16 * o + p := by
  rcases h.2.2.2.1 r hr with c | ⟨c1, p, c2, c3⟩
  · exact absurd c hn
  · have hz := h.2.2.1 ((ysr m r).1 - 1) (by omega)
    have e : ysr m r = ((ysr m r).1 - 1 + 1, nI p) := Prod.ext (by show (ysr m r).1 = (ysr m r).1 - 1 + 1; omega) c3
    refine ⟨(ysr m r).1 - 1, p, by omega, c2, e, ?_⟩
    unfold ys_ad
    rw [c3, nI_clamp (by omega)]
theorem ys_ok.s (h : ys_ok m) {k a c : Nat} {x : Int32} (hw : yp_w k a x c) : ys_ok (ys_s k a x c m) := by
  obtain ⟨w1, w2, w3, w4, w5, w6, w7, w8⟩ := hw
  have har : ∀ f, ys_ok (ys_ar m a x.toNatClampNeg c f) := by
    intro f
    unfold ys_ar
    split
    · exact h.w (ys_vo_0 _)
    · exact h.x 1
  have hc : c < 16 := by omega
  match k, w1, w4, w6, w7, w8 with
  | 0, _, _, _, _, _ => exact h.w (ys_vo_0 _)
  | 1, _, _, _, w7, _ => exact h.w (h.2.2.2.1 _ (w7 ⟨by omega, by omega, by omega⟩))
  | 2, _, _, _, _, _ => exact har _
  | 3, _, _, _, _, _ => exact har _
  | 4, _, _, _, _, _ => exact har _
  | 5, _, _, _, _, _ => exact har _
  | 6, _, _, _, _, _ => exact h.w (ys_vo_0 _)
  | 7, _, _, _, w7, _ =>
    show ys_ok (ys_sh m a x.toNatClampNeg c)
    have hb := w7 ⟨by omega, by omega, by omega⟩
    unfold ys_sh
    split
    · rename_i q
      obtain ⟨o, p, g1, g2, g3, g4⟩ := h.at hb q.1
      have e1 : (ysr m x.toNatClampNeg).1 = o + 1 := by rw [g3]
      have hz := h.2.2.1 o g1
      obtain ⟨q1, q2, q3, q4⟩ := q
      rw [e1] at q4
      obtain ⟨p', hp', e'⟩ := yv_pl (s := ysz m (o + 1 - 1)) hz.2 q3 q4
      rw [e1, e']
      exact h.w (Or.inr ⟨by show o + 1 ≤ ysn m; omega, p', hp', rfl⟩)
    · exact h.x 1
  | 8, _, _, w6, _, w8 =>
    show ys_ok (ys_mk m a x.toNatClampNeg c)
    have hx16 := w6 ⟨by omega, by omega⟩
    have hx1 := (w8 rfl).1
    unfold ys_mk
    split
    · exact h.x 3
    · rename_i q
      obtain ⟨h1, h2, h3, h4, h5⟩ := h
      have up : ∀ v, ys_vo (ysz m) (ysn m) v → ys_vo (ys_u (ysz m) (ysn m) x.toNatClampNeg) (ysn m + 1) v := by
        intro v hv
        rcases hv with c1 | ⟨c1, p, c2, c3⟩
        · exact Or.inl c1
        · by_cases c0 : v.1 = 0
          · exact Or.inl c0
          · refine Or.inr ⟨by omega, p, ?_, c3⟩
            rw [ys_u_n _ _ (by omega)]
            exact c2
      refine ⟨by show ysn m + 1 ≤ 300; omega, h2, fun o ho => ?_, fun r hr => ?_, fun o k ho hk => ?_⟩
      · show 1 ≤ ys_u (ysz m) (ysn m) x.toNatClampNeg o ∧ ys_u (ysz m) (ysn m) x.toNatClampNeg o ≤ 16
        have ho' : o < ysn m + 1 := ho
        by_cases c1 : o = ysn m
        · rw [c1, ys_u_s]; exact ⟨hx1, hx16⟩
        · rw [ys_u_n _ _ c1]; exact h3 o (by omega)
      · show ys_vo (ys_u (ysz m) (ysn m) x.toNatClampNeg) (ysn m + 1) (ys_u (ysr m) a (ysn m + 1, 0) r)
        by_cases c1 : r = a
        · rw [c1, ys_u_s]
          refine Or.inr ⟨Nat.le_refl _, 0, ?_, rfl⟩
          show 0 < ys_u (ysz m) (ysn m) x.toNatClampNeg (ysn m + 1 - 1)
          rw [show ysn m + 1 - 1 = ysn m by omega, ys_u_s]
          omega
        · rw [ys_u_n _ _ c1]; exact up _ (h4 r hr)
      · have ho' : o < ysn m + 1 := ho
        have hk' : k < ys_u (ysz m) (ysn m) x.toNatClampNeg o := hk
        show ys_vo (ys_u (ysz m) (ysn m) x.toNatClampNeg) (ysn m + 1) (if 16 * ysn m ≤ 16 * o + k ∧ 16 * o + k < 16 * ysn m + x.toNatClampNeg then (0, 0) else ysc m (16 * o + k))
        by_cases c1 : 16 * ysn m ≤ 16 * o + k ∧ 16 * o + k < 16 * ysn m + x.toNatClampNeg
        · rw [if_pos c1]; exact Or.inl rfl
        · rw [if_neg c1]
          by_cases c2 : o = ysn m
          · rw [c2, ys_u_s] at hk'
            omega
          · rw [ys_u_n _ _ c2] at hk'
            exact up _ (h5 o k (by omega) hk')
  | 9, _, _, _, w7, _ =>
    show ys_ok (ys_lo m a x.toNatClampNeg)
    have hb := w7 ⟨by omega, by omega, by omega⟩
    unfold ys_lo
    split
    · exact h.x 1
    · rename_i q
      obtain ⟨o, p, g1, g2, g3, g4⟩ := h.at hb q
      rw [g4]
      exact h.w (h.2.2.2.2 o p g1 g2)
  | 10, _, w4, _, w7, _ =>
    show ys_ok (ys_st m a x.toNatClampNeg)
    have hb := w7 ⟨by omega, by omega, by omega⟩
    unfold ys_st
    split
    · exact h.x 1
    · obtain ⟨h1, h2, h3, h4, h5⟩ := h
      refine ⟨h1, h2, h3, h4, fun o k ho hk => ?_⟩
      show ys_vo (ysz m) (ysn m) (ys_u (ysc m) (ys_ad (ysr m a)) (ysr m x.toNatClampNeg) (16 * o + k))
      by_cases c1 : 16 * o + k = ys_ad (ysr m a)
      · rw [c1, ys_u_s]; exact h4 _ hb
      · rw [ys_u_n _ _ c1]; exact h5 o k ho hk
  | 11, _, _, _, _, _ =>
    show ys_ok (ys_pr m a)
    unfold ys_pr
    split
    · split
      · exact h.x 3
      · rename_i q
        obtain ⟨h1, h2, h3, h4, h5⟩ := h
        exact ⟨h1, by show ysq m + 1 ≤ 200; omega, h3, h4, h5⟩
    · exact h.x 1
  | 12, _, _, _, _, _ => exact h.j _
  | 13, _, _, _, _, _ =>
    show ys_ok (ys_if m a x.toNatClampNeg)
    unfold ys_if
    split
    · split
      · exact h.x _
      · exact h.j _
    · exact h.x 1
  | 14, _, _, _, _, _ => exact h.x _
  | 15, _, _, _, _, _ => exact h.x _
end YS
