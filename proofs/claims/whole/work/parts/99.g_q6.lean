/-! the calls: add -/
def ygk (k : Nat) (a b c : Int32) : Prop := match k with
  | 0 => yx_in 16 a ∧ c = 0
  | 1 => yx_in 16 a ∧ yx_in 16 b ∧ c = 0
  | 9 => yx_in 16 a ∧ yx_in 16 b ∧ c = 0
  | 10 => yx_in 16 a ∧ yx_in 16 b ∧ c = 0
  | 8 => yx_in 16 a ∧ (¬ b < 1 ∧ ¬ 16 < b) ∧ (c = 0 ∨ c = 1)
  | 11 => yx_in 16 a ∧ b = 0 ∧ c = 0
  | 12 => yx_in 201 a ∧ b = 0 ∧ c = 0
  | 13 => yx_in 16 a ∧ yx_in 201 b ∧ c = 0
  | 14 => a = 0 ∧ b = 0 ∧ c = 0
  | 15 => a = 0 ∧ b = 0 ∧ c = 0
  | _ => yx_in 16 a ∧ yx_in 16 b ∧ yx_in 16 c
def yg (l0 l1 l2 l3 : Int32) : Prop := ∃ k, k ≤ 15 ∧ l0 = nI k ∧ ygk k l1 l2 l3
theorem yg_k {k : Nat} {l1 l2 l3 : Int32} (hk : k ≤ 15) : yg (nI k) l1 l2 l3 ↔ ygk k l1 l2 l3 := by
  constructor
  · rintro ⟨k', h1, h2, h3⟩
    have e : k = k' := (nI_eq (by omega) (by omega)).mp h2
    rw [e]
    exact h3
  · intro h
    exact ⟨k, hk, rfl, h⟩
theorem yg_m {k : Nat} {a b c : Int32} (h : 2 ≤ k ∧ k ≤ 7) : ygk k a b c ↔ yx_in 16 a ∧ yx_in 16 b ∧ yx_in 16 c := by
  obtain ⟨h1, h2⟩ := h
  match k, h1, h2 with
  | 2, _, _ => exact Iff.rfl
  | 3, _, _ => exact Iff.rfl
  | 4, _, _ => exact Iff.rfl
  | 5, _, _ => exact Iff.rfl
  | 6, _, _ => exact Iff.rfl
  | 7, _, _ => exact Iff.rfl
section YQ
variable {G : yp_G} {st : zs_T} {K : Int32 → zs_T → Prop} {l0 l1 l2 l3 : Int32}
theorem yg_97 (h1 : yx_in 16 l1 ∧ yx_in 16 l2 ∧ l3 = 0 → K 1 st) (h0 : ¬ (yx_in 16 l1 ∧ yx_in 16 l2 ∧ l3 = 0) → K 0 st) : zf_PR_mayStand_97 K l1 l2 l3 st :=
  yx_reg (fun a => ⟨fun z => absurd z (by decide), fun _ => yx_reg (fun b => ⟨fun z => absurd z (by decide), fun _ => ⟨fun c => h0 (fun z => c z.2.2), fun c => h1 ⟨a, b, c⟩⟩⟩) (fun b => ⟨fun _ => h0 (fun z => b z.2.1), fun z => absurd rfl z⟩)⟩) (fun a => ⟨fun _ => h0 (fun z => a z.1), fun z => absurd rfl z⟩)
theorem yg_121 (h1 : yx_in 16 l1 ∧ yx_in 16 l2 ∧ yx_in 16 l3 → K 1 st) (h0 : ¬ (yx_in 16 l1 ∧ yx_in 16 l2 ∧ yx_in 16 l3) → K 0 st) : zf_PR_mayStand_121 K l1 l2 l3 st :=
  yx_reg (fun a => ⟨fun z => absurd z (by decide), fun _ => yx_reg (fun b => ⟨fun z => absurd z (by decide), fun _ => yx_reg (fun c => ⟨fun z => absurd z (by decide), fun _ => h1 ⟨a, b, c⟩⟩) (fun c => ⟨fun _ => h0 (fun z => c z.2.2), fun z => absurd rfl z⟩)⟩) (fun b => ⟨fun _ => h0 (fun z => b z.2.1), fun z => absurd rfl z⟩)⟩) (fun a => ⟨fun _ => h0 (fun z => a z.1), fun z => absurd rfl z⟩)
theorem yg_247 (h1 : l1 = 0 ∧ l2 = 0 ∧ l3 = 0 → K 1 st) (h0 : ¬ (l1 = 0 ∧ l2 = 0 ∧ l3 = 0) → K 0 st) : zf_PR_mayStand_247 K l1 l2 l3 st :=
  ⟨fun a => h0 (fun z => a z.1), fun a => ⟨fun b => h0 (fun z => b z.2.1), fun b => ⟨fun c => h0 (fun z => c z.2.2), fun c => h1 ⟨a, b, c⟩⟩⟩⟩
theorem yg_c (h1 : yg l0 l1 l2 l3 → K 1 st) (h0 : ¬ yg l0 l1 l2 l3 → K 0 st) : zf_PR_mayStand l0 l1 l2 l3 st K := by
  unfold zf_PR_mayStand
  by_cases q : yx_in 16 l0
  · obtain ⟨k, hk, e⟩ := q
    subst e
    rw [yg_k (by omega)] at h1 h0
    refine pk_eq k 0 (fun e => ?_) (fun n0 => ?_)
    · subst e
      exact yx_reg (fun a => ⟨fun z => absurd z (by decide), fun _ => ⟨fun c => h0 (fun z => c z.2), fun c => h1 ⟨a, c⟩⟩⟩) (fun a => ⟨fun _ => h0 (fun z => a z.1), fun z => absurd rfl z⟩)
    refine pk_eq k 1 (fun e => ?_) (fun n1 => ?_)
    · subst e; exact yg_97 h1 h0
    have mid : 2 ≤ k ∧ k ≤ 7 → zf_PR_mayStand_121 K l1 l2 l3 st := by
      intro z
      rw [yg_m z] at h1 h0
      exact yg_121 h1 h0
    refine pk_eq k 2 (fun e => mid (by omega)) (fun n2 => ?_)
    refine pk_eq k 3 (fun e => mid (by omega)) (fun n3 => ?_)
    refine pk_eq k 4 (fun e => mid (by omega)) (fun n4 => ?_)
    refine pk_eq k 5 (fun e => mid (by omega)) (fun n5 => ?_)
    refine pk_eq k 6 (fun e => mid (by omega)) (fun n6 => ?_)
    refine pk_eq k 7 (fun e => mid (by omega)) (fun n7 => ?_)
    refine pk_eq k 8 (fun e => ?_) (fun n8 => ?_)
    · subst e
      exact yx_reg (fun a => ⟨fun z => absurd z (by decide), fun _ => ⟨fun b => h0 (fun z => z.2.1.1 b), fun b => ⟨fun b2 => h0 (fun z => z.2.1.2 b2), fun b2 => ⟨fun c => h1 ⟨a, ⟨b, b2⟩, Or.inl c⟩, fun c => ⟨fun c1 => h0 (fun z => z.2.2.elim c c1), fun c1 => h1 ⟨a, ⟨b, b2⟩, Or.inr c1⟩⟩⟩⟩⟩⟩) (fun a => ⟨fun _ => h0 (fun z => a z.1), fun z => absurd rfl z⟩)
    refine pk_eq k 9 (fun e => ?_) (fun n9 => ?_)
    · subst e; exact yg_97 h1 h0
    refine pk_eq k 10 (fun e => ?_) (fun n10 => ?_)
    · subst e; exact yg_97 h1 h0
    refine pk_eq k 11 (fun e => ?_) (fun n11 => ?_)
    · subst e
      exact yx_reg (fun a => ⟨fun z => absurd z (by decide), fun _ => ⟨fun b => h0 (fun z => b z.2.1), fun b => ⟨fun c => h0 (fun z => c z.2.2), fun c => h1 ⟨a, b, c⟩⟩⟩⟩) (fun a => ⟨fun _ => h0 (fun z => a z.1), fun z => absurd rfl z⟩)
    refine pk_eq k 12 (fun e => ?_) (fun n12 => ?_)
    · subst e
      exact yx_tar (fun a => ⟨fun z => absurd z (by decide), fun _ => ⟨fun b => h0 (fun z => b z.2.1), fun b => ⟨fun c => h0 (fun z => c z.2.2), fun c => h1 ⟨a, b, c⟩⟩⟩⟩) (fun a => ⟨fun _ => h0 (fun z => a z.1), fun z => absurd rfl z⟩)
    refine pk_eq k 13 (fun e => ?_) (fun n13 => ?_)
    · subst e
      exact yx_reg (fun a => ⟨fun z => absurd z (by decide), fun _ => yx_tar (fun b => ⟨fun z => absurd z (by decide), fun _ => ⟨fun c => h0 (fun z => c z.2.2), fun c => h1 ⟨a, b, c⟩⟩⟩) (fun b => ⟨fun _ => h0 (fun z => b z.2.1), fun z => absurd rfl z⟩)⟩) (fun a => ⟨fun _ => h0 (fun z => a z.1), fun z => absurd rfl z⟩)
    refine pk_eq k 14 (fun e => ?_) (fun n14 => ?_)
    · subst e; exact yg_247 h1 h0
    refine pk_eq k 15 (fun e => ?_) (fun n15 => by omega)
    · subst e; exact yg_247 h1 h0
  · have hno : K 0 st := h0 (fun ⟨k, z1, z2, _⟩ => q ⟨k, by omega, z2⟩)
    have n : ∀ k, k < 16 → ¬ l0 = nI k := fun k hk e => q ⟨k, hk, e⟩
    exact ⟨fun e => absurd e (n 0 (by omega)), fun _ => ⟨fun e => absurd e (n 1 (by omega)), fun _ => ⟨fun e => absurd e (n 2 (by omega)), fun _ => ⟨fun e => absurd e (n 3 (by omega)), fun _ => ⟨fun e => absurd e (n 4 (by omega)), fun _ => ⟨fun e => absurd e (n 5 (by omega)), fun _ => ⟨fun e => absurd e (n 6 (by omega)), fun _ => ⟨fun e => absurd e (n 7 (by omega)), fun _ => ⟨fun e => absurd e (n 8 (by omega)), fun _ => ⟨fun e => absurd e (n 9 (by omega)), fun _ => ⟨fun e => absurd e (n 10 (by omega)), fun _ => ⟨fun e => absurd e (n 11 (by omega)), fun _ => ⟨fun e => absurd e (n 12 (by omega)), fun _ => ⟨fun e => absurd e (n 13 (by omega)), fun _ => ⟨fun e => absurd e (n 14 (by omega)), fun _ => ⟨fun e => absurd e (n 15 (by omega)), fun _ => hno⟩⟩⟩⟩⟩⟩⟩⟩⟩⟩⟩⟩⟩⟩⟩⟩
theorem yg_53 {k : Nat} {s0 : Int32} (hk : k ≤ 15) (hs : k ≠ 12 → (¬ s0 = 0 ↔ yx_in 201 l2)) (hs2 : k = 12 → (¬ s0 = 0 ↔ yx_in 201 l1)) (h1 : ygk k l1 l2 l3 → K 1 st) (h0 : ¬ ygk k l1 l2 l3 → K 0 st) : zf_MO_good_53 K (nI k) l1 l2 l3 s0 st := by
  have m144 : (k = 1 ∨ k = 9 ∨ k = 10) → yx_in 16 l1 → zf_MO_good_144 K l2 l3 st := by
    intro e a
    have e2 : ygk k l1 l2 l3 ↔ yx_in 16 l1 ∧ yx_in 16 l2 ∧ l3 = 0 := by rcases e with e | e | e <;> subst e <;> exact Iff.rfl
    rw [e2] at h1 h0
    exact yx_mreg (fun b => ⟨fun z => absurd z (by decide), fun _ => ⟨fun c => h0 (fun z => c z.2.2), fun c => h1 ⟨a, b, c⟩⟩⟩) (fun b => ⟨fun _ => h0 (fun z => b z.2.1), fun z => absurd rfl z⟩)
  have noreg : k ≠ 12 → k ≤ 13 → ¬ yx_in 16 l1 → ¬ ygk k l1 l2 l3 := by
    intro n12 k13 a z
    by_cases c : 2 ≤ k ∧ k ≤ 7
    · exact a ((yg_m c).mp z).1
    · have c2 : k = 0 ∨ k = 1 ∨ k = 8 ∨ k = 9 ∨ k = 10 ∨ k = 11 ∨ k = 13 := by omega
      rcases c2 with e | e | e | e | e | e | e <;> subst e <;> exact a z.1
  unfold zf_MO_good_53
  refine yi_ne k 12 (fun n12 => pk_le k 13 (fun k13 => yx_mreg (fun a => ⟨fun _ => ?_, fun z => absurd z (by decide)⟩) (fun a => ⟨fun z => absurd rfl z, fun _ => h0 (noreg n12 k13 a)⟩)) (fun k13 => ?_)) (fun e => ?_)
  · refine yi_ne k 0 (fun n0 => pk_eq k 1 (fun e => m144 (by omega) a) (fun n1 => pk_eq k 9 (fun e => m144 (by omega) a) (fun n9 => yi_ne k 10 (fun n10 => pk_le 8 k (fun k8 => yi_ne k 8 (fun n8 => yi_ne k 11 (fun n11 => ?_) (fun e => ?_)) (fun e => ?_)) (fun k8 => ?_)) (fun e => m144 (by omega) a)))) (fun e => ?_)
    · have e : k = 13 := by omega
      subst e
      have hs' := hs n12
      refine br_c (fun c => h0 (fun z => hs'.mpr z.2.1 c)) (fun c => And.intro (fun c2 => h0 (fun z => c2 z.2.2)) (fun c2 => h1 ⟨a, hs'.mp c, c2⟩))
    · subst e
      exact And.intro (fun c2 => h0 (fun z => c2 z.2.1)) (fun c2 => And.intro (fun c3 => h0 (fun z => c3 z.2.2)) (fun c3 => h1 ⟨a, c2, c3⟩))
    · subst e
      exact br_c (fun c2 => h0 (fun z => z.2.1.1 c2)) (fun c2 => br_c (fun c3 => h0 (fun z => z.2.1.2 c3)) (fun c3 => br_c (fun c4 => h1 ⟨a, ⟨c2, c3⟩, Or.inl c4⟩) (fun c4 => And.intro (fun c5 => h0 (fun z => z.2.2.elim c4 c5)) (fun c5 => h1 ⟨a, ⟨c2, c3⟩, Or.inr c5⟩))))
    · have z := yg_m (k := k) (a := l1) (b := l2) (c := l3) (by omega)
      rw [z] at h1 h0
      exact yx_mreg (fun b => ⟨fun z => absurd z (by decide), fun _ => yx_mreg (fun c => ⟨fun z => absurd z (by decide), fun _ => h1 ⟨a, b, c⟩⟩) (fun c => ⟨fun _ => h0 (fun z => c z.2.2), fun z => absurd rfl z⟩)⟩) (fun b => ⟨fun _ => h0 (fun z => b z.2.1), fun z => absurd rfl z⟩)
    · subst e
      exact And.intro (fun c2 => h0 (fun z => c2 z.2)) (fun c2 => h1 ⟨a, c2⟩)
  · have e2 : ygk k l1 l2 l3 ↔ l1 = 0 ∧ l2 = 0 ∧ l3 = 0 := by
      have e : k = 14 ∨ k = 15 := by omega
      rcases e with e | e <;> subst e <;> exact Iff.rfl
    rw [e2] at h1 h0
    exact And.intro (fun a => h0 (fun z => a z.1)) (fun a => And.intro (fun b => h0 (fun z => b z.2.1)) (fun b => And.intro (fun c => h0 (fun z => c z.2.2)) (fun c => h1 ⟨a, b, c⟩)))
  · subst e
    have hs' := hs2 rfl
    exact br_c (fun c => h0 (fun z => hs'.mpr z.1 c)) (fun c => And.intro (fun b => h0 (fun z => b z.2.1)) (fun b => And.intro (fun c2 => h0 (fun z => c2 z.2.2)) (fun c2 => h1 ⟨hs'.mp c, b, c2⟩)))
theorem yg_mo (h1 : yg l0 l1 l2 l3 → K 1 st) (h0 : ¬ yg l0 l1 l2 l3 → K 0 st) : zf_MO_good l0 l1 l2 l3 st K := by
  unfold zf_MO_good
  refine yx_c4 (N := 15) (by omega) rfl (fun q => ?_) (fun q => h0 (fun ⟨k, z1, z2, _⟩ => q ⟨k, by omega, z2⟩))
  obtain ⟨k, hk, e⟩ := q
  subst e
  have hk' : k ≤ 15 := by omega
  rw [yg_k hk'] at h1 h0
  refine yi_ne k 12 (fun n12 => yx_c2 (N := 200) (by omega) rfl (fun z => ?_) (fun z => ?_)) (fun e12 => yx_c2 (N := 200) (by omega) rfl (fun z => ?_) (fun z => ?_))
  · exact yg_53 hk' (fun _ => ⟨fun _ => z, fun _ => by decide⟩) (fun z => absurd z n12) h1 h0
  · exact yg_53 hk' (fun _ => ⟨fun y => absurd rfl y, fun y => absurd y z⟩) (fun z => absurd z n12) h1 h0
  · exact yg_53 hk' (fun z => absurd e12 z) (fun _ => ⟨fun _ => z, fun _ => by decide⟩) h1 h0
  · exact yg_53 hk' (fun z => absurd e12 z) (fun _ => ⟨fun y => absurd rfl y, fun y => absurd y z⟩) h1 h0
theorem yg_w {k : Nat} (hk : k ≤ 15) (h : ygk k l1 l2 l3) : ∃ a c, l1 = nI a ∧ l3 = nI c ∧ yp_w k a l2 c := by
  have cl : ∀ N, N ≤ 201 → yx_in N l2 → l2 = nI l2.toNatClampNeg ∧ l2.toNatClampNeg < N := by
    rintro N hN ⟨i, hi, e⟩
    rw [e, nI_clamp (by omega)]
    exact ⟨rfl, hi⟩
  have cl0 : l2 = 0 → l2 = nI l2.toNatClampNeg ∧ l2.toNatClampNeg = 0 := by
    intro e
    rw [e]
    exact ⟨rfl, rfl⟩
  by_cases m : 2 ≤ k ∧ k ≤ 7
  · obtain ⟨⟨a, ha, ea⟩, hb, ⟨c, hc, ec⟩⟩ := (yg_m m).mp h
    have b := cl 16 (by omega) hb
    exact ⟨a, c, ea, ec, by omega, by omega, by omega, fun _ => ha, fun _ => ⟨b.1, by omega⟩, fun _ => by omega, fun _ => b.2, fun e => by omega⟩
  · have kk : k = 0 ∨ k = 1 ∨ k = 8 ∨ k = 9 ∨ k = 10 ∨ k = 11 ∨ k = 12 ∨ k = 13 ∨ k = 14 ∨ k = 15 := by omega
    rcases kk with e | e | e | e | e | e | e | e | e | e <;> subst e
    · obtain ⟨⟨a, ha, ea⟩, ec⟩ := h
      exact ⟨a, 0, ea, ec, by omega, by omega, by omega, fun _ => ha, fun z => absurd rfl z, fun z => by omega, fun z => by omega, fun e => by omega⟩
    · obtain ⟨⟨a, ha, ea⟩, hb, ec⟩ := h
      have b := cl 16 (by omega) hb
      exact ⟨a, 0, ea, ec, by omega, by omega, by omega, fun _ => ha, fun _ => ⟨b.1, by omega⟩, fun _ => by omega, fun _ => b.2, fun e => by omega⟩
    · obtain ⟨⟨a, ha, ea⟩, hb, hc⟩ := h
      have q0 : ¬ l2 < 0 := by
        intro z
        refine hb.1 ?_
        rw [Int32.lt_iff_toInt_lt] at z ⊢
        have h0 : (0 : Int32).toInt = 0 := by decide
        have h1 : (1 : Int32).toInt = 1 := by decide
        omega
      obtain ⟨j, hj, ej⟩ := nI_of q0
      have b1 : 1 ≤ j := by
        have z := hb.1
        rw [ej, show (1 : Int32) = nI 1 from rfl, nI_ltI hj (by omega)] at z
        omega
      have b2 : j ≤ 16 := by
        have z := hb.2
        rw [ej, show (16 : Int32) = nI 16 from rfl, nI_ltI (by omega) hj] at z
        omega
      have bc : l2.toNatClampNeg = j := by rw [ej]; exact nI_clamp hj
      rcases hc with ec | ec
      · exact ⟨a, 0, ea, ec, by omega, by omega, by omega, fun _ => ha, fun _ => ⟨by rw [bc]; exact ej, by omega⟩, fun _ => by omega, fun z => by omega, fun _ => by omega⟩
      · exact ⟨a, 1, ea, ec, by omega, by omega, by omega, fun _ => ha, fun _ => ⟨by rw [bc]; exact ej, by omega⟩, fun _ => by omega, fun z => by omega, fun _ => by omega⟩
    · obtain ⟨⟨a, ha, ea⟩, hb, ec⟩ := h
      have b := cl 16 (by omega) hb
      exact ⟨a, 0, ea, ec, by omega, by omega, by omega, fun _ => ha, fun _ => ⟨b.1, by omega⟩, fun _ => by omega, fun _ => b.2, fun e => by omega⟩
    · obtain ⟨⟨a, ha, ea⟩, hb, ec⟩ := h
      have b := cl 16 (by omega) hb
      exact ⟨a, 0, ea, ec, by omega, by omega, by omega, fun _ => ha, fun _ => ⟨b.1, by omega⟩, fun _ => by omega, fun _ => b.2, fun e => by omega⟩
    · obtain ⟨⟨a, ha, ea⟩, hb, ec⟩ := h
      have b := cl0 hb
      exact ⟨a, 0, ea, ec, by omega, by omega, by omega, fun _ => ha, fun _ => ⟨b.1, by omega⟩, fun _ => by omega, fun _ => by omega, fun e => by omega⟩
    · obtain ⟨⟨a, ha, ea⟩, hb, ec⟩ := h
      have b := cl0 hb
      exact ⟨a, 0, ea, ec, by omega, by omega, by omega, fun z => absurd rfl z, fun _ => ⟨b.1, by omega⟩, fun _ => by omega, fun _ => by omega, fun e => by omega⟩
    · obtain ⟨⟨a, ha, ea⟩, hb, ec⟩ := h
      have b := cl 201 (by omega) hb
      exact ⟨a, 0, ea, ec, by omega, by omega, by omega, fun _ => ha, fun _ => ⟨b.1, by omega⟩, fun z => by omega, fun z => by omega, fun e => by omega⟩
    · obtain ⟨ha, hb, ec⟩ := h
      have b := cl0 hb
      exact ⟨0, 0, ha, ec, by omega, by omega, by omega, fun _ => by omega, fun _ => ⟨b.1, by omega⟩, fun z => by omega, fun z => by omega, fun e => by omega⟩
    · obtain ⟨ha, hb, ec⟩ := h
      have b := cl0 hb
      exact ⟨0, 0, ha, ec, by omega, by omega, by omega, fun _ => by omega, fun _ => ⟨b.1, by omega⟩, fun z => by omega, fun z => by omega, fun e => by omega⟩
/-- one more instruction -/
def yg_a (G : yp_G) (k a : Nat) (x : Int32) (c : Nat) : yp_G := (yn G + 1, ys_u (yk G) (yn G) k, ys_u (ya G) (yn G) a, ys_u (yx G) (yn G) x, ys_u (yd G) (yn G) c)
theorem yg_ok {k a c : Nat} {x : Int32} (hok : yp_ok G) (hn : yn G < 200) (hw : yp_w k a x c) : yp_ok (yg_a G k a x c) := by
  refine ⟨by show yn G + 1 ≤ 200; omega, fun i hi => ?_⟩
  have hi' : i < yn G + 1 := hi
  show yp_w (ys_u (yk G) (yn G) k i) (ys_u (ya G) (yn G) a i) (ys_u (yx G) (yn G) x i) (ys_u (yd G) (yn G) c i)
  by_cases e : i = yn G
  · rw [e, ys_u_s, ys_u_s, ys_u_s, ys_u_s]; exact hw
  · rw [ys_u_n _ _ e, ys_u_n _ _ e, ys_u_n _ _ e, ys_u_n _ _ e]; exact hok.w (by omega)
theorem yg_row {d : Nat} {k : Nat} {f : Nat → Nat} {v : Int32} {i : Nat} {t t' : zs_T} (hv : v = nI k) (e : ∀ j, t'.1 d j = if j = yn G then v else t.1 d j) (h : ∀ i, i < yn G → t.1 d i = nI (f i)) (hi : i < yn G + 1) : t'.1 d i = nI (ys_u f (yn G) k i) := by
  rw [e i]
  by_cases c : i = yn G
  · rw [if_pos c, c, ys_u_s]; exact hv
  · rw [if_neg c, ys_u_n _ _ c]; exact h i (by omega)
theorem yq_add {l1 l2 l3 l4 : Int32} (h : yL0 G st) (hK : ∀ c u, yM (fun K' => zf_MO_add l1 l2 l3 l4 u K') c → K c u) : zf_LA_add l1 l2 l3 l4 st K := by
  have hok := h.1
  have hn := hok.n
  have hC := h.2.1
  have hD := h.2.2.1
  have h6 : st.1 635 6 = st.1 0 7 := h.2.2.2.1
  by_cases q : yg l1 l2 l3 l4
  · by_cases q2 : yn G < 200 ∧ st.1 0 7 = 0
    · obtain ⟨k, hk, e1, hg⟩ := id q
      obtain ⟨a, c, e2, e4, hw⟩ := yg_w hk hg
      refine Or.inl (yg_c (fun _ => ⟨fun _ => ⟨fun z => absurd q2.2 z, fun _ => ⟨fun _ => ?_, fun z => absurd ?_ z⟩⟩, fun z => absurd z (by decide)⟩) (fun z => absurd q z))
      · show zf_PR_append 1 l1 l2 l3 l4 st _
        unfold zf_PR_append
        rw [hC.1, nI_clamp (n := yn G) (by omega)]
        have iv : vp_in (nI (yn G)) 200 := vp_in_nI (by omega) (by omega)
        refine ⟨iv, nm_e ⟨iv, nm_e ⟨iv, nm_e ⟨iv, nm_e (nm_e ⟨yx_01, nm_e ?_⟩)⟩⟩⟩⟩
        rw [yx_cl0, yi_r _ _ _ _ (by omega), yi_r _ _ _ _ (by omega), yi_r _ _ _ _ (by omega), yi_r _ _ _ _ (by omega), hC.1, nI_1]
        generalize ht : zs_l (zs_i (zs_i (zs_i (zs_i (zs_i st (1 + 1) (yn G) l1) (1 + 2) (yn G) l2) (1 + 3) (yn G) l3) (1 + 4) (yn G) l4) 1 4 (nI (yn G + 1))) 658 0 (nI (yn G)).toInt64 = t
        have t1 : ∀ d, (d < 1 ∨ 5 < d) → t.1 d = st.1 d := by
          intro d hd
          rw [← ht]
          show (zs_i (zs_i (zs_i (zs_i (zs_i st (1 + 1) (yn G) l1) (1 + 2) (yn G) l2) (1 + 3) (yn G) l3) (1 + 4) (yn G) l4) 1 4 (nI (yn G + 1))).1 d = _
          rw [yi_r _ _ _ _ (by omega), yi_r _ _ _ _ (by omega), yi_r _ _ _ _ (by omega), yi_r _ _ _ _ (by omega), yi_r _ _ _ _ (by omega)]
        have t2 : ∀ d, d ≠ 658 → t.2 d = st.2 d := by
          intro d hd
          rw [← ht]
          exact yl_r _ _ _ _ hd
        have t3 : t.2 658 0 = (nI (yn G)).toInt64 := by
          rw [← ht, yl_m, if_pos ⟨rfl, rfl⟩]
        have tC : yp_C 1 (yg_a G k a l3 c) t := by
          rw [← ht]
          refine ⟨by rw [yl_1, yi_s]; rfl, fun i hi => ?_⟩
          have hi' : i < yn G + 1 := hi
          refine ⟨yg_row (d := 1 + 1) (t := st) e1 (fun j => ?_) (fun i hi => (hC.2 i hi).1) hi', yg_row (d := 1 + 2) (t := st) e2 (fun j => ?_) (fun i hi => (hC.2 i hi).2.1) hi', ?_, yg_row (d := 1 + 4) (t := st) e4 (fun j => ?_) (fun i hi => (hC.2 i hi).2.2.2) hi'⟩
          · show (zs_i (zs_i (zs_i (zs_i (zs_i st 2 (yn G) l1) 3 (yn G) l2) 4 (yn G) l3) 5 (yn G) l4) 1 4 (nI (yn G + 1))).1 2 j = _
            rw [yi_r _ 1 _ _ (by omega : 2 ≠ 1), yi_r _ 5 _ _ (by omega : 2 ≠ 5), yi_r _ 4 _ _ (by omega : 2 ≠ 4), yi_r _ 3 _ _ (by omega : 2 ≠ 3), yi_m]
            simp
          · show (zs_i (zs_i (zs_i (zs_i (zs_i st 2 (yn G) l1) 3 (yn G) l2) 4 (yn G) l3) 5 (yn G) l4) 1 4 (nI (yn G + 1))).1 3 j = _
            rw [yi_r _ 1 _ _ (by omega : 3 ≠ 1), yi_r _ 5 _ _ (by omega : 3 ≠ 5), yi_r _ 4 _ _ (by omega : 3 ≠ 4), yi_m, yi_r _ 2 _ _ (by omega : 3 ≠ 2)]
            simp
          · show (zs_i (zs_i (zs_i (zs_i (zs_i st 2 (yn G) l1) 3 (yn G) l2) 4 (yn G) l3) 5 (yn G) l4) 1 4 (nI (yn G + 1))).1 4 i = ys_u (yx G) (yn G) l3 i
            rw [yi_r _ 1 _ _ (by omega : 4 ≠ 1), yi_r _ 5 _ _ (by omega : 4 ≠ 5), yi_m, yi_r _ 3 _ _ (by omega : 4 ≠ 3), yi_r _ 2 _ _ (by omega : 4 ≠ 2)]
            by_cases cc : i = yn G
            · rw [if_pos ⟨rfl, cc⟩, cc, ys_u_s]
            · rw [if_neg (fun z => cc z.2), ys_u_n _ _ cc]; exact (hC.2 i (by omega)).2.2.1
          · show (zs_i (zs_i (zs_i (zs_i (zs_i st 2 (yn G) l1) 3 (yn G) l2) 4 (yn G) l3) 5 (yn G) l4) 1 4 (nI (yn G + 1))).1 5 j = _
            rw [yi_r _ 1 _ _ (by omega : 5 ≠ 1), yi_m, yi_r _ 4 _ _ (by omega : 5 ≠ 4), yi_r _ 3 _ _ (by omega : 5 ≠ 3), yi_r _ 2 _ _ (by omega : 5 ≠ 2)]
            simp
        refine hK 0 t (fun K' hK' => yg_mo (fun _ => ⟨fun _ => ⟨fun z => absurd z ?_, fun _ => ⟨fun _ => nm_e ?_, fun z => absurd ?_ z⟩⟩, fun z => absurd z (by decide)⟩) (fun z => absurd q z))
        · rw [t1 635 (by omega), hD.1, show (200 : Int32) = nI 200 from rfl, nI_eq (by omega) (by omega)]
          omega
        · rw [yi_s]
          refine ⟨fun _ => ?_, fun z => absurd (by decide) z⟩
          have r5 : (zs_i t 635 0 0).1 635 5 = nI (yn G) := by
            rw [yi_n _ _ _ (by omega), t1 635 (by omega)]
            exact hD.1
          have iv4 : vp_in (nI (yn G)) 400 := vp_in_nI (by omega) (by omega)
          rw [r5, nI_clamp (n := yn G) (by omega)]
          refine ⟨iv4, nm_e ?_⟩
          rw [yi_r _ _ _ _ (by omega : 635 ≠ 636), r5, nI_clamp (n := yn G) (by omega)]
          refine ⟨iv4, nm_e ?_⟩
          rw [yi_r _ _ _ _ (by omega : 635 ≠ 637), yi_r _ _ _ _ (by omega : 635 ≠ 636), r5, nI_clamp (n := yn G) (by omega)]
          refine ⟨iv4, nm_e ?_⟩
          rw [yi_r _ _ _ _ (by omega : 635 ≠ 638), yi_r _ _ _ _ (by omega : 635 ≠ 637), yi_r _ _ _ _ (by omega : 635 ≠ 636), r5, nI_clamp (n := yn G) (by omega)]
          refine ⟨iv4, nm_e (nm_e ?_)⟩
          rw [yi_s, yi_r _ _ _ _ (by omega : 635 ≠ 639), yi_r _ _ _ _ (by omega : 635 ≠ 638), yi_r _ _ _ _ (by omega : 635 ≠ 637), yi_r _ _ _ _ (by omega : 635 ≠ 636), r5, nI_1, nI_pred]
          generalize hu : zs_i (zs_i (zs_i (zs_i (zs_i (zs_i t 635 0 0) 636 (yn G) l1) 637 (yn G) l2) 638 (yn G) l3) 639 (yn G) l4) 635 5 (nI (yn G + 1)) = u
          have u1 : ∀ d, (d < 635 ∨ 639 < d) → u.1 d = t.1 d := by
            intro d hd
            rw [← hu, yi_r _ _ _ _ (by omega), yi_r _ _ _ _ (by omega), yi_r _ _ _ _ (by omega), yi_r _ _ _ _ (by omega), yi_r _ _ _ _ (by omega), yi_r _ _ _ _ (by omega)]
          have u2 : u.2 = t.2 := by rw [← hu]; rfl
          have u3 : ∀ x, x ≠ 0 → x ≠ 5 → u.1 635 x = st.1 635 x := by
            intro x z1 z2
            rw [← hu, yi_n _ _ _ z2, yi_r _ _ _ _ (by omega), yi_r _ _ _ _ (by omega), yi_r _ _ _ _ (by omega), yi_r _ _ _ _ (by omega), yi_n _ _ _ z1, t1 635 (by omega)]
          refine hK' _ u ⟨yg_a G k a l3 c, yg_ok hok q2.1 hw, tC.off (fun x _ _ => u1 x (by omega)), ⟨?_, fun i hi => ?_⟩, ?_, fun z => absurd ?_ z, ?_⟩ ?_ (fun _ => ?_)
          · rw [← hu, yi_s]; rfl
          · have hi' : i < yn G + 1 := hi
            have e0 : ∀ j : Nat, 0 + j = j := Nat.zero_add
            refine ⟨?_, ?_, ?_, ?_⟩
            · rw [e0]
              refine yg_row (d := 636) (t := st) e1 (fun j => ?_) (fun i hi => by have z := (hD.2 i hi).1; rw [e0] at z; exact z) hi'
              rw [← hu, yi_r _ 635 _ _ (by omega : 636 ≠ 635), yi_r _ 639 _ _ (by omega : 636 ≠ 639), yi_r _ 638 _ _ (by omega : 636 ≠ 638), yi_r _ 637 _ _ (by omega : 636 ≠ 637), yi_m, yi_r _ 635 _ _ (by omega : 636 ≠ 635), t1 636 (by omega)]
              simp
            · rw [e0]
              refine yg_row (d := 637) (t := st) e2 (fun j => ?_) (fun i hi => by have z := (hD.2 i hi).2.1; rw [e0] at z; exact z) hi'
              rw [← hu, yi_r _ 635 _ _ (by omega : 637 ≠ 635), yi_r _ 639 _ _ (by omega : 637 ≠ 639), yi_r _ 638 _ _ (by omega : 637 ≠ 638), yi_m, yi_r _ 636 _ _ (by omega : 637 ≠ 636), yi_r _ 635 _ _ (by omega : 637 ≠ 635), t1 637 (by omega)]
              simp
            · rw [e0]
              show u.1 638 i = ys_u (yx G) (yn G) l3 i
              rw [← hu, yi_r _ 635 _ _ (by omega : 638 ≠ 635), yi_r _ 639 _ _ (by omega : 638 ≠ 639), yi_m, yi_r _ 637 _ _ (by omega : 638 ≠ 637), yi_r _ 636 _ _ (by omega : 638 ≠ 636), yi_r _ 635 _ _ (by omega : 638 ≠ 635), t1 638 (by omega)]
              by_cases cc : i = yn G
              · rw [if_pos ⟨rfl, cc⟩, cc, ys_u_s]
              · rw [if_neg (fun z => cc z.2), ys_u_n _ _ cc]
                have z := (hD.2 i (by omega)).2.2.1
                rw [e0] at z
                exact z
            · rw [e0]
              refine yg_row (d := 639) (t := st) e4 (fun j => ?_) (fun i hi => by have z := (hD.2 i hi).2.2.2; rw [e0] at z; exact z) hi'
              rw [← hu, yi_r _ 635 _ _ (by omega : 639 ≠ 635), yi_m, yi_r _ 638 _ _ (by omega : 639 ≠ 638), yi_r _ 637 _ _ (by omega : 639 ≠ 637), yi_r _ 636 _ _ (by omega : 639 ≠ 636), yi_r _ 635 _ _ (by omega : 639 ≠ 635), t1 639 (by omega)]
              simp
          · rw [u3 6 (by omega) (by omega), u1 0 (by omega), t1 0 (by omega)]
            exact h6
          · rw [u1 0 (by omega), t1 0 (by omega)]
            exact q2.2
          · refine h.2.2.2.2.2.of (fun d _ _ => ?_) (fun d _ _ => ?_) (fun d _ _ => ?_) (fun x _ => u3 x (by omega) (by omega))
            · rw [u1 d (by omega), t1 d (by omega)]
            · rw [u2, t2 d (by omega)]
            · rw [u1 d (by omega), t1 d (by omega)]
          · rw [← hu, yi_n _ _ _ (by omega), yi_r _ _ _ _ (by omega), yi_r _ _ _ _ (by omega), yi_r _ _ _ _ (by omega), yi_r _ _ _ _ (by omega), yi_s]
          · rw [u2]
            exact t3
        · rw [t1 635 (by omega), h6]
          exact q2.2
      · rw [hC.1, show (200 : Int32) = nI 200 from rfl, nI_ltI (by omega) (by omega)]
        exact q2.1
    · have fin2 : K 2 st := by
        refine hK 2 st (fun K' hK' => ?_)
        have z33 : zf_MO_add_33 K' l1 l2 l3 l4 st := by
          refine nm_e ?_
          rw [yi_s]
          exact ⟨fun z => absurd z (by decide), fun _ => hK' 0 _ ⟨G, h.r 2⟩ (yi_s _ _ _ _) (fun z => absurd z (by decide))⟩
        refine yg_mo (fun _ => ⟨fun _ => ⟨fun _ => z33, fun z => ⟨fun z2 => absurd ⟨?_, h6 ▸ z2⟩ q2, fun _ => z33⟩⟩, fun z => absurd z (by decide)⟩) (fun z => absurd q z)
        rw [hD.1, show (200 : Int32) = nI 200 from rfl, nI_eq (by omega) (by omega)] at z
        omega
      refine Or.inr (yg_c (fun _ => ⟨fun _ => ⟨fun _ => Or.inr ⟨rfl, fin2⟩, fun z => ⟨fun z2 => q2 ⟨?_, z⟩, fun _ => Or.inr ⟨rfl, fin2⟩⟩⟩, fun z => absurd z (by decide)⟩) (fun z => absurd q z))
      rw [hC.1, show (200 : Int32) = nI 200 from rfl, nI_ltI (by omega) (by omega)] at z2
      exact z2
  · refine Or.inr (yg_c (fun z => absurd z q) (fun _ => ⟨fun z => absurd rfl z, fun _ => Or.inl ⟨rfl, ?_⟩⟩))
    refine hK 1 st (fun K' hK' => yg_mo (fun z => absurd z q) (fun _ => ⟨fun z => absurd rfl z, fun _ => nm_e ?_⟩))
    rw [yi_s]
    exact ⟨fun z => absurd z (by decide), fun _ => hK' 0 _ ⟨G, h.r 1⟩ (yi_s _ _ _ _) (fun z => absurd z (by decide))⟩
end YQ
