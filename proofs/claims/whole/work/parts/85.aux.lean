/-! two tools -/
theorem yi_ne {x y : Int32} {A B : Prop} (a b : Nat) (g : a ≠ b → A) (f : a = b → B) (hx : x = nI a := by rfl) (hy : y = nI b := by rfl) (ha : a < 2 ^ 31 := by omega) (hb : b < 2 ^ 31 := by omega) : (¬ x = y → A) ∧ (x = y → B) :=
  ⟨(pk_eq a b f g hx hy ha hb).2, (pk_eq a b f g hx hy ha hb).1⟩
theorem ym_Sof {G : yp_G} {a t : zs_T} (h : ym_S G a) (e : ∀ x, 641 ≤ x → x ≤ 642 → t.1 x = a.1 x) : ym_S G t := by
  unfold ym_S
  rw [e 641 (by omega) (by omega), e 642 (by omega) (by omega)]
  exact h
