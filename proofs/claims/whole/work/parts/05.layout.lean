/-! The cells that the law makes, in the order of their making. -/
def zs_tA : List (Nat × Nat × List Nat) := [(0, 0, [3, 8, 13, 14, 19, 629, 631, 1, 1]), (0, 1, [4, 5, 6, 7, 1]), (1, 200, []), (1, 200, []), (1, 200, []), (1, 200, []), (0, 1, [9, 10, 11, 12, 1]), (1, 200, []), (1, 200, []), (1, 200, []), (1, 200, []), (1, 200, []), (0, 2, [15, 16, 17, 1, 18, 1]), (3, 64, []), (3, 800, []), (1, 200, []), (1, 16, []), (0, 4, [20, 21, 22, 23]), (4, 201, [201, 24]), (2, 201, []), (2, 201, []), (0, 3, [24, 25, 1]), (1, 16, []), (1, 16, [])]
def zs_tB : List (Nat × Nat × List Nat) := [(0, 5, [630]), (1, 201, []), (0, 6, [632, 633, 634, 635, 1, 1, 1, 1, 636, 1, 1]), (3, 16, []), (3, 4800, []), (1, 300, []), (1, 300, []), (1, 200, []), (0, 7, [1, 638, 639, 640, 641, 1, 1, 1, 642, 1, 643, 644, 645, 646, 647, 648, 649, 650, 651, 652, 653, 654, 655, 656, 657, 658, 1, 659, 1, 1, 1]), (1, 400, []), (1, 400, []), (1, 400, []), (1, 400, []), (1, 200, []), (2, 3200, []), (2, 40000, []), (2, 201, []), (2, 51456, []), (2, 51456, []), (2, 3216, []), (2, 3216, []), (2, 256, []), (2, 256, []), (2, 16, []), (1, 16, []), (1, 16, []), (1, 4800, []), (1, 4800, []), (1, 300, []), (2, 300, []), (1, 200, []), (3, 1, [])]
def zs_ly : zs_L := fun d => if d < 24 then zs_tA.getD d (9, 0, []) else if d < 627 then (if (d - 24) % 3 = 0 then (0, 3, [d + 1 + 2, d + 2 + 2, 1]) else (1, 16, [])) else zs_tB.getD (d - 627) (9, 0, [])
abbrev zs_N : Nat := 659
def zs_Fa (d : Nat) : Prop := (d < zs_N ∧ zs_ly d = (0, 3, [d + 1 + 2, d + 2 + 2, 1])) ∧ (d + 1 < zs_N ∧ zs_ly (d + 1) = (1, 16, [])) ∧ (d + 2 < zs_N ∧ zs_ly (d + 2) = (1, 16, []))
def zs_Pr (d : Nat) : Prop := (d < zs_N ∧ zs_ly d = (0, 1, [d + 1 + 2, d + 2 + 2, d + 3 + 2, d + 4 + 2, 1])) ∧ (d + 1 < zs_N ∧ zs_ly (d + 1) = (1, 200, [])) ∧ (d + 2 < zs_N ∧ zs_ly (d + 2) = (1, 200, [])) ∧ (d + 3 < zs_N ∧ zs_ly (d + 3) = (1, 200, [])) ∧ (d + 4 < zs_N ∧ zs_ly (d + 4) = (1, 200, []))
theorem zl_0 : 0 < zs_N ∧ zs_ly 0 = (0, 0, [3, 8, 13, 14, 19, 629, 631, 1, 1]) := ⟨by decide, rfl⟩
theorem zl_1 : 1 < zs_N ∧ zs_ly 1 = (0, 1, [4, 5, 6, 7, 1]) := ⟨by decide, rfl⟩
theorem zl_2 : 2 < zs_N ∧ zs_ly 2 = (1, 200, []) := ⟨by decide, rfl⟩
theorem zl_3 : 3 < zs_N ∧ zs_ly 3 = (1, 200, []) := ⟨by decide, rfl⟩
theorem zl_4 : 4 < zs_N ∧ zs_ly 4 = (1, 200, []) := ⟨by decide, rfl⟩
theorem zl_5 : 5 < zs_N ∧ zs_ly 5 = (1, 200, []) := ⟨by decide, rfl⟩
theorem zl_6 : 6 < zs_N ∧ zs_ly 6 = (0, 1, [9, 10, 11, 12, 1]) := ⟨by decide, rfl⟩
theorem zl_7 : 7 < zs_N ∧ zs_ly 7 = (1, 200, []) := ⟨by decide, rfl⟩
theorem zl_8 : 8 < zs_N ∧ zs_ly 8 = (1, 200, []) := ⟨by decide, rfl⟩
theorem zl_9 : 9 < zs_N ∧ zs_ly 9 = (1, 200, []) := ⟨by decide, rfl⟩
theorem zl_10 : 10 < zs_N ∧ zs_ly 10 = (1, 200, []) := ⟨by decide, rfl⟩
theorem zl_11 : 11 < zs_N ∧ zs_ly 11 = (1, 200, []) := ⟨by decide, rfl⟩
theorem zl_12 : 12 < zs_N ∧ zs_ly 12 = (0, 2, [15, 16, 17, 1, 18, 1]) := ⟨by decide, rfl⟩
theorem zl_13 : 13 < zs_N ∧ zs_ly 13 = (3, 64, []) := ⟨by decide, rfl⟩
theorem zl_14 : 14 < zs_N ∧ zs_ly 14 = (3, 800, []) := ⟨by decide, rfl⟩
theorem zl_15 : 15 < zs_N ∧ zs_ly 15 = (1, 200, []) := ⟨by decide, rfl⟩
theorem zl_16 : 16 < zs_N ∧ zs_ly 16 = (1, 16, []) := ⟨by decide, rfl⟩
theorem zl_17 : 17 < zs_N ∧ zs_ly 17 = (0, 4, [20, 21, 22, 23]) := ⟨by decide, rfl⟩
theorem zl_18 : 18 < zs_N ∧ zs_ly 18 = (4, 201, [201, 24]) := ⟨by decide, rfl⟩
theorem zl_19 : 19 < zs_N ∧ zs_ly 19 = (2, 201, []) := ⟨by decide, rfl⟩
theorem zl_20 : 20 < zs_N ∧ zs_ly 20 = (2, 201, []) := ⟨by decide, rfl⟩
theorem zl_21 : 21 < zs_N ∧ zs_ly 21 = (0, 3, [24, 25, 1]) := ⟨by decide, rfl⟩
theorem zl_22 : 22 < zs_N ∧ zs_ly 22 = (1, 16, []) := ⟨by decide, rfl⟩
theorem zl_23 : 23 < zs_N ∧ zs_ly 23 = (1, 16, []) := ⟨by decide, rfl⟩
theorem zl_627 : 627 < zs_N ∧ zs_ly 627 = (0, 5, [630]) := ⟨by decide, rfl⟩
theorem zl_628 : 628 < zs_N ∧ zs_ly 628 = (1, 201, []) := ⟨by decide, rfl⟩
theorem zl_629 : 629 < zs_N ∧ zs_ly 629 = (0, 6, [632, 633, 634, 635, 1, 1, 1, 1, 636, 1, 1]) := ⟨by decide, rfl⟩
theorem zl_630 : 630 < zs_N ∧ zs_ly 630 = (3, 16, []) := ⟨by decide, rfl⟩
theorem zl_631 : 631 < zs_N ∧ zs_ly 631 = (3, 4800, []) := ⟨by decide, rfl⟩
theorem zl_632 : 632 < zs_N ∧ zs_ly 632 = (1, 300, []) := ⟨by decide, rfl⟩
theorem zl_633 : 633 < zs_N ∧ zs_ly 633 = (1, 300, []) := ⟨by decide, rfl⟩
theorem zl_634 : 634 < zs_N ∧ zs_ly 634 = (1, 200, []) := ⟨by decide, rfl⟩
theorem zl_635 : 635 < zs_N ∧ zs_ly 635 = (0, 7, [1, 638, 639, 640, 641, 1, 1, 1, 642, 1, 643, 644, 645, 646, 647, 648, 649, 650, 651, 652, 653, 654, 655, 656, 657, 658, 1, 659, 1, 1, 1]) := ⟨by decide, rfl⟩
theorem zl_636 : 636 < zs_N ∧ zs_ly 636 = (1, 400, []) := ⟨by decide, rfl⟩
theorem zl_637 : 637 < zs_N ∧ zs_ly 637 = (1, 400, []) := ⟨by decide, rfl⟩
theorem zl_638 : 638 < zs_N ∧ zs_ly 638 = (1, 400, []) := ⟨by decide, rfl⟩
theorem zl_639 : 639 < zs_N ∧ zs_ly 639 = (1, 400, []) := ⟨by decide, rfl⟩
theorem zl_640 : 640 < zs_N ∧ zs_ly 640 = (1, 200, []) := ⟨by decide, rfl⟩
theorem zl_641 : 641 < zs_N ∧ zs_ly 641 = (2, 3200, []) := ⟨by decide, rfl⟩
theorem zl_642 : 642 < zs_N ∧ zs_ly 642 = (2, 40000, []) := ⟨by decide, rfl⟩
theorem zl_643 : 643 < zs_N ∧ zs_ly 643 = (2, 201, []) := ⟨by decide, rfl⟩
theorem zl_644 : 644 < zs_N ∧ zs_ly 644 = (2, 51456, []) := ⟨by decide, rfl⟩
theorem zl_645 : 645 < zs_N ∧ zs_ly 645 = (2, 51456, []) := ⟨by decide, rfl⟩
theorem zl_646 : 646 < zs_N ∧ zs_ly 646 = (2, 3216, []) := ⟨by decide, rfl⟩
theorem zl_647 : 647 < zs_N ∧ zs_ly 647 = (2, 3216, []) := ⟨by decide, rfl⟩
theorem zl_648 : 648 < zs_N ∧ zs_ly 648 = (2, 256, []) := ⟨by decide, rfl⟩
theorem zl_649 : 649 < zs_N ∧ zs_ly 649 = (2, 256, []) := ⟨by decide, rfl⟩
theorem zl_650 : 650 < zs_N ∧ zs_ly 650 = (2, 16, []) := ⟨by decide, rfl⟩
theorem zl_651 : 651 < zs_N ∧ zs_ly 651 = (1, 16, []) := ⟨by decide, rfl⟩
theorem zl_652 : 652 < zs_N ∧ zs_ly 652 = (1, 16, []) := ⟨by decide, rfl⟩
theorem zl_653 : 653 < zs_N ∧ zs_ly 653 = (1, 4800, []) := ⟨by decide, rfl⟩
theorem zl_654 : 654 < zs_N ∧ zs_ly 654 = (1, 4800, []) := ⟨by decide, rfl⟩
theorem zl_655 : 655 < zs_N ∧ zs_ly 655 = (1, 300, []) := ⟨by decide, rfl⟩
theorem zl_656 : 656 < zs_N ∧ zs_ly 656 = (2, 300, []) := ⟨by decide, rfl⟩
theorem zl_657 : 657 < zs_N ∧ zs_ly 657 = (1, 200, []) := ⟨by decide, rfl⟩
theorem zl_658 : 658 < zs_N ∧ zs_ly 658 = (3, 1, []) := ⟨by decide, rfl⟩
theorem zs_Fa_21 : zs_Fa 21 := ⟨zl_21, zl_22, zl_23⟩
theorem zs_Pr_1 : zs_Pr 1 := ⟨zl_1, zl_2, zl_3, zl_4, zl_5⟩
theorem zs_Pr_6 : zs_Pr 6 := ⟨zl_6, zl_7, zl_8, zl_9, zl_10⟩
theorem zs_Fa_b {j : Nat} (h : j < 201) : zs_Fa (24 + 3 * j) := by
  have h0 : zs_ly (24 + 3 * j) = (0, 3, [(24 + 3 * j) + 1 + 2, (24 + 3 * j) + 2 + 2, 1]) := by
    unfold zs_ly
    rw [if_neg (by omega), if_pos (by omega), if_pos (by omega)]
  have h1 : zs_ly (24 + 3 * j + 1) = (1, 16, []) := by
    unfold zs_ly
    rw [if_neg (by omega), if_pos (by omega), if_neg (by omega)]
  have h2 : zs_ly (24 + 3 * j + 2) = (1, 16, []) := by
    unfold zs_ly
    rw [if_neg (by omega), if_pos (by omega), if_neg (by omega)]
  exact ⟨⟨by unfold zs_N; omega, h0⟩, ⟨by unfold zs_N; omega, h1⟩, ⟨by unfold zs_N; omega, h2⟩⟩
