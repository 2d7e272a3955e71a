/-! ThriftyStores(): by program (wip/whole/gen/tsinit.py) -/
set_option maxHeartbeats 4000000 in
set_option maxRecDepth 100000 in
theorem zn_TS_init (l : Launch) (g : zs_G) (A : Nat → Prop) (sz : Nat) (st : zs_T) (had : ∀ d, g.2.1 d = sz + d) (hA : ∀ q, sz ≤ q → A q) (hz : ∀ x, st.1 x = (fun _ => 0) ∧ st.2 x = (fun _ => 0)) : Met l yTS_init (.code yTS_init cTS_init 1 none :: zs_tb) (zt_rm 3 53 634 16402) (zn_Pc g (va_up zs_ly 0 (0, 0, [0, 0, 0, 0, 0, 0, 0, 1, 1])) 1 sz A [.ref (g.2.1 0)] st) (zn_Q g zs_ly 635 A (zs_i st 629 6 (-1))) 634 16402 A := by
  refine zn_met (cc := cTS_init) (maxL := 1) (ret := none) (by decide) rfl (Nat.le_of_ble_eq_true rfl) (fun p e s m below meth c ls hM hin hO hsz hl hP => ?_)
  have hM : zs_M p c cTS_init 1 s m meth [Value.ref (g.2.1 0)].toArray "ThriftyStores" none g := hM
  obtain ⟨hx, hb, hml, hr, hlk, hts, hown, hK⟩ := id hM
  have hl : lv_has ls 1 [(0, .ref (g.2.1 0))] := hl
  have hS : va_S A s.heap s.heap [] := va_S.rf
  have hlc : (va_up zs_ly 0 (0, 0, [0, 0, 0, 0, 0, 0, 0, 1, 1])) 0 = (0, 0, [0, 0, 0, 0, 0, 0, 0, 1, 1]) := va_up_self _ _ _
  refine lv_aload_n hx hb dTS_init_0 rfl (lv_at hl 0 rfl) ?_
  refine W.objInit hx hb hown (hts _ zq_24) (hts _ zq_25) (hts _ zq_26) rfl (by rw [hml]; exact hl.1) rfl dTS_init_1 (Nat.le_of_ble_eq_true rfl) (Nat.le_of_ble_eq_true rfl) ?_
  refine W.eq (g2 := F0 m 4 ls []) rfl ?_
  refine lv_aload_n hx hb dTS_init_4 rfl (lv_at hl 0 rfl) ?_
  have hc0 : s.heap.size + 0 = sz + 1 := by omega
  refine zn_sized hP had (by decide) hc0 (fun hsz => ?_)
  refine zn_new hx hb hts zi_PR tyPR tyPR_ok hown zq_27 zq_28 zq_2 hK.1 hP hc0 hsz had hA hS (ci := 1) (fs := [0, 0, 0, 0, 1]) rfl (hz 1).1 rfl (by decide) (by decide +kernel) (by decide) (by decide) dTS_init_5 (fun H hP hS => ?_)
  refine lv_dup hx hb dTS_init_8 rfl ?_
  have hc0 : s.heap.size + 1 = sz + 2 := by omega
  refine zn_call (mc := 4) (ms := 800) (ly' := va_up zs_ly 0 (0, 0, [0, 0, 0, 0, 0, 0, 0, 1, 1])) (N' := 6) (st' := st) (a := [Value.ref (g.2.1 1)].toArray) (rest := [.ref (g.2.1 1), .ref (g.2.1 0)]) hP had (by decide) hc0 (fun hsz => va_runIN (As := []) (rest := [.ref (g.2.1 1), .ref (g.2.1 0)]) ⟨hx, hb, hml, hown, hts⟩ (zn_PR_init l g A sz 1 (va_up zs_ly 0 (0, 0, [0, 0, 0, 0, 0, 0, 0, 1, 1])) st had hA ⟨rfl, rfl, rfl, rfl, rfl⟩ (fun x _ => hz x)) ⟨va_cnB 0 hts (zs_gN zq_31) rfl rfl rfl (hK.2 (.methodLinkNest "ThriftyStores" 11 yPR_init "ThriftyStores") (by decide +kernel)) (hts _ zq_2) ⟨by decide, by decide, by decide +kernel⟩ ⟨by decide, by decide⟩, rfl, hts _ zq_30⟩ (zn_pre hK hO hP hsz) rfl rfl hl.1 rfl (lv_room (Nat.le_of_ble_eq_true rfl)) dTS_init_9 ⟨by decide, by decide⟩) hS (fun H locs hP hS => ?_)
  refine zn_putr hx hb hts zi_TS tyTS tyTS_ok nmTS hown hK.1 hP hS (b := 1) (by decide) hlc rfl 0 (by decide) (by decide) (hts _ zq_201) rfl hin rfl rfl rfl dTS_init_12 (fun H locs hP hS => ?_)
  rw [bx_uu] at hP
  have hP : zs_P g (va_up zs_ly 0 (0, 0, [3, 0, 0, 0, 0, 0, 0, 1, 1])) 6 A st H := hP
  have hlc : (va_up zs_ly 0 (0, 0, [3, 0, 0, 0, 0, 0, 0, 1, 1])) 0 = (0, 0, [3, 0, 0, 0, 0, 0, 0, 1, 1]) := va_up_self _ _ _
  refine lv_aload_n hx hb dTS_init_15 rfl (lv_at hl 0 rfl) ?_
  have hc0 : s.heap.size + 5 = sz + 6 := by omega
  refine zn_sized hP had (by decide) hc0 (fun hsz => ?_)
  refine zn_new hx hb hts zi_PR tyPR tyPR_ok hown zq_27 zq_28 zq_2 hK.1 hP hc0 hsz had hA hS (ci := 1) (fs := [0, 0, 0, 0, 1]) rfl (hz 6).1 rfl (by decide) (by decide +kernel) (by decide) (by decide) dTS_init_16 (fun H hP hS => ?_)
  refine lv_dup hx hb dTS_init_19 rfl ?_
  have hc0 : s.heap.size + 6 = sz + 7 := by omega
  refine zn_call (mc := 4) (ms := 800) (ly' := va_up zs_ly 0 (0, 0, [3, 0, 0, 0, 0, 0, 0, 1, 1])) (N' := 11) (st' := st) (a := [Value.ref (g.2.1 6)].toArray) (rest := [.ref (g.2.1 6), .ref (g.2.1 0)]) hP had (by decide) hc0 (fun hsz => va_runIN (As := []) (rest := [.ref (g.2.1 6), .ref (g.2.1 0)]) ⟨hx, hb, hml, hown, hts⟩ (zn_PR_init l g A sz 6 (va_up zs_ly 0 (0, 0, [3, 0, 0, 0, 0, 0, 0, 1, 1])) st had hA ⟨rfl, rfl, rfl, rfl, rfl⟩ (fun x _ => hz x)) ⟨va_cnB 0 hts (zs_gN zq_31) rfl rfl rfl (hK.2 (.methodLinkNest "ThriftyStores" 11 yPR_init "ThriftyStores") (by decide +kernel)) (hts _ zq_2) ⟨by decide, by decide, by decide +kernel⟩ ⟨by decide, by decide⟩, rfl, hts _ zq_30⟩ (zn_pre hK hO hP hsz) rfl rfl hl.1 rfl (lv_room (Nat.le_of_ble_eq_true rfl)) dTS_init_20 ⟨by decide, by decide⟩) hS (fun H locs hP hS => ?_)
  refine zn_putr hx hb hts zi_TS tyTS tyTS_ok nmTS hown hK.1 hP hS (b := 6) (by decide) hlc rfl 1 (by decide) (by decide) (hts _ zq_202) rfl hin rfl rfl rfl dTS_init_23 (fun H locs hP hS => ?_)
  rw [bx_uu] at hP
  have hP : zs_P g (va_up zs_ly 0 (0, 0, [3, 8, 0, 0, 0, 0, 0, 1, 1])) 11 A st H := hP
  have hlc : (va_up zs_ly 0 (0, 0, [3, 8, 0, 0, 0, 0, 0, 1, 1])) 0 = (0, 0, [3, 8, 0, 0, 0, 0, 0, 1, 1]) := va_up_self _ _ _
  refine lv_aload_n hx hb dTS_init_26 rfl (lv_at hl 0 rfl) ?_
  refine lv_sipush (v := 200) hx hb dTS_init_27 (by decide) ?_
  refine zn_newi hx hb (hts _ zq_71) hK.1 hP (by omega) (by decide) had hA hS (n := 200) rfl (hz _).1 (by decide) (by decide) (by decide) (by decide) (by decide) dTS_init_30 (fun H hP hS => ?_)
  refine zn_putr hx hb hts zi_TS tyTS tyTS_ok nmTS hown hK.1 hP hS (b := 11) (by decide) hlc rfl 2 (by decide) (by decide) (hts _ zq_203) rfl hin rfl rfl rfl dTS_init_32 (fun H locs hP hS => ?_)
  rw [bx_uu] at hP
  have hP : zs_P g (va_up zs_ly 0 (0, 0, [3, 8, 13, 0, 0, 0, 0, 1, 1])) 12 A st H := hP
  have hlc : (va_up zs_ly 0 (0, 0, [3, 8, 13, 0, 0, 0, 0, 1, 1])) 0 = (0, 0, [3, 8, 13, 0, 0, 0, 0, 1, 1]) := va_up_self _ _ _
  refine lv_aload_n hx hb dTS_init_35 rfl (lv_at hl 0 rfl) ?_
  have hc0 : s.heap.size + 11 = sz + 12 := by omega
  refine zn_sized hP had (by decide) hc0 (fun hsz => ?_)
  refine zn_new hx hb hts zi_AD tyAD tyAD_ok hown zq_72 zq_73 zq_3 hK.1 hP hc0 hsz had hA hS (ci := 2) (fs := [0, 0, 0, 1, 0, 1]) rfl (hz 12).1 rfl (by decide) (by decide +kernel) (by decide) (by decide) dTS_init_36 (fun H hP hS => ?_)
  refine lv_dup hx hb dTS_init_39 rfl ?_
  have hc0 : s.heap.size + 12 = sz + 13 := by omega
  refine zn_call (mc := 4) (ms := 1080) (ly' := va_up zs_ly 0 (0, 0, [3, 8, 13, 0, 0, 0, 0, 1, 1])) (N' := 17) (st' := st) (a := [Value.ref (g.2.1 12)].toArray) (rest := [.ref (g.2.1 12), .ref (g.2.1 0)]) hP had (by decide) hc0 (fun hsz => va_runIN (As := []) (rest := [.ref (g.2.1 12), .ref (g.2.1 0)]) ⟨hx, hb, hml, hown, hts⟩ (zn_AD_init l g A sz 12 (va_up zs_ly 0 (0, 0, [3, 8, 13, 0, 0, 0, 0, 1, 1])) st had hA ⟨rfl, rfl, rfl, rfl, rfl⟩ (fun x _ => hz x)) ⟨va_cnB 0 hts (zs_gN zq_76) rfl rfl rfl (hK.2 (.methodLinkNest "ThriftyStores" 25 yAD_init "ThriftyStores") (by decide +kernel)) (hts _ zq_3) ⟨by decide, by decide, by decide +kernel⟩ ⟨by decide, by decide⟩, rfl, hts _ zq_75⟩ (zn_pre hK hO hP hsz) rfl rfl hl.1 rfl (lv_room (Nat.le_of_ble_eq_true rfl)) dTS_init_40 ⟨by decide, by decide⟩) hS (fun H locs hP hS => ?_)
  refine zn_putr hx hb hts zi_TS tyTS tyTS_ok nmTS hown hK.1 hP hS (b := 12) (by decide) hlc rfl 3 (by decide) (by decide) (hts _ zq_204) rfl hin rfl rfl rfl dTS_init_43 (fun H locs hP hS => ?_)
  rw [bx_uu] at hP
  have hP : zs_P g (va_up zs_ly 0 (0, 0, [3, 8, 13, 14, 0, 0, 0, 1, 1])) 17 A st H := hP
  have hlc : (va_up zs_ly 0 (0, 0, [3, 8, 13, 14, 0, 0, 0, 1, 1])) 0 = (0, 0, [3, 8, 13, 14, 0, 0, 0, 1, 1]) := va_up_self _ _ _
  refine lv_aload_n hx hb dTS_init_46 rfl (lv_at hl 0 rfl) ?_
  have hc0 : s.heap.size + 16 = sz + 17 := by omega
  refine zn_sized hP had (by decide) hc0 (fun hsz => ?_)
  refine zn_new hx hb hts zi_KN tyKN tyKN_ok hown zq_101 zq_102 zq_4 hK.1 hP hc0 hsz had hA hS (ci := 4) (fs := [0, 0, 0, 0]) rfl (hz 17).1 rfl (by decide) (by decide +kernel) (by decide) (by decide) dTS_init_47 (fun H hP hS => ?_)
  refine lv_dup hx hb dTS_init_50 rfl ?_
  have hc0 : s.heap.size + 17 = sz + 18 := by omega
  refine zn_call (mc := 609) (ms := 7673) (ly' := va_up zs_ly 0 (0, 0, [3, 8, 13, 14, 0, 0, 0, 1, 1])) (N' := 627) (st' := st) (a := [Value.ref (g.2.1 17)].toArray) (rest := [.ref (g.2.1 17), .ref (g.2.1 0)]) hP had (by decide) hc0 (fun hsz => va_runI (As := []) (rest := [.ref (g.2.1 17), .ref (g.2.1 0)]) ⟨hx, hb, hml, hown, hts⟩ (zn_KN_init l g A sz (va_up zs_ly 0 (0, 0, [3, 8, 13, 14, 0, 0, 0, 1, 1])) st had hA (fun x h _ => va_up_ne _ _ (by omega)) (fun x _ => hz x)) (cwI 0 hts (zs_gN zq_105) rfl rfl rfl (hts _ zq_4) (hts _ zq_103) (hts _ zq_104) rfl ⟨by decide, by decide, by decide +kernel⟩ ⟨by decide, by decide⟩) (zn_pre hK hO hP hsz) rfl rfl hl.1 rfl (lv_room (Nat.le_of_ble_eq_true rfl)) dTS_init_51 ⟨by decide, by decide⟩) hS (fun H locs hP hS => ?_)
  refine zn_putr hx hb hts zi_TS tyTS tyTS_ok nmTS hown hK.1 hP hS (b := 17) (by decide) hlc rfl 4 (by decide) (by decide) (hts _ zq_205) rfl hin rfl rfl rfl dTS_init_54 (fun H locs hP hS => ?_)
  rw [bx_uu] at hP
  have hP : zs_P g (va_up zs_ly 0 (0, 0, [3, 8, 13, 14, 19, 0, 0, 1, 1])) 627 A st H := hP
  have hlc : (va_up zs_ly 0 (0, 0, [3, 8, 13, 14, 19, 0, 0, 1, 1])) 0 = (0, 0, [3, 8, 13, 14, 19, 0, 0, 1, 1]) := va_up_self _ _ _
  refine lv_aload_n hx hb dTS_init_57 rfl (lv_at hl 0 rfl) ?_
  have hc0 : s.heap.size + 626 = sz + 627 := by omega
  refine zn_sized hP had (by decide) hc0 (fun hsz => ?_)
  refine zn_new hx hb hts zi_FR tyFR tyFR_ok hown zq_148 zq_149 zq_6 hK.1 hP hc0 hsz had hA hS (ci := 5) (fs := [0]) rfl (hz 627).1 rfl (by decide) (by decide +kernel) (by decide) (by decide) dTS_init_58 (fun H hP hS => ?_)
  refine lv_dup hx hb dTS_init_61 rfl ?_
  have hc0 : s.heap.size + 627 = sz + 628 := by omega
  refine zn_call (mc := 1) (ms := 201) (ly' := va_up zs_ly 0 (0, 0, [3, 8, 13, 14, 19, 0, 0, 1, 1])) (N' := 629) (st' := st) (a := [Value.ref (g.2.1 627)].toArray) (rest := [.ref (g.2.1 627), .ref (g.2.1 0)]) hP had (by decide) hc0 (fun hsz => va_runIN (As := []) (rest := [.ref (g.2.1 627), .ref (g.2.1 0)]) ⟨hx, hb, hml, hown, hts⟩ (zn_FR_init l g A sz 627 (va_up zs_ly 0 (0, 0, [3, 8, 13, 14, 19, 0, 0, 1, 1])) st had hA ⟨rfl, rfl⟩ (fun x _ => hz x)) ⟨va_cnB 0 hts (zs_gN zq_152) rfl rfl rfl (hK.2 (.methodLinkNest "ThriftyStores" 39 yFR_init "ThriftyStores") (by decide +kernel)) (hts _ zq_6) ⟨by decide, by decide, by decide +kernel⟩ ⟨by decide, by decide⟩, rfl, hts _ zq_151⟩ (zn_pre hK hO hP hsz) rfl rfl hl.1 rfl (lv_room (Nat.le_of_ble_eq_true rfl)) dTS_init_62 ⟨by decide, by decide⟩) hS (fun H locs hP hS => ?_)
  refine zn_putr hx hb hts zi_TS tyTS tyTS_ok nmTS hown hK.1 hP hS (b := 627) (by decide) hlc rfl 5 (by decide) (by decide) (hts _ zq_206) rfl hin rfl rfl rfl dTS_init_65 (fun H locs hP hS => ?_)
  rw [bx_uu] at hP
  have hP : zs_P g (va_up zs_ly 0 (0, 0, [3, 8, 13, 14, 19, 629, 0, 1, 1])) 629 A st H := hP
  have hlc : (va_up zs_ly 0 (0, 0, [3, 8, 13, 14, 19, 629, 0, 1, 1])) 0 = (0, 0, [3, 8, 13, 14, 19, 629, 0, 1, 1]) := va_up_self _ _ _
  refine lv_aload_n hx hb dTS_init_68 rfl (lv_at hl 0 rfl) ?_
  have hc0 : s.heap.size + 628 = sz + 629 := by omega
  refine zn_sized hP had (by decide) hc0 (fun hsz => ?_)
  refine zn_new hx hb hts zi_MA tyMA tyMA_ok hown zq_158 zq_159 zq_7 hK.1 hP hc0 hsz had hA hS (ci := 6) (fs := [0, 0, 0, 0, 1, 1, 1, 1, 0, 1, 1]) rfl (hz 629).1 rfl (by decide) (by decide +kernel) (by decide) (by decide) dTS_init_69 (fun H hP hS => ?_)
  refine lv_dup hx hb dTS_init_72 rfl ?_
  have hc0 : s.heap.size + 629 = sz + 630 := by omega
  refine zn_call (mc := 5) (ms := 5616) (ly' := va_up zs_ly 0 (0, 0, [3, 8, 13, 14, 19, 629, 0, 1, 1])) (N' := 635) (st' := zs_i st 629 6 (-1)) (a := [Value.ref (g.2.1 629)].toArray) (rest := [.ref (g.2.1 629), .ref (g.2.1 0)]) hP had (by decide) hc0 (fun hsz => va_runIN (As := []) (rest := [.ref (g.2.1 629), .ref (g.2.1 0)]) ⟨hx, hb, hml, hown, hts⟩ (zn_MA_init l g A sz 629 (va_up zs_ly 0 (0, 0, [3, 8, 13, 14, 19, 629, 0, 1, 1])) st had hA ⟨rfl, rfl, rfl, rfl, rfl, rfl⟩ (fun x _ => hz x)) ⟨va_cnB 0 hts (zs_gN zq_162) rfl rfl rfl (hK.2 (.methodLinkNest "ThriftyStores" 46 yMA_init "ThriftyStores") (by decide +kernel)) (hts _ zq_7) ⟨by decide, by decide, by decide +kernel⟩ ⟨by decide, by decide⟩, rfl, hts _ zq_161⟩ (zn_pre hK hO hP hsz) rfl rfl hl.1 rfl (lv_room (Nat.le_of_ble_eq_true rfl)) dTS_init_73 ⟨by decide, by decide⟩) hS (fun H locs hP hS => ?_)
  refine zn_putr hx hb hts zi_TS tyTS tyTS_ok nmTS hown hK.1 hP hS (b := 629) (by decide) hlc rfl 6 (by decide) (by decide) (hts _ zq_207) rfl hin rfl rfl rfl dTS_init_76 (fun H locs hP hS => ?_)
  rw [bx_uu] at hP
  have hP : zs_P g (va_up zs_ly 0 (0, 0, [3, 8, 13, 14, 19, 629, 631, 1, 1])) 635 A (zs_i st 629 6 (-1)) H := hP
  have hlc : (va_up zs_ly 0 (0, 0, [3, 8, 13, 14, 19, 629, 631, 1, 1])) 0 = (0, 0, [3, 8, 13, 14, 19, 629, 631, 1, 1]) := va_up_self _ _ _
  refine lv_aload_n hx hb dTS_init_79 rfl (lv_at hl 0 rfl) ?_
  refine lv_iconst (v := 0) hx hb dTS_init_80 (by decide) ?_
  refine zr_put hx hb hts zi_TS tyTS tyTS_ok nmTS hown hK.1 hP hS (by decide) hlc rfl 7 (by decide) rfl (hts _ zq_208) rfl rfl rfl dTS_init_81 (fun H locs hP hS => ?_)
  rw [zn_i0 (st := (zs_i st 629 6 (-1))) (by simp [zs_i, va_up, (hz 0).1])] at hP
  refine lv_aload_n hx hb dTS_init_84 rfl (lv_at hl 0 rfl) ?_
  refine lv_iconst (v := 0) hx hb dTS_init_85 (by decide) ?_
  refine zr_put hx hb hts zi_TS tyTS tyTS_ok nmTS hown hK.1 hP hS (by decide) hlc rfl 8 (by decide) rfl (hts _ zq_209) rfl rfl rfl dTS_init_86 (fun H locs hP hS => ?_)
  rw [zn_i0 (st := (zs_i st 629 6 (-1))) (by simp [zs_i, va_up, (hz 0).1])] at hP
  exact zn_vret hx hb hr hlk (zn_end rfl hP) hS dTS_init_89
