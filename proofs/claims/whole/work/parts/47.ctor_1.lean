/-! Constructors. -/
theorem zn_i0 {st : zs_T} {d k : Nat} {v : Int32} (h : st.1 d k = v) : zs_i st d k v = st := by
  have e : upd (st.1 d) k v = st.1 d := by
    funext j
    by_cases hj : j = k
    · subst hj; rw [pk_us, h]
    · rw [pk_un hj]
  unfold zs_i
  rw [e]
  have e2 : va_up st.1 d (st.1 d) = st.1 := by
    funext x
    by_cases hx : x = d
    · subst hx; rw [va_up_self]
    · rw [va_up_ne _ _ hx]
  rw [e2]
theorem zn_end {g : zs_G} {ly : zs_L} {N d : Nat} {A : Nat → Prop} {st : zs_T} {H : Heap} {v : Nat × Nat × List Nat} (h : ly d = v) (hP : zs_P g (va_up ly d v) N A st H) : zs_P g ly N A st H := zn_ly (fun x _ => by
  by_cases hx : x = d
  · subst hx; rw [va_up_self, h]
  · rw [va_up_ne _ _ hx]) hP
def zn_sh_PR (ly : zs_L) (d : Nat) : Prop := ly d = (0, 1, [d + 3, d + 4, d + 5, d + 6, 1]) ∧ ly (d + 1) = (1, 200, []) ∧ ly (d + 2) = (1, 200, []) ∧ ly (d + 3) = (1, 200, []) ∧ ly (d + 4) = (1, 200, [])
set_option maxHeartbeats 4000000 in
set_option maxRecDepth 100000 in
theorem zn_PR_init (l : Launch) (g : zs_G) (A : Nat → Prop) (sz d : Nat) (ly0 : zs_L) (st : zs_T) (had : ∀ d, g.2.1 d = sz + d) (hA : ∀ q, sz ≤ q → A q) (hs : zn_sh_PR ly0 d) (hz : ∀ x, d ≤ x → st.1 x = (fun _ => 0) ∧ st.2 x = (fun _ => 0)) : Met l yPR_init (.code yPR_init cPR_init 1 none :: zs_tb) (zt_rm 1 12 4 800) (zn_Pc g (va_up ly0 d (0, 1, [0, 0, 0, 0, 1])) (d + 1) sz A [.ref (g.2.1 d)] st) (zn_Q g ly0 (d + 5) A st) 4 800 A := by
  refine zn_met (cc := cPR_init) (maxL := 1) (ret := none) (by decide) rfl (Nat.le_of_ble_eq_true rfl) (fun p e s m below meth c ls hM hin hO hsz hl hP => ?_)
  have hM : zs_M p c cPR_init 1 s m meth [Value.ref (g.2.1 d)].toArray "ThriftyStores$Program" none g := hM
  obtain ⟨hx, hb, hml, hr, hlk, hts, hown, hK⟩ := id hM
  have hl : lv_has ls 1 [(0, .ref (g.2.1 d))] := hl
  have hS : va_S A s.heap s.heap [] := va_S.rf
  have hc0 : s.heap.size + 0 = sz + (d + 1) := hsz
  obtain ⟨s0, s1, s2, s3, s4⟩ := hs
  have hlc : (va_up ly0 d (0, 1, [0, 0, 0, 0, 1])) d = (0, 1, [0, 0, 0, 0, 1]) := va_up_self _ _ _
  refine lv_aload_n hx hb dPR_init_0 rfl (lv_at hl 0 rfl) ?_
  refine W.objInit hx hb hown (hts _ zq_32) (hts _ zq_25) (hts _ zq_26) rfl (by rw [hml]; exact hl.1) rfl dPR_init_1 (Nat.le_of_ble_eq_true rfl) (Nat.le_of_ble_eq_true rfl) ?_
  refine W.eq (g2 := F0 m 4 ls []) rfl ?_
  refine lv_aload_n hx hb dPR_init_4 rfl (lv_at hl 0 rfl) ?_
  refine lv_sipush (v := 200) hx hb dPR_init_5 (by decide) ?_
  refine zn_newi hx hb (hts _ zq_71) hK.1 hP hc0 (by omega) had hA hS (n := 200) ((va_up_ne _ _ (by omega)).trans s1) (hz _ (by omega)).1 (by decide) (by decide) (by decide) (by decide) (by decide) dPR_init_8 (fun H hP hS => ?_)
  have hc0 : s.heap.size + 1 = sz + (d + 2) := by omega
  have hP : zs_P g (va_up ly0 d (0, 1, [0, 0, 0, 0, 1])) (d + 2) A st H := hP
  refine zn_putr hx hb hts zi_PR tyPR tyPR_ok nmPR hown hK.1 hP hS (b := d + 1) (by omega) hlc rfl 0 (by decide) (by simp) (hts _ zq_33) rfl hin rfl rfl rfl dPR_init_10 (fun H locs hP hS => ?_)
  rw [bx_uu] at hP
  have hP : zs_P g (va_up ly0 d (0, 1, [d + 3, 0, 0, 0, 1])) (d + 2) A st H := hP
  have hlc : (va_up ly0 d (0, 1, [d + 3, 0, 0, 0, 1])) d = (0, 1, [d + 3, 0, 0, 0, 1]) := va_up_self _ _ _
  refine lv_aload_n hx hb dPR_init_13 rfl (lv_at hl 0 rfl) ?_
  refine lv_sipush (v := 200) hx hb dPR_init_14 (by decide) ?_
  refine zn_newi hx hb (hts _ zq_71) hK.1 hP hc0 (by omega) had hA hS (n := 200) ((va_up_ne _ _ (by omega)).trans s2) (hz _ (by omega)).1 (by decide) (by decide) (by decide) (by decide) (by decide) dPR_init_17 (fun H hP hS => ?_)
  have hc0 : s.heap.size + 2 = sz + (d + 3) := by omega
  have hP : zs_P g (va_up ly0 d (0, 1, [d + 3, 0, 0, 0, 1])) (d + 3) A st H := hP
  refine zn_putr hx hb hts zi_PR tyPR tyPR_ok nmPR hown hK.1 hP hS (b := d + 2) (by omega) hlc rfl 1 (by decide) (by simp) (hts _ zq_39) rfl hin rfl rfl rfl dPR_init_19 (fun H locs hP hS => ?_)
  rw [bx_uu] at hP
  have hP : zs_P g (va_up ly0 d (0, 1, [d + 3, d + 4, 0, 0, 1])) (d + 3) A st H := hP
  have hlc : (va_up ly0 d (0, 1, [d + 3, d + 4, 0, 0, 1])) d = (0, 1, [d + 3, d + 4, 0, 0, 1]) := va_up_self _ _ _
  refine lv_aload_n hx hb dPR_init_22 rfl (lv_at hl 0 rfl) ?_
  refine lv_sipush (v := 200) hx hb dPR_init_23 (by decide) ?_
  refine zn_newi hx hb (hts _ zq_71) hK.1 hP hc0 (by omega) had hA hS (n := 200) ((va_up_ne _ _ (by omega)).trans s3) (hz _ (by omega)).1 (by decide) (by decide) (by decide) (by decide) (by decide) dPR_init_26 (fun H hP hS => ?_)
  have hc0 : s.heap.size + 3 = sz + (d + 4) := by omega
  have hP : zs_P g (va_up ly0 d (0, 1, [d + 3, d + 4, 0, 0, 1])) (d + 4) A st H := hP
  refine zn_putr hx hb hts zi_PR tyPR tyPR_ok nmPR hown hK.1 hP hS (b := d + 3) (by omega) hlc rfl 2 (by decide) (by simp) (hts _ zq_45) rfl hin rfl rfl rfl dPR_init_28 (fun H locs hP hS => ?_)
  rw [bx_uu] at hP
  have hP : zs_P g (va_up ly0 d (0, 1, [d + 3, d + 4, d + 5, 0, 1])) (d + 4) A st H := hP
  have hlc : (va_up ly0 d (0, 1, [d + 3, d + 4, d + 5, 0, 1])) d = (0, 1, [d + 3, d + 4, d + 5, 0, 1]) := va_up_self _ _ _
  refine lv_aload_n hx hb dPR_init_31 rfl (lv_at hl 0 rfl) ?_
  refine lv_sipush (v := 200) hx hb dPR_init_32 (by decide) ?_
  refine zn_newi hx hb (hts _ zq_71) hK.1 hP hc0 (by omega) had hA hS (n := 200) ((va_up_ne _ _ (by omega)).trans s4) (hz _ (by omega)).1 (by decide) (by decide) (by decide) (by decide) (by decide) dPR_init_35 (fun H hP hS => ?_)
  have hc0 : s.heap.size + 4 = sz + (d + 5) := by omega
  have hP : zs_P g (va_up ly0 d (0, 1, [d + 3, d + 4, d + 5, 0, 1])) (d + 5) A st H := hP
  refine zn_putr hx hb hts zi_PR tyPR tyPR_ok nmPR hown hK.1 hP hS (b := d + 4) (by omega) hlc rfl 3 (by decide) (by simp) (hts _ zq_51) rfl hin rfl rfl rfl dPR_init_37 (fun H locs hP hS => ?_)
  rw [bx_uu] at hP
  have hP : zs_P g (va_up ly0 d (0, 1, [d + 3, d + 4, d + 5, d + 6, 1])) (d + 5) A st H := hP
  have hlc : (va_up ly0 d (0, 1, [d + 3, d + 4, d + 5, d + 6, 1])) d = (0, 1, [d + 3, d + 4, d + 5, d + 6, 1]) := va_up_self _ _ _
  refine lv_aload_n hx hb dPR_init_40 rfl (lv_at hl 0 rfl) ?_
  refine lv_iconst (v := 0) hx hb dPR_init_41 (by decide) ?_
  refine zr_put hx hb hts zi_PR tyPR tyPR_ok nmPR hown hK.1 hP hS (by omega) hlc rfl 4 (by decide) rfl (hts _ zq_54) rfl rfl rfl dPR_init_42 (fun H locs hP hS => ?_)
  rw [zn_i0 (st := st) (by simp [zs_i, va_up, upd, (hz d (Nat.le_refl _)).1])] at hP
  exact zn_vret hx hb hr hlk (zn_end s0 hP) hS dPR_init_45
def zn_sh_AD (ly : zs_L) (d : Nat) : Prop := ly d = (0, 2, [d + 3, d + 4, d + 5, 1, d + 6, 1]) ∧ ly (d + 1) = (3, 64, []) ∧ ly (d + 2) = (3, 800, []) ∧ ly (d + 3) = (1, 200, []) ∧ ly (d + 4) = (1, 16, [])
set_option maxHeartbeats 4000000 in
set_option maxRecDepth 100000 in
theorem zn_AD_init (l : Launch) (g : zs_G) (A : Nat → Prop) (sz d : Nat) (ly0 : zs_L) (st : zs_T) (had : ∀ d, g.2.1 d = sz + d) (hA : ∀ q, sz ≤ q → A q) (hs : zn_sh_AD ly0 d) (hz : ∀ x, d ≤ x → st.1 x = (fun _ => 0) ∧ st.2 x = (fun _ => 0)) : Met l yAD_init (.code yAD_init cAD_init 1 none :: zs_tb) (zt_rm 1 12 4 1080) (zn_Pc g (va_up ly0 d (0, 2, [0, 0, 0, 1, 0, 1])) (d + 1) sz A [.ref (g.2.1 d)] st) (zn_Q g ly0 (d + 5) A st) 4 1080 A := by
  refine zn_met (cc := cAD_init) (maxL := 1) (ret := none) (by decide) rfl (Nat.le_of_ble_eq_true rfl) (fun p e s m below meth c ls hM hin hO hsz hl hP => ?_)
  have hM : zs_M p c cAD_init 1 s m meth [Value.ref (g.2.1 d)].toArray "ThriftyStores$Addresses" none g := hM
  obtain ⟨hx, hb, hml, hr, hlk, hts, hown, hK⟩ := id hM
  have hl : lv_has ls 1 [(0, .ref (g.2.1 d))] := hl
  have hS : va_S A s.heap s.heap [] := va_S.rf
  have hc0 : s.heap.size + 0 = sz + (d + 1) := hsz
  obtain ⟨s0, s1, s2, s3, s4⟩ := hs
  have hlc : (va_up ly0 d (0, 2, [0, 0, 0, 1, 0, 1])) d = (0, 2, [0, 0, 0, 1, 0, 1]) := va_up_self _ _ _
  refine lv_aload_n hx hb dAD_init_0 rfl (lv_at hl 0 rfl) ?_
  refine W.objInit hx hb hown (hts _ zq_77) (hts _ zq_25) (hts _ zq_26) rfl (by rw [hml]; exact hl.1) rfl dAD_init_1 (Nat.le_of_ble_eq_true rfl) (Nat.le_of_ble_eq_true rfl) ?_
  refine W.eq (g2 := F0 m 4 ls []) rfl ?_
  refine lv_aload_n hx hb dAD_init_4 rfl (lv_at hl 0 rfl) ?_
  refine lv_bipush (v := 64) hx hb dAD_init_5 (by decide) ?_
  refine zn_newl hx hb (hts _ zq_100) hK.1 hP hc0 (by omega) had hA hS (n := 64) ((va_up_ne _ _ (by omega)).trans s1) (hz _ (by omega)).2 (by decide) (by decide) (by decide) (by decide) (by decide) dAD_init_7 (fun H hP hS => ?_)
  have hc0 : s.heap.size + 1 = sz + (d + 2) := by omega
  have hP : zs_P g (va_up ly0 d (0, 2, [0, 0, 0, 1, 0, 1])) (d + 2) A st H := hP
  refine zn_putr hx hb hts zi_AD tyAD tyAD_ok nmAD hown hK.1 hP hS (b := d + 1) (by omega) hlc rfl 0 (by decide) (by simp) (hts _ zq_78) rfl hin rfl rfl rfl dAD_init_9 (fun H locs hP hS => ?_)
  rw [bx_uu] at hP
  have hP : zs_P g (va_up ly0 d (0, 2, [d + 3, 0, 0, 1, 0, 1])) (d + 2) A st H := hP
  have hlc : (va_up ly0 d (0, 2, [d + 3, 0, 0, 1, 0, 1])) d = (0, 2, [d + 3, 0, 0, 1, 0, 1]) := va_up_self _ _ _
  refine lv_aload_n hx hb dAD_init_12 rfl (lv_at hl 0 rfl) ?_
  refine lv_sipush (v := 800) hx hb dAD_init_13 (by decide) ?_
  refine zn_newl hx hb (hts _ zq_100) hK.1 hP hc0 (by omega) had hA hS (n := 800) ((va_up_ne _ _ (by omega)).trans s2) (hz _ (by omega)).2 (by decide) (by decide) (by decide) (by decide) (by decide) dAD_init_16 (fun H hP hS => ?_)
  have hc0 : s.heap.size + 2 = sz + (d + 3) := by omega
  have hP : zs_P g (va_up ly0 d (0, 2, [d + 3, 0, 0, 1, 0, 1])) (d + 3) A st H := hP
  refine zn_putr hx hb hts zi_AD tyAD tyAD_ok nmAD hown hK.1 hP hS (b := d + 2) (by omega) hlc rfl 1 (by decide) (by simp) (hts _ zq_79) rfl hin rfl rfl rfl dAD_init_18 (fun H locs hP hS => ?_)
  rw [bx_uu] at hP
  have hP : zs_P g (va_up ly0 d (0, 2, [d + 3, d + 4, 0, 1, 0, 1])) (d + 3) A st H := hP
  have hlc : (va_up ly0 d (0, 2, [d + 3, d + 4, 0, 1, 0, 1])) d = (0, 2, [d + 3, d + 4, 0, 1, 0, 1]) := va_up_self _ _ _
  refine lv_aload_n hx hb dAD_init_21 rfl (lv_at hl 0 rfl) ?_
  refine lv_sipush (v := 200) hx hb dAD_init_22 (by decide) ?_
  refine zn_newi hx hb (hts _ zq_71) hK.1 hP hc0 (by omega) had hA hS (n := 200) ((va_up_ne _ _ (by omega)).trans s3) (hz _ (by omega)).1 (by decide) (by decide) (by decide) (by decide) (by decide) dAD_init_25 (fun H hP hS => ?_)
  have hc0 : s.heap.size + 3 = sz + (d + 4) := by omega
  have hP : zs_P g (va_up ly0 d (0, 2, [d + 3, d + 4, 0, 1, 0, 1])) (d + 4) A st H := hP
  refine zn_putr hx hb hts zi_AD tyAD tyAD_ok nmAD hown hK.1 hP hS (b := d + 3) (by omega) hlc rfl 2 (by decide) (by simp) (hts _ zq_80) rfl hin rfl rfl rfl dAD_init_27 (fun H locs hP hS => ?_)
  rw [bx_uu] at hP
  have hP : zs_P g (va_up ly0 d (0, 2, [d + 3, d + 4, d + 5, 1, 0, 1])) (d + 4) A st H := hP
  have hlc : (va_up ly0 d (0, 2, [d + 3, d + 4, d + 5, 1, 0, 1])) d = (0, 2, [d + 3, d + 4, d + 5, 1, 0, 1]) := va_up_self _ _ _
  refine lv_aload_n hx hb dAD_init_30 rfl (lv_at hl 0 rfl) ?_
  refine lv_iconst (v := 0) hx hb dAD_init_31 (by decide) ?_
  refine zr_put hx hb hts zi_AD tyAD tyAD_ok nmAD hown hK.1 hP hS (by omega) hlc rfl 3 (by decide) rfl (hts _ zq_81) rfl rfl rfl dAD_init_32 (fun H locs hP hS => ?_)
  rw [zn_i0 (st := st) (by simp [zs_i, va_up, upd, (hz d (Nat.le_refl _)).1])] at hP
  refine lv_aload_n hx hb dAD_init_35 rfl (lv_at hl 0 rfl) ?_
  refine lv_bipush (v := 16) hx hb dAD_init_36 (by decide) ?_
  refine zn_newi hx hb (hts _ zq_71) hK.1 hP hc0 (by omega) had hA hS (n := 16) ((va_up_ne _ _ (by omega)).trans s4) (hz _ (by omega)).1 (by decide) (by decide) (by decide) (by decide) (by decide) dAD_init_38 (fun H hP hS => ?_)
  have hc0 : s.heap.size + 4 = sz + (d + 5) := by omega
  have hP : zs_P g (va_up ly0 d (0, 2, [d + 3, d + 4, d + 5, 1, 0, 1])) (d + 5) A st H := hP
  refine zn_putr hx hb hts zi_AD tyAD tyAD_ok nmAD hown hK.1 hP hS (b := d + 4) (by omega) hlc rfl 4 (by decide) (by simp) (hts _ zq_82) rfl hin rfl rfl rfl dAD_init_40 (fun H locs hP hS => ?_)
  rw [bx_uu] at hP
  have hP : zs_P g (va_up ly0 d (0, 2, [d + 3, d + 4, d + 5, 1, d + 6, 1])) (d + 5) A st H := hP
  have hlc : (va_up ly0 d (0, 2, [d + 3, d + 4, d + 5, 1, d + 6, 1])) d = (0, 2, [d + 3, d + 4, d + 5, 1, d + 6, 1]) := va_up_self _ _ _
  refine lv_aload_n hx hb dAD_init_43 rfl (lv_at hl 0 rfl) ?_
  refine lv_iconst (v := 0) hx hb dAD_init_44 (by decide) ?_
  refine zr_put hx hb hts zi_AD tyAD tyAD_ok nmAD hown hK.1 hP hS (by omega) hlc rfl 5 (by decide) rfl (hts _ zq_85) rfl rfl rfl dAD_init_45 (fun H locs hP hS => ?_)
  rw [zn_i0 (st := st) (by simp [zs_i, va_up, upd, (hz d (Nat.le_refl _)).1])] at hP
  exact zn_vret hx hb hr hlk (zn_end s0 hP) hS dAD_init_48
def zn_sh_FA (ly : zs_L) (d : Nat) : Prop := ly d = (0, 3, [d + 3, d + 4, 1]) ∧ ly (d + 1) = (1, 16, []) ∧ ly (d + 2) = (1, 16, [])
set_option maxHeartbeats 4000000 in
set_option maxRecDepth 100000 in
theorem zn_FA_init (l : Launch) (g : zs_G) (A : Nat → Prop) (sz d : Nat) (ly0 : zs_L) (st : zs_T) (had : ∀ d, g.2.1 d = sz + d) (hA : ∀ q, sz ≤ q → A q) (hs : zn_sh_FA ly0 d) (hz : ∀ x, d ≤ x → st.1 x = (fun _ => 0) ∧ st.2 x = (fun _ => 0)) : Met l yFA_init (.code yFA_init cFA_init 1 none :: zs_tb) (zt_rm 1 12 2 32) (zn_Pc g (va_up ly0 d (0, 3, [0, 0, 1])) (d + 1) sz A [.ref (g.2.1 d)] st) (zn_Q g ly0 (d + 3) A st) 2 32 A := by
  refine zn_met (cc := cFA_init) (maxL := 1) (ret := none) (by decide) rfl (Nat.le_of_ble_eq_true rfl) (fun p e s m below meth c ls hM hin hO hsz hl hP => ?_)
  have hM : zs_M p c cFA_init 1 s m meth [Value.ref (g.2.1 d)].toArray "ThriftyStores$Facts" none g := hM
  obtain ⟨hx, hb, hml, hr, hlk, hts, hown, hK⟩ := id hM
  have hl : lv_has ls 1 [(0, .ref (g.2.1 d))] := hl
  have hS : va_S A s.heap s.heap [] := va_S.rf
  have hc0 : s.heap.size + 0 = sz + (d + 1) := hsz
  obtain ⟨s0, s1, s2⟩ := hs
  have hlc : (va_up ly0 d (0, 3, [0, 0, 1])) d = (0, 3, [0, 0, 1]) := va_up_self _ _ _
  refine lv_aload_n hx hb dFA_init_0 rfl (lv_at hl 0 rfl) ?_
  refine W.objInit hx hb hown (hts _ zq_113) (hts _ zq_25) (hts _ zq_26) rfl (by rw [hml]; exact hl.1) rfl dFA_init_1 (Nat.le_of_ble_eq_true rfl) (Nat.le_of_ble_eq_true rfl) ?_
  refine W.eq (g2 := F0 m 4 ls []) rfl ?_
  refine lv_aload_n hx hb dFA_init_4 rfl (lv_at hl 0 rfl) ?_
  refine lv_bipush (v := 16) hx hb dFA_init_5 (by decide) ?_
  refine zn_newi hx hb (hts _ zq_71) hK.1 hP hc0 (by omega) had hA hS (n := 16) ((va_up_ne _ _ (by omega)).trans s1) (hz _ (by omega)).1 (by decide) (by decide) (by decide) (by decide) (by decide) dFA_init_7 (fun H hP hS => ?_)
  have hc0 : s.heap.size + 1 = sz + (d + 2) := by omega
  have hP : zs_P g (va_up ly0 d (0, 3, [0, 0, 1])) (d + 2) A st H := hP
  refine zn_putr hx hb hts zi_FA tyFA tyFA_ok nmFA hown hK.1 hP hS (b := d + 1) (by omega) hlc rfl 0 (by decide) (by simp) (hts _ zq_114) rfl hin rfl rfl rfl dFA_init_9 (fun H locs hP hS => ?_)
  rw [bx_uu] at hP
  have hP : zs_P g (va_up ly0 d (0, 3, [d + 3, 0, 1])) (d + 2) A st H := hP
  have hlc : (va_up ly0 d (0, 3, [d + 3, 0, 1])) d = (0, 3, [d + 3, 0, 1]) := va_up_self _ _ _
  refine lv_aload_n hx hb dFA_init_12 rfl (lv_at hl 0 rfl) ?_
  refine lv_bipush (v := 16) hx hb dFA_init_13 (by decide) ?_
  refine zn_newi hx hb (hts _ zq_71) hK.1 hP hc0 (by omega) had hA hS (n := 16) ((va_up_ne _ _ (by omega)).trans s2) (hz _ (by omega)).1 (by decide) (by decide) (by decide) (by decide) (by decide) dFA_init_15 (fun H hP hS => ?_)
  have hc0 : s.heap.size + 2 = sz + (d + 3) := by omega
  have hP : zs_P g (va_up ly0 d (0, 3, [d + 3, 0, 1])) (d + 3) A st H := hP
  refine zn_putr hx hb hts zi_FA tyFA tyFA_ok nmFA hown hK.1 hP hS (b := d + 2) (by omega) hlc rfl 1 (by decide) (by simp) (hts _ zq_117) rfl hin rfl rfl rfl dFA_init_17 (fun H locs hP hS => ?_)
  rw [bx_uu] at hP
  have hP : zs_P g (va_up ly0 d (0, 3, [d + 3, d + 4, 1])) (d + 3) A st H := hP
  have hlc : (va_up ly0 d (0, 3, [d + 3, d + 4, 1])) d = (0, 3, [d + 3, d + 4, 1]) := va_up_self _ _ _
  refine lv_aload_n hx hb dFA_init_20 rfl (lv_at hl 0 rfl) ?_
  refine lv_iconst (v := 0) hx hb dFA_init_21 (by decide) ?_
  refine zr_put hx hb hts zi_FA tyFA tyFA_ok nmFA hown hK.1 hP hS (by omega) hlc rfl 2 (by decide) rfl (hts _ zq_120) rfl rfl rfl dFA_init_22 (fun H locs hP hS => ?_)
  rw [zn_i0 (st := st) (by simp [zs_i, va_up, upd, (hz d (Nat.le_refl _)).1])] at hP
  exact zn_vret hx hb hr hlk (zn_end s0 hP) hS dFA_init_25
def zn_sh_FR (ly : zs_L) (d : Nat) : Prop := ly d = (0, 5, [d + 3]) ∧ ly (d + 1) = (1, 201, [])
set_option maxHeartbeats 4000000 in
set_option maxRecDepth 100000 in
theorem zn_FR_init (l : Launch) (g : zs_G) (A : Nat → Prop) (sz d : Nat) (ly0 : zs_L) (st : zs_T) (had : ∀ d, g.2.1 d = sz + d) (hA : ∀ q, sz ≤ q → A q) (hs : zn_sh_FR ly0 d) (hz : ∀ x, d ≤ x → st.1 x = (fun _ => 0) ∧ st.2 x = (fun _ => 0)) : Met l yFR_init (.code yFR_init cFR_init 1 none :: zs_tb) (zt_rm 1 12 1 201) (zn_Pc g (va_up ly0 d (0, 5, [0])) (d + 1) sz A [.ref (g.2.1 d)] st) (zn_Q g ly0 (d + 2) A st) 1 201 A := by
  refine zn_met (cc := cFR_init) (maxL := 1) (ret := none) (by decide) rfl (Nat.le_of_ble_eq_true rfl) (fun p e s m below meth c ls hM hin hO hsz hl hP => ?_)
  have hM : zs_M p c cFR_init 1 s m meth [Value.ref (g.2.1 d)].toArray "ThriftyStores$Freedom" none g := hM
  obtain ⟨hx, hb, hml, hr, hlk, hts, hown, hK⟩ := id hM
  have hl : lv_has ls 1 [(0, .ref (g.2.1 d))] := hl
  have hS : va_S A s.heap s.heap [] := va_S.rf
  have hc0 : s.heap.size + 0 = sz + (d + 1) := hsz
  obtain ⟨s0, s1⟩ := hs
  have hlc : (va_up ly0 d (0, 5, [0])) d = (0, 5, [0]) := va_up_self _ _ _
  refine lv_aload_n hx hb dFR_init_0 rfl (lv_at hl 0 rfl) ?_
  refine W.objInit hx hb hown (hts _ zq_153) (hts _ zq_25) (hts _ zq_26) rfl (by rw [hml]; exact hl.1) rfl dFR_init_1 (Nat.le_of_ble_eq_true rfl) (Nat.le_of_ble_eq_true rfl) ?_
  refine W.eq (g2 := F0 m 4 ls []) rfl ?_
  refine lv_aload_n hx hb dFR_init_4 rfl (lv_at hl 0 rfl) ?_
  refine lv_sipush (v := 201) hx hb dFR_init_5 (by decide) ?_
  refine zn_newi hx hb (hts _ zq_71) hK.1 hP hc0 (by omega) had hA hS (n := 201) ((va_up_ne _ _ (by omega)).trans s1) (hz _ (by omega)).1 (by decide) (by decide) (by decide) (by decide) (by decide) dFR_init_8 (fun H hP hS => ?_)
  have hc0 : s.heap.size + 1 = sz + (d + 2) := by omega
  have hP : zs_P g (va_up ly0 d (0, 5, [0])) (d + 2) A st H := hP
  refine zn_putr hx hb hts zi_FR tyFR tyFR_ok nmFR hown hK.1 hP hS (b := d + 1) (by omega) hlc rfl 0 (by decide) (by simp) (hts _ zq_154) rfl hin rfl rfl rfl dFR_init_10 (fun H locs hP hS => ?_)
  rw [bx_uu] at hP
  have hP : zs_P g (va_up ly0 d (0, 5, [d + 3])) (d + 2) A st H := hP
  have hlc : (va_up ly0 d (0, 5, [d + 3])) d = (0, 5, [d + 3]) := va_up_self _ _ _
  exact zn_vret hx hb hr hlk (zn_end s0 hP) hS dFR_init_13
def zn_sh_MA (ly : zs_L) (d : Nat) : Prop := ly d = (0, 6, [d + 3, d + 4, d + 5, d + 6, 1, 1, 1, 1, d + 7, 1, 1]) ∧ ly (d + 1) = (3, 16, []) ∧ ly (d + 2) = (3, 4800, []) ∧ ly (d + 3) = (1, 300, []) ∧ ly (d + 4) = (1, 300, []) ∧ ly (d + 5) = (1, 200, [])
set_option maxHeartbeats 4000000 in
set_option maxRecDepth 100000 in
theorem zn_MA_init (l : Launch) (g : zs_G) (A : Nat → Prop) (sz d : Nat) (ly0 : zs_L) (st : zs_T) (had : ∀ d, g.2.1 d = sz + d) (hA : ∀ q, sz ≤ q → A q) (hs : zn_sh_MA ly0 d) (hz : ∀ x, d ≤ x → st.1 x = (fun _ => 0) ∧ st.2 x = (fun _ => 0)) : Met l yMA_init (.code yMA_init cMA_init 1 none :: zs_tb) (zt_rm 1 12 5 5616) (zn_Pc g (va_up ly0 d (0, 6, [0, 0, 0, 0, 1, 1, 1, 1, 0, 1, 1])) (d + 1) sz A [.ref (g.2.1 d)] st) (zn_Q g ly0 (d + 6) A (zs_i st d 6 (-1))) 5 5616 A := by
  refine zn_met (cc := cMA_init) (maxL := 1) (ret := none) (by decide) rfl (Nat.le_of_ble_eq_true rfl) (fun p e s m below meth c ls hM hin hO hsz hl hP => ?_)
  have hM : zs_M p c cMA_init 1 s m meth [Value.ref (g.2.1 d)].toArray "ThriftyStores$Machine" none g := hM
  obtain ⟨hx, hb, hml, hr, hlk, hts, hown, hK⟩ := id hM
  have hl : lv_has ls 1 [(0, .ref (g.2.1 d))] := hl
  have hS : va_S A s.heap s.heap [] := va_S.rf
  have hc0 : s.heap.size + 0 = sz + (d + 1) := hsz
  obtain ⟨s0, s1, s2, s3, s4, s5⟩ := hs
  have hlc : (va_up ly0 d (0, 6, [0, 0, 0, 0, 1, 1, 1, 1, 0, 1, 1])) d = (0, 6, [0, 0, 0, 0, 1, 1, 1, 1, 0, 1, 1]) := va_up_self _ _ _
  refine lv_aload_n hx hb dMA_init_0 rfl (lv_at hl 0 rfl) ?_
  refine W.objInit hx hb hown (hts _ zq_163) (hts _ zq_25) (hts _ zq_26) rfl (by rw [hml]; exact hl.1) rfl dMA_init_1 (Nat.le_of_ble_eq_true rfl) (Nat.le_of_ble_eq_true rfl) ?_
  refine W.eq (g2 := F0 m 4 ls []) rfl ?_
  refine lv_aload_n hx hb dMA_init_4 rfl (lv_at hl 0 rfl) ?_
  refine lv_bipush (v := 16) hx hb dMA_init_5 (by decide) ?_
  refine zn_newl hx hb (hts _ zq_100) hK.1 hP hc0 (by omega) had hA hS (n := 16) ((va_up_ne _ _ (by omega)).trans s1) (hz _ (by omega)).2 (by decide) (by decide) (by decide) (by decide) (by decide) dMA_init_7 (fun H hP hS => ?_)
  have hc0 : s.heap.size + 1 = sz + (d + 2) := by omega
  have hP : zs_P g (va_up ly0 d (0, 6, [0, 0, 0, 0, 1, 1, 1, 1, 0, 1, 1])) (d + 2) A st H := hP
  refine zn_putr hx hb hts zi_MA tyMA tyMA_ok nmMA hown hK.1 hP hS (b := d + 1) (by omega) hlc rfl 0 (by decide) (by simp) (hts _ zq_164) rfl hin rfl rfl rfl dMA_init_9 (fun H locs hP hS => ?_)
  rw [bx_uu] at hP
  have hP : zs_P g (va_up ly0 d (0, 6, [d + 3, 0, 0, 0, 1, 1, 1, 1, 0, 1, 1])) (d + 2) A st H := hP
  have hlc : (va_up ly0 d (0, 6, [d + 3, 0, 0, 0, 1, 1, 1, 1, 0, 1, 1])) d = (0, 6, [d + 3, 0, 0, 0, 1, 1, 1, 1, 0, 1, 1]) := va_up_self _ _ _
  refine lv_aload_n hx hb dMA_init_12 rfl (lv_at hl 0 rfl) ?_
  refine lv_sipush (v := 4800) hx hb dMA_init_13 (by decide) ?_
  refine zn_newl hx hb (hts _ zq_100) hK.1 hP hc0 (by omega) had hA hS (n := 4800) ((va_up_ne _ _ (by omega)).trans s2) (hz _ (by omega)).2 (by decide) (by decide) (by decide) (by decide) (by decide) dMA_init_16 (fun H hP hS => ?_)
  have hc0 : s.heap.size + 2 = sz + (d + 3) := by omega
  have hP : zs_P g (va_up ly0 d (0, 6, [d + 3, 0, 0, 0, 1, 1, 1, 1, 0, 1, 1])) (d + 3) A st H := hP
  refine zn_putr hx hb hts zi_MA tyMA tyMA_ok nmMA hown hK.1 hP hS (b := d + 2) (by omega) hlc rfl 1 (by decide) (by simp) (hts _ zq_165) rfl hin rfl rfl rfl dMA_init_18 (fun H locs hP hS => ?_)
  rw [bx_uu] at hP
  have hP : zs_P g (va_up ly0 d (0, 6, [d + 3, d + 4, 0, 0, 1, 1, 1, 1, 0, 1, 1])) (d + 3) A st H := hP
  have hlc : (va_up ly0 d (0, 6, [d + 3, d + 4, 0, 0, 1, 1, 1, 1, 0, 1, 1])) d = (0, 6, [d + 3, d + 4, 0, 0, 1, 1, 1, 1, 0, 1, 1]) := va_up_self _ _ _
  refine lv_aload_n hx hb dMA_init_21 rfl (lv_at hl 0 rfl) ?_
  refine lv_sipush (v := 300) hx hb dMA_init_22 (by decide) ?_
  refine zn_newi hx hb (hts _ zq_71) hK.1 hP hc0 (by omega) had hA hS (n := 300) ((va_up_ne _ _ (by omega)).trans s3) (hz _ (by omega)).1 (by decide) (by decide) (by decide) (by decide) (by decide) dMA_init_25 (fun H hP hS => ?_)
  have hc0 : s.heap.size + 3 = sz + (d + 4) := by omega
  have hP : zs_P g (va_up ly0 d (0, 6, [d + 3, d + 4, 0, 0, 1, 1, 1, 1, 0, 1, 1])) (d + 4) A st H := hP
  refine zn_putr hx hb hts zi_MA tyMA tyMA_ok nmMA hown hK.1 hP hS (b := d + 3) (by omega) hlc rfl 2 (by decide) (by simp) (hts _ zq_166) rfl hin rfl rfl rfl dMA_init_27 (fun H locs hP hS => ?_)
  rw [bx_uu] at hP
  have hP : zs_P g (va_up ly0 d (0, 6, [d + 3, d + 4, d + 5, 0, 1, 1, 1, 1, 0, 1, 1])) (d + 4) A st H := hP
  have hlc : (va_up ly0 d (0, 6, [d + 3, d + 4, d + 5, 0, 1, 1, 1, 1, 0, 1, 1])) d = (0, 6, [d + 3, d + 4, d + 5, 0, 1, 1, 1, 1, 0, 1, 1]) := va_up_self _ _ _
  refine lv_aload_n hx hb dMA_init_30 rfl (lv_at hl 0 rfl) ?_
  refine lv_sipush (v := 300) hx hb dMA_init_31 (by decide) ?_
  refine zn_newi hx hb (hts _ zq_71) hK.1 hP hc0 (by omega) had hA hS (n := 300) ((va_up_ne _ _ (by omega)).trans s4) (hz _ (by omega)).1 (by decide) (by decide) (by decide) (by decide) (by decide) dMA_init_34 (fun H hP hS => ?_)
  have hc0 : s.heap.size + 4 = sz + (d + 5) := by omega
  have hP : zs_P g (va_up ly0 d (0, 6, [d + 3, d + 4, d + 5, 0, 1, 1, 1, 1, 0, 1, 1])) (d + 5) A st H := hP
  refine zn_putr hx hb hts zi_MA tyMA tyMA_ok nmMA hown hK.1 hP hS (b := d + 4) (by omega) hlc rfl 3 (by decide) (by simp) (hts _ zq_167) rfl hin rfl rfl rfl dMA_init_36 (fun H locs hP hS => ?_)
  rw [bx_uu] at hP
  have hP : zs_P g (va_up ly0 d (0, 6, [d + 3, d + 4, d + 5, d + 6, 1, 1, 1, 1, 0, 1, 1])) (d + 5) A st H := hP
  have hlc : (va_up ly0 d (0, 6, [d + 3, d + 4, d + 5, d + 6, 1, 1, 1, 1, 0, 1, 1])) d = (0, 6, [d + 3, d + 4, d + 5, d + 6, 1, 1, 1, 1, 0, 1, 1]) := va_up_self _ _ _
  refine lv_aload_n hx hb dMA_init_39 rfl (lv_at hl 0 rfl) ?_
  refine lv_iconst (v := 0) hx hb dMA_init_40 (by decide) ?_
  refine zr_put hx hb hts zi_MA tyMA tyMA_ok nmMA hown hK.1 hP hS (by omega) hlc rfl 4 (by decide) rfl (hts _ zq_168) rfl rfl rfl dMA_init_41 (fun H locs hP hS => ?_)
  rw [zn_i0 (st := st) (by simp [zs_i, va_up, upd, (hz d (Nat.le_refl _)).1])] at hP
  refine lv_aload_n hx hb dMA_init_44 rfl (lv_at hl 0 rfl) ?_
  refine lv_iconst (v := 0) hx hb dMA_init_45 (by decide) ?_
  refine zr_put hx hb hts zi_MA tyMA tyMA_ok nmMA hown hK.1 hP hS (by omega) hlc rfl 5 (by decide) rfl (hts _ zq_169) rfl rfl rfl dMA_init_46 (fun H locs hP hS => ?_)
  rw [zn_i0 (st := st) (by simp [zs_i, va_up, upd, (hz d (Nat.le_refl _)).1])] at hP
  refine lv_aload_n hx hb dMA_init_49 rfl (lv_at hl 0 rfl) ?_
  refine lv_iconst (v := (-1)) hx hb dMA_init_50 (by decide) ?_
  refine zr_put hx hb hts zi_MA tyMA tyMA_ok nmMA hown hK.1 hP hS (by omega) hlc rfl 6 (by decide) rfl (hts _ zq_170) rfl rfl rfl dMA_init_51 (fun H locs hP hS => ?_)
  refine lv_aload_n hx hb dMA_init_54 rfl (lv_at hl 0 rfl) ?_
  refine lv_iconst (v := 0) hx hb dMA_init_55 (by decide) ?_
  refine zr_put hx hb hts zi_MA tyMA tyMA_ok nmMA hown hK.1 hP hS (by omega) hlc rfl 7 (by decide) rfl (hts _ zq_171) rfl rfl rfl dMA_init_56 (fun H locs hP hS => ?_)
  rw [zn_i0 (st := (zs_i st d 6 (-1))) (by simp [zs_i, va_up, upd, (hz d (Nat.le_refl _)).1])] at hP
  refine lv_aload_n hx hb dMA_init_59 rfl (lv_at hl 0 rfl) ?_
  refine lv_sipush (v := 200) hx hb dMA_init_60 (by decide) ?_
  refine zn_newi hx hb (hts _ zq_71) hK.1 hP hc0 (by omega) had hA hS (n := 200) ((va_up_ne _ _ (by omega)).trans s5) ((va_up_ne _ _ (by omega)).trans (hz _ (by omega)).1) (by decide) (by decide) (by decide) (by decide) (by decide) dMA_init_63 (fun H hP hS => ?_)
  have hc0 : s.heap.size + 5 = sz + (d + 6) := by omega
  have hP : zs_P g (va_up ly0 d (0, 6, [d + 3, d + 4, d + 5, d + 6, 1, 1, 1, 1, 0, 1, 1])) (d + 6) A (zs_i st d 6 (-1)) H := hP
  refine zn_putr hx hb hts zi_MA tyMA tyMA_ok nmMA hown hK.1 hP hS (b := d + 5) (by omega) hlc rfl 8 (by decide) (by simp) (hts _ zq_172) rfl hin rfl rfl rfl dMA_init_65 (fun H locs hP hS => ?_)
  rw [bx_uu] at hP
  have hP : zs_P g (va_up ly0 d (0, 6, [d + 3, d + 4, d + 5, d + 6, 1, 1, 1, 1, d + 7, 1, 1])) (d + 6) A (zs_i st d 6 (-1)) H := hP
  have hlc : (va_up ly0 d (0, 6, [d + 3, d + 4, d + 5, d + 6, 1, 1, 1, 1, d + 7, 1, 1])) d = (0, 6, [d + 3, d + 4, d + 5, d + 6, 1, 1, 1, 1, d + 7, 1, 1]) := va_up_self _ _ _
  refine lv_aload_n hx hb dMA_init_68 rfl (lv_at hl 0 rfl) ?_
  refine lv_iconst (v := 0) hx hb dMA_init_69 (by decide) ?_
  refine zr_put hx hb hts zi_MA tyMA tyMA_ok nmMA hown hK.1 hP hS (by omega) hlc rfl 9 (by decide) rfl (hts _ zq_174) rfl rfl rfl dMA_init_70 (fun H locs hP hS => ?_)
  rw [zn_i0 (st := (zs_i st d 6 (-1))) (by simp [zs_i, va_up, upd, (hz d (Nat.le_refl _)).1])] at hP
  refine lv_aload_n hx hb dMA_init_73 rfl (lv_at hl 0 rfl) ?_
  refine lv_iconst (v := 0) hx hb dMA_init_74 (by decide) ?_
  refine zr_put hx hb hts zi_MA tyMA tyMA_ok nmMA hown hK.1 hP hS (by omega) hlc rfl 10 (by decide) rfl (hts _ zq_176) rfl rfl rfl dMA_init_75 (fun H locs hP hS => ?_)
  rw [zn_i0 (st := (zs_i st d 6 (-1))) (by simp [zs_i, va_up, upd, (hz d (Nat.le_refl _)).1])] at hP
  exact zn_vret hx hb hr hlk (zn_end s0 hP) hS dMA_init_78
def zn_sh_MO (ly : zs_L) (d : Nat) : Prop := ly d = (0, 7, [1, d + 3, d + 4, d + 5, d + 6, 1, 1, 1, d + 7, 1, d + 8, d + 9, d + 10, d + 11, d + 12, d + 13, d + 14, d + 15, d + 16, d + 17, d + 18, d + 19, d + 20, d + 21, d + 22, d + 23, 1, d + 24, 1, 1, 1]) ∧ ly (d + 1) = (1, 400, []) ∧ ly (d + 2) = (1, 400, []) ∧ ly (d + 3) = (1, 400, []) ∧ ly (d + 4) = (1, 400, []) ∧ ly (d + 5) = (1, 200, []) ∧ ly (d + 6) = (2, 3200, []) ∧ ly (d + 7) = (2, 40000, []) ∧ ly (d + 8) = (2, 201, []) ∧ ly (d + 9) = (2, 51456, []) ∧ ly (d + 10) = (2, 51456, []) ∧ ly (d + 11) = (2, 3216, []) ∧ ly (d + 12) = (2, 3216, []) ∧ ly (d + 13) = (2, 256, []) ∧ ly (d + 14) = (2, 256, []) ∧ ly (d + 15) = (2, 16, []) ∧ ly (d + 16) = (1, 16, []) ∧ ly (d + 17) = (1, 16, []) ∧ ly (d + 18) = (1, 4800, []) ∧ ly (d + 19) = (1, 4800, []) ∧ ly (d + 20) = (1, 300, []) ∧ ly (d + 21) = (2, 300, []) ∧ ly (d + 22) = (1, 200, [])
set_option maxHeartbeats 4000000 in
set_option maxRecDepth 100000 in
theorem zn_MO_init (l : Launch) (g : zs_G) (A : Nat → Prop) (sz d : Nat) (ly0 : zs_L) (st : zs_T) (had : ∀ d, g.2.1 d = sz + d) (hA : ∀ q, sz ≤ q → A q) (hs : zn_sh_MO ly0 d) (hz : ∀ x, d ≤ x → st.1 x = (fun _ => 0) ∧ st.2 x = (fun _ => 0)) : Met l yMO_init (.code yMO_init cMO_init 1 none :: zs_tb) (zt_rm 1 12 22 165505) (zn_Pc g (va_up ly0 d (0, 7, [1, 0, 0, 0, 0, 1, 1, 1, 0, 1, 0, 0, 0, 0, 0, 0, 0, 0, 0, 0, 0, 0, 0, 0, 0, 0, 1, 0, 1, 1, 1])) (d + 1) sz A [.ref (g.2.1 d)] st) (zn_Q g ly0 (d + 23) A (zs_i st d 30 (-1))) 22 165505 A := by
  refine zn_met (cc := cMO_init) (maxL := 1) (ret := none) (by decide) rfl (Nat.le_of_ble_eq_true rfl) (fun p e s m below meth c ls hM hin hO hsz hl hP => ?_)
  have hM : zs_M p c cMO_init 1 s m meth [Value.ref (g.2.1 d)].toArray "ThriftyStoresModel" none g := hM
  obtain ⟨hx, hb, hml, hr, hlk, hts, hown, hK⟩ := id hM
  have hl : lv_has ls 1 [(0, .ref (g.2.1 d))] := hl
  have hS : va_S A s.heap s.heap [] := va_S.rf
  have hc0 : s.heap.size + 0 = sz + (d + 1) := hsz
  obtain ⟨s0, s1, s2, s3, s4, s5, s6, s7, s8, s9, s10, s11, s12, s13, s14, s15, s16, s17, s18, s19, s20, s21, s22⟩ := hs
  have hlc : (va_up ly0 d (0, 7, [1, 0, 0, 0, 0, 1, 1, 1, 0, 1, 0, 0, 0, 0, 0, 0, 0, 0, 0, 0, 0, 0, 0, 0, 0, 0, 1, 0, 1, 1, 1])) d = (0, 7, [1, 0, 0, 0, 0, 1, 1, 1, 0, 1, 0, 0, 0, 0, 0, 0, 0, 0, 0, 0, 0, 0, 0, 0, 0, 0, 1, 0, 1, 1, 1]) := va_up_self _ _ _
  refine lv_aload_n hx hb dMO_init_0 rfl (lv_at hl 0 rfl) ?_
  refine W.objInit hx hb hown (hts _ zq_730) (hts _ zq_25) (hts _ zq_26) rfl (by rw [hml]; exact hl.1) rfl dMO_init_1 (Nat.le_of_ble_eq_true rfl) (Nat.le_of_ble_eq_true rfl) ?_
  refine W.eq (g2 := F0 m 4 ls []) rfl ?_
  refine lv_aload_n hx hb dMO_init_4 rfl (lv_at hl 0 rfl) ?_
  refine lv_sipush (v := 400) hx hb dMO_init_5 (by decide) ?_
  refine zn_newi hx hb (hts _ zq_71) hK.1 hP hc0 (by omega) had hA hS (n := 400) ((va_up_ne _ _ (by omega)).trans s1) (hz _ (by omega)).1 (by decide) (by decide) (by decide) (by decide) (by decide) dMO_init_8 (fun H hP hS => ?_)
  have hc0 : s.heap.size + 1 = sz + (d + 2) := by omega
  have hP : zs_P g (va_up ly0 d (0, 7, [1, 0, 0, 0, 0, 1, 1, 1, 0, 1, 0, 0, 0, 0, 0, 0, 0, 0, 0, 0, 0, 0, 0, 0, 0, 0, 1, 0, 1, 1, 1])) (d + 2) A st H := hP
  refine zn_putr hx hb hts zi_MO tyMO tyMO_ok nmMO hown hK.1 hP hS (b := d + 1) (by omega) hlc rfl 1 (by decide) (by simp) (hts _ zq_734) rfl hin rfl rfl rfl dMO_init_10 (fun H locs hP hS => ?_)
  rw [bx_uu] at hP
  have hP : zs_P g (va_up ly0 d (0, 7, [1, d + 3, 0, 0, 0, 1, 1, 1, 0, 1, 0, 0, 0, 0, 0, 0, 0, 0, 0, 0, 0, 0, 0, 0, 0, 0, 1, 0, 1, 1, 1])) (d + 2) A st H := hP
  have hlc : (va_up ly0 d (0, 7, [1, d + 3, 0, 0, 0, 1, 1, 1, 0, 1, 0, 0, 0, 0, 0, 0, 0, 0, 0, 0, 0, 0, 0, 0, 0, 0, 1, 0, 1, 1, 1])) d = (0, 7, [1, d + 3, 0, 0, 0, 1, 1, 1, 0, 1, 0, 0, 0, 0, 0, 0, 0, 0, 0, 0, 0, 0, 0, 0, 0, 0, 1, 0, 1, 1, 1]) := va_up_self _ _ _
  refine lv_aload_n hx hb dMO_init_13 rfl (lv_at hl 0 rfl) ?_
  refine lv_sipush (v := 400) hx hb dMO_init_14 (by decide) ?_
  refine zn_newi hx hb (hts _ zq_71) hK.1 hP hc0 (by omega) had hA hS (n := 400) ((va_up_ne _ _ (by omega)).trans s2) (hz _ (by omega)).1 (by decide) (by decide) (by decide) (by decide) (by decide) dMO_init_17 (fun H hP hS => ?_)
  have hc0 : s.heap.size + 2 = sz + (d + 3) := by omega
  have hP : zs_P g (va_up ly0 d (0, 7, [1, d + 3, 0, 0, 0, 1, 1, 1, 0, 1, 0, 0, 0, 0, 0, 0, 0, 0, 0, 0, 0, 0, 0, 0, 0, 0, 1, 0, 1, 1, 1])) (d + 3) A st H := hP
  refine zn_putr hx hb hts zi_MO tyMO tyMO_ok nmMO hown hK.1 hP hS (b := d + 2) (by omega) hlc rfl 2 (by decide) (by simp) (hts _ zq_735) rfl hin rfl rfl rfl dMO_init_19 (fun H locs hP hS => ?_)
  rw [bx_uu] at hP
  have hP : zs_P g (va_up ly0 d (0, 7, [1, d + 3, d + 4, 0, 0, 1, 1, 1, 0, 1, 0, 0, 0, 0, 0, 0, 0, 0, 0, 0, 0, 0, 0, 0, 0, 0, 1, 0, 1, 1, 1])) (d + 3) A st H := hP
  have hlc : (va_up ly0 d (0, 7, [1, d + 3, d + 4, 0, 0, 1, 1, 1, 0, 1, 0, 0, 0, 0, 0, 0, 0, 0, 0, 0, 0, 0, 0, 0, 0, 0, 1, 0, 1, 1, 1])) d = (0, 7, [1, d + 3, d + 4, 0, 0, 1, 1, 1, 0, 1, 0, 0, 0, 0, 0, 0, 0, 0, 0, 0, 0, 0, 0, 0, 0, 0, 1, 0, 1, 1, 1]) := va_up_self _ _ _
  refine lv_aload_n hx hb dMO_init_22 rfl (lv_at hl 0 rfl) ?_
  refine lv_sipush (v := 400) hx hb dMO_init_23 (by decide) ?_
  refine zn_newi hx hb (hts _ zq_71) hK.1 hP hc0 (by omega) had hA hS (n := 400) ((va_up_ne _ _ (by omega)).trans s3) (hz _ (by omega)).1 (by decide) (by decide) (by decide) (by decide) (by decide) dMO_init_26 (fun H hP hS => ?_)
  have hc0 : s.heap.size + 3 = sz + (d + 4) := by omega
  have hP : zs_P g (va_up ly0 d (0, 7, [1, d + 3, d + 4, 0, 0, 1, 1, 1, 0, 1, 0, 0, 0, 0, 0, 0, 0, 0, 0, 0, 0, 0, 0, 0, 0, 0, 1, 0, 1, 1, 1])) (d + 4) A st H := hP
  refine zn_putr hx hb hts zi_MO tyMO tyMO_ok nmMO hown hK.1 hP hS (b := d + 3) (by omega) hlc rfl 3 (by decide) (by simp) (hts _ zq_736) rfl hin rfl rfl rfl dMO_init_28 (fun H locs hP hS => ?_)
  rw [bx_uu] at hP
  have hP : zs_P g (va_up ly0 d (0, 7, [1, d + 3, d + 4, d + 5, 0, 1, 1, 1, 0, 1, 0, 0, 0, 0, 0, 0, 0, 0, 0, 0, 0, 0, 0, 0, 0, 0, 1, 0, 1, 1, 1])) (d + 4) A st H := hP
  have hlc : (va_up ly0 d (0, 7, [1, d + 3, d + 4, d + 5, 0, 1, 1, 1, 0, 1, 0, 0, 0, 0, 0, 0, 0, 0, 0, 0, 0, 0, 0, 0, 0, 0, 1, 0, 1, 1, 1])) d = (0, 7, [1, d + 3, d + 4, d + 5, 0, 1, 1, 1, 0, 1, 0, 0, 0, 0, 0, 0, 0, 0, 0, 0, 0, 0, 0, 0, 0, 0, 1, 0, 1, 1, 1]) := va_up_self _ _ _
  refine lv_aload_n hx hb dMO_init_31 rfl (lv_at hl 0 rfl) ?_
  refine lv_sipush (v := 400) hx hb dMO_init_32 (by decide) ?_
  refine zn_newi hx hb (hts _ zq_71) hK.1 hP hc0 (by omega) had hA hS (n := 400) ((va_up_ne _ _ (by omega)).trans s4) (hz _ (by omega)).1 (by decide) (by decide) (by decide) (by decide) (by decide) dMO_init_35 (fun H hP hS => ?_)
  have hc0 : s.heap.size + 4 = sz + (d + 5) := by omega
  have hP : zs_P g (va_up ly0 d (0, 7, [1, d + 3, d + 4, d + 5, 0, 1, 1, 1, 0, 1, 0, 0, 0, 0, 0, 0, 0, 0, 0, 0, 0, 0, 0, 0, 0, 0, 1, 0, 1, 1, 1])) (d + 5) A st H := hP
  refine zn_putr hx hb hts zi_MO tyMO tyMO_ok nmMO hown hK.1 hP hS (b := d + 4) (by omega) hlc rfl 4 (by decide) (by simp) (hts _ zq_737) rfl hin rfl rfl rfl dMO_init_37 (fun H locs hP hS => ?_)
  rw [bx_uu] at hP
  have hP : zs_P g (va_up ly0 d (0, 7, [1, d + 3, d + 4, d + 5, d + 6, 1, 1, 1, 0, 1, 0, 0, 0, 0, 0, 0, 0, 0, 0, 0, 0, 0, 0, 0, 0, 0, 1, 0, 1, 1, 1])) (d + 5) A st H := hP
  have hlc : (va_up ly0 d (0, 7, [1, d + 3, d + 4, d + 5, d + 6, 1, 1, 1, 0, 1, 0, 0, 0, 0, 0, 0, 0, 0, 0, 0, 0, 0, 0, 0, 0, 0, 1, 0, 1, 1, 1])) d = (0, 7, [1, d + 3, d + 4, d + 5, d + 6, 1, 1, 1, 0, 1, 0, 0, 0, 0, 0, 0, 0, 0, 0, 0, 0, 0, 0, 0, 0, 0, 1, 0, 1, 1, 1]) := va_up_self _ _ _
  refine lv_aload_n hx hb dMO_init_40 rfl (lv_at hl 0 rfl) ?_
  refine lv_sipush (v := 200) hx hb dMO_init_41 (by decide) ?_
  refine zn_newi hx hb (hts _ zq_71) hK.1 hP hc0 (by omega) had hA hS (n := 200) ((va_up_ne _ _ (by omega)).trans s5) (hz _ (by omega)).1 (by decide) (by decide) (by decide) (by decide) (by decide) dMO_init_44 (fun H hP hS => ?_)
  have hc0 : s.heap.size + 5 = sz + (d + 6) := by omega
  have hP : zs_P g (va_up ly0 d (0, 7, [1, d + 3, d + 4, d + 5, d + 6, 1, 1, 1, 0, 1, 0, 0, 0, 0, 0, 0, 0, 0, 0, 0, 0, 0, 0, 0, 0, 0, 1, 0, 1, 1, 1])) (d + 6) A st H := hP
  refine zn_putr hx hb hts zi_MO tyMO tyMO_ok nmMO hown hK.1 hP hS (b := d + 5) (by omega) hlc rfl 8 (by decide) (by simp) (hts _ zq_741) rfl hin rfl rfl rfl dMO_init_46 (fun H locs hP hS => ?_)
  rw [bx_uu] at hP
  have hP : zs_P g (va_up ly0 d (0, 7, [1, d + 3, d + 4, d + 5, d + 6, 1, 1, 1, d + 7, 1, 0, 0, 0, 0, 0, 0, 0, 0, 0, 0, 0, 0, 0, 0, 0, 0, 1, 0, 1, 1, 1])) (d + 6) A st H := hP
  have hlc : (va_up ly0 d (0, 7, [1, d + 3, d + 4, d + 5, d + 6, 1, 1, 1, d + 7, 1, 0, 0, 0, 0, 0, 0, 0, 0, 0, 0, 0, 0, 0, 0, 0, 0, 1, 0, 1, 1, 1])) d = (0, 7, [1, d + 3, d + 4, d + 5, d + 6, 1, 1, 1, d + 7, 1, 0, 0, 0, 0, 0, 0, 0, 0, 0, 0, 0, 0, 0, 0, 0, 0, 1, 0, 1, 1, 1]) := va_up_self _ _ _
  refine lv_aload_n hx hb dMO_init_49 rfl (lv_at hl 0 rfl) ?_
  refine lv_sipush (v := 3200) hx hb dMO_init_50 (by decide) ?_
  refine zn_newz hx hb (hts _ zq_130) hK.1 hP hc0 (by omega) had hA hS (n := 3200) ((va_up_ne _ _ (by omega)).trans s6) (hz _ (by omega)).1 (by decide) (by decide) (by decide) (by decide) (by decide) dMO_init_53 (fun H hP hS => ?_)
  have hc0 : s.heap.size + 6 = sz + (d + 7) := by omega
  have hP : zs_P g (va_up ly0 d (0, 7, [1, d + 3, d + 4, d + 5, d + 6, 1, 1, 1, d + 7, 1, 0, 0, 0, 0, 0, 0, 0, 0, 0, 0, 0, 0, 0, 0, 0, 0, 1, 0, 1, 1, 1])) (d + 7) A st H := hP
  refine zn_putr hx hb hts zi_MO tyMO tyMO_ok nmMO hown hK.1 hP hS (b := d + 6) (by omega) hlc rfl 10 (by decide) (by simp) (hts _ zq_743) rfl hin rfl rfl rfl dMO_init_55 (fun H locs hP hS => ?_)
  rw [bx_uu] at hP
  have hP : zs_P g (va_up ly0 d (0, 7, [1, d + 3, d + 4, d + 5, d + 6, 1, 1, 1, d + 7, 1, d + 8, 0, 0, 0, 0, 0, 0, 0, 0, 0, 0, 0, 0, 0, 0, 0, 1, 0, 1, 1, 1])) (d + 7) A st H := hP
  have hlc : (va_up ly0 d (0, 7, [1, d + 3, d + 4, d + 5, d + 6, 1, 1, 1, d + 7, 1, d + 8, 0, 0, 0, 0, 0, 0, 0, 0, 0, 0, 0, 0, 0, 0, 0, 1, 0, 1, 1, 1])) d = (0, 7, [1, d + 3, d + 4, d + 5, d + 6, 1, 1, 1, d + 7, 1, d + 8, 0, 0, 0, 0, 0, 0, 0, 0, 0, 0, 0, 0, 0, 0, 0, 1, 0, 1, 1, 1]) := va_up_self _ _ _
  refine lv_aload_n hx hb dMO_init_58 rfl (lv_at hl 0 rfl) ?_
  refine lv_ldc hx hb hown (hts _ zq_731) dMO_init_59 ?_
  refine zn_newz hx hb (hts _ zq_130) hK.1 hP hc0 (by omega) had hA hS (n := 40000) ((va_up_ne _ _ (by omega)).trans s7) (hz _ (by omega)).1 (by decide) (by decide) (by decide) (by decide) (by decide) dMO_init_61 (fun H hP hS => ?_)
  have hc0 : s.heap.size + 7 = sz + (d + 8) := by omega
  have hP : zs_P g (va_up ly0 d (0, 7, [1, d + 3, d + 4, d + 5, d + 6, 1, 1, 1, d + 7, 1, d + 8, 0, 0, 0, 0, 0, 0, 0, 0, 0, 0, 0, 0, 0, 0, 0, 1, 0, 1, 1, 1])) (d + 8) A st H := hP
  refine zn_putr hx hb hts zi_MO tyMO tyMO_ok nmMO hown hK.1 hP hS (b := d + 7) (by omega) hlc rfl 11 (by decide) (by simp) (hts _ zq_744) rfl hin rfl rfl rfl dMO_init_63 (fun H locs hP hS => ?_)
  rw [bx_uu] at hP
  have hP : zs_P g (va_up ly0 d (0, 7, [1, d + 3, d + 4, d + 5, d + 6, 1, 1, 1, d + 7, 1, d + 8, d + 9, 0, 0, 0, 0, 0, 0, 0, 0, 0, 0, 0, 0, 0, 0, 1, 0, 1, 1, 1])) (d + 8) A st H := hP
  have hlc : (va_up ly0 d (0, 7, [1, d + 3, d + 4, d + 5, d + 6, 1, 1, 1, d + 7, 1, d + 8, d + 9, 0, 0, 0, 0, 0, 0, 0, 0, 0, 0, 0, 0, 0, 0, 1, 0, 1, 1, 1])) d = (0, 7, [1, d + 3, d + 4, d + 5, d + 6, 1, 1, 1, d + 7, 1, d + 8, d + 9, 0, 0, 0, 0, 0, 0, 0, 0, 0, 0, 0, 0, 0, 0, 1, 0, 1, 1, 1]) := va_up_self _ _ _
  refine lv_aload_n hx hb dMO_init_66 rfl (lv_at hl 0 rfl) ?_
  refine lv_sipush (v := 201) hx hb dMO_init_67 (by decide) ?_
  refine zn_newz hx hb (hts _ zq_130) hK.1 hP hc0 (by omega) had hA hS (n := 201) ((va_up_ne _ _ (by omega)).trans s8) (hz _ (by omega)).1 (by decide) (by decide) (by decide) (by decide) (by decide) dMO_init_70 (fun H hP hS => ?_)
  have hc0 : s.heap.size + 8 = sz + (d + 9) := by omega
  have hP : zs_P g (va_up ly0 d (0, 7, [1, d + 3, d + 4, d + 5, d + 6, 1, 1, 1, d + 7, 1, d + 8, d + 9, 0, 0, 0, 0, 0, 0, 0, 0, 0, 0, 0, 0, 0, 0, 1, 0, 1, 1, 1])) (d + 9) A st H := hP
  refine zn_putr hx hb hts zi_MO tyMO tyMO_ok nmMO hown hK.1 hP hS (b := d + 8) (by omega) hlc rfl 12 (by decide) (by simp) (hts _ zq_745) rfl hin rfl rfl rfl dMO_init_72 (fun H locs hP hS => ?_)
  rw [bx_uu] at hP
  have hP : zs_P g (va_up ly0 d (0, 7, [1, d + 3, d + 4, d + 5, d + 6, 1, 1, 1, d + 7, 1, d + 8, d + 9, d + 10, 0, 0, 0, 0, 0, 0, 0, 0, 0, 0, 0, 0, 0, 1, 0, 1, 1, 1])) (d + 9) A st H := hP
  have hlc : (va_up ly0 d (0, 7, [1, d + 3, d + 4, d + 5, d + 6, 1, 1, 1, d + 7, 1, d + 8, d + 9, d + 10, 0, 0, 0, 0, 0, 0, 0, 0, 0, 0, 0, 0, 0, 1, 0, 1, 1, 1])) d = (0, 7, [1, d + 3, d + 4, d + 5, d + 6, 1, 1, 1, d + 7, 1, d + 8, d + 9, d + 10, 0, 0, 0, 0, 0, 0, 0, 0, 0, 0, 0, 0, 0, 1, 0, 1, 1, 1]) := va_up_self _ _ _
  refine lv_aload_n hx hb dMO_init_75 rfl (lv_at hl 0 rfl) ?_
  refine lv_ldc hx hb hown (hts _ zq_732) dMO_init_76 ?_
  refine zn_newz hx hb (hts _ zq_130) hK.1 hP hc0 (by omega) had hA hS (n := 51456) ((va_up_ne _ _ (by omega)).trans s9) (hz _ (by omega)).1 (by decide) (by decide) (by decide) (by decide) (by decide) dMO_init_78 (fun H hP hS => ?_)
  have hc0 : s.heap.size + 9 = sz + (d + 10) := by omega
  have hP : zs_P g (va_up ly0 d (0, 7, [1, d + 3, d + 4, d + 5, d + 6, 1, 1, 1, d + 7, 1, d + 8, d + 9, d + 10, 0, 0, 0, 0, 0, 0, 0, 0, 0, 0, 0, 0, 0, 1, 0, 1, 1, 1])) (d + 10) A st H := hP
  refine zn_putr hx hb hts zi_MO tyMO tyMO_ok nmMO hown hK.1 hP hS (b := d + 9) (by omega) hlc rfl 13 (by decide) (by simp) (hts _ zq_746) rfl hin rfl rfl rfl dMO_init_80 (fun H locs hP hS => ?_)
  rw [bx_uu] at hP
  have hP : zs_P g (va_up ly0 d (0, 7, [1, d + 3, d + 4, d + 5, d + 6, 1, 1, 1, d + 7, 1, d + 8, d + 9, d + 10, d + 11, 0, 0, 0, 0, 0, 0, 0, 0, 0, 0, 0, 0, 1, 0, 1, 1, 1])) (d + 10) A st H := hP
  have hlc : (va_up ly0 d (0, 7, [1, d + 3, d + 4, d + 5, d + 6, 1, 1, 1, d + 7, 1, d + 8, d + 9, d + 10, d + 11, 0, 0, 0, 0, 0, 0, 0, 0, 0, 0, 0, 0, 1, 0, 1, 1, 1])) d = (0, 7, [1, d + 3, d + 4, d + 5, d + 6, 1, 1, 1, d + 7, 1, d + 8, d + 9, d + 10, d + 11, 0, 0, 0, 0, 0, 0, 0, 0, 0, 0, 0, 0, 1, 0, 1, 1, 1]) := va_up_self _ _ _
  refine lv_aload_n hx hb dMO_init_83 rfl (lv_at hl 0 rfl) ?_
  refine lv_ldc hx hb hown (hts _ zq_732) dMO_init_84 ?_
  refine zn_newz hx hb (hts _ zq_130) hK.1 hP hc0 (by omega) had hA hS (n := 51456) ((va_up_ne _ _ (by omega)).trans s10) (hz _ (by omega)).1 (by decide) (by decide) (by decide) (by decide) (by decide) dMO_init_86 (fun H hP hS => ?_)
  have hc0 : s.heap.size + 10 = sz + (d + 11) := by omega
  have hP : zs_P g (va_up ly0 d (0, 7, [1, d + 3, d + 4, d + 5, d + 6, 1, 1, 1, d + 7, 1, d + 8, d + 9, d + 10, d + 11, 0, 0, 0, 0, 0, 0, 0, 0, 0, 0, 0, 0, 1, 0, 1, 1, 1])) (d + 11) A st H := hP
  refine zn_putr hx hb hts zi_MO tyMO tyMO_ok nmMO hown hK.1 hP hS (b := d + 10) (by omega) hlc rfl 14 (by decide) (by simp) (hts _ zq_747) rfl hin rfl rfl rfl dMO_init_88 (fun H locs hP hS => ?_)
  rw [bx_uu] at hP
  have hP : zs_P g (va_up ly0 d (0, 7, [1, d + 3, d + 4, d + 5, d + 6, 1, 1, 1, d + 7, 1, d + 8, d + 9, d + 10, d + 11, d + 12, 0, 0, 0, 0, 0, 0, 0, 0, 0, 0, 0, 1, 0, 1, 1, 1])) (d + 11) A st H := hP
  have hlc : (va_up ly0 d (0, 7, [1, d + 3, d + 4, d + 5, d + 6, 1, 1, 1, d + 7, 1, d + 8, d + 9, d + 10, d + 11, d + 12, 0, 0, 0, 0, 0, 0, 0, 0, 0, 0, 0, 1, 0, 1, 1, 1])) d = (0, 7, [1, d + 3, d + 4, d + 5, d + 6, 1, 1, 1, d + 7, 1, d + 8, d + 9, d + 10, d + 11, d + 12, 0, 0, 0, 0, 0, 0, 0, 0, 0, 0, 0, 1, 0, 1, 1, 1]) := va_up_self _ _ _
  refine lv_aload_n hx hb dMO_init_91 rfl (lv_at hl 0 rfl) ?_
  refine lv_sipush (v := 3216) hx hb dMO_init_92 (by decide) ?_
  refine zn_newz hx hb (hts _ zq_130) hK.1 hP hc0 (by omega) had hA hS (n := 3216) ((va_up_ne _ _ (by omega)).trans s11) (hz _ (by omega)).1 (by decide) (by decide) (by decide) (by decide) (by decide) dMO_init_95 (fun H hP hS => ?_)
  have hc0 : s.heap.size + 11 = sz + (d + 12) := by omega
  have hP : zs_P g (va_up ly0 d (0, 7, [1, d + 3, d + 4, d + 5, d + 6, 1, 1, 1, d + 7, 1, d + 8, d + 9, d + 10, d + 11, d + 12, 0, 0, 0, 0, 0, 0, 0, 0, 0, 0, 0, 1, 0, 1, 1, 1])) (d + 12) A st H := hP
  refine zn_putr hx hb hts zi_MO tyMO tyMO_ok nmMO hown hK.1 hP hS (b := d + 11) (by omega) hlc rfl 15 (by decide) (by simp) (hts _ zq_748) rfl hin rfl rfl rfl dMO_init_97 (fun H locs hP hS => ?_)
  rw [bx_uu] at hP
  have hP : zs_P g (va_up ly0 d (0, 7, [1, d + 3, d + 4, d + 5, d + 6, 1, 1, 1, d + 7, 1, d + 8, d + 9, d + 10, d + 11, d + 12, d + 13, 0, 0, 0, 0, 0, 0, 0, 0, 0, 0, 1, 0, 1, 1, 1])) (d + 12) A st H := hP
  have hlc : (va_up ly0 d (0, 7, [1, d + 3, d + 4, d + 5, d + 6, 1, 1, 1, d + 7, 1, d + 8, d + 9, d + 10, d + 11, d + 12, d + 13, 0, 0, 0, 0, 0, 0, 0, 0, 0, 0, 1, 0, 1, 1, 1])) d = (0, 7, [1, d + 3, d + 4, d + 5, d + 6, 1, 1, 1, d + 7, 1, d + 8, d + 9, d + 10, d + 11, d + 12, d + 13, 0, 0, 0, 0, 0, 0, 0, 0, 0, 0, 1, 0, 1, 1, 1]) := va_up_self _ _ _
  refine lv_aload_n hx hb dMO_init_100 rfl (lv_at hl 0 rfl) ?_
  refine lv_sipush (v := 3216) hx hb dMO_init_101 (by decide) ?_
  refine zn_newz hx hb (hts _ zq_130) hK.1 hP hc0 (by omega) had hA hS (n := 3216) ((va_up_ne _ _ (by omega)).trans s12) (hz _ (by omega)).1 (by decide) (by decide) (by decide) (by decide) (by decide) dMO_init_104 (fun H hP hS => ?_)
  have hc0 : s.heap.size + 12 = sz + (d + 13) := by omega
  have hP : zs_P g (va_up ly0 d (0, 7, [1, d + 3, d + 4, d + 5, d + 6, 1, 1, 1, d + 7, 1, d + 8, d + 9, d + 10, d + 11, d + 12, d + 13, 0, 0, 0, 0, 0, 0, 0, 0, 0, 0, 1, 0, 1, 1, 1])) (d + 13) A st H := hP
  refine zn_putr hx hb hts zi_MO tyMO tyMO_ok nmMO hown hK.1 hP hS (b := d + 12) (by omega) hlc rfl 16 (by decide) (by simp) (hts _ zq_749) rfl hin rfl rfl rfl dMO_init_106 (fun H locs hP hS => ?_)
  rw [bx_uu] at hP
  have hP : zs_P g (va_up ly0 d (0, 7, [1, d + 3, d + 4, d + 5, d + 6, 1, 1, 1, d + 7, 1, d + 8, d + 9, d + 10, d + 11, d + 12, d + 13, d + 14, 0, 0, 0, 0, 0, 0, 0, 0, 0, 1, 0, 1, 1, 1])) (d + 13) A st H := hP
  have hlc : (va_up ly0 d (0, 7, [1, d + 3, d + 4, d + 5, d + 6, 1, 1, 1, d + 7, 1, d + 8, d + 9, d + 10, d + 11, d + 12, d + 13, d + 14, 0, 0, 0, 0, 0, 0, 0, 0, 0, 1, 0, 1, 1, 1])) d = (0, 7, [1, d + 3, d + 4, d + 5, d + 6, 1, 1, 1, d + 7, 1, d + 8, d + 9, d + 10, d + 11, d + 12, d + 13, d + 14, 0, 0, 0, 0, 0, 0, 0, 0, 0, 1, 0, 1, 1, 1]) := va_up_self _ _ _
  refine lv_aload_n hx hb dMO_init_109 rfl (lv_at hl 0 rfl) ?_
  refine lv_sipush (v := 256) hx hb dMO_init_110 (by decide) ?_
  refine zn_newz hx hb (hts _ zq_130) hK.1 hP hc0 (by omega) had hA hS (n := 256) ((va_up_ne _ _ (by omega)).trans s13) (hz _ (by omega)).1 (by decide) (by decide) (by decide) (by decide) (by decide) dMO_init_113 (fun H hP hS => ?_)
  have hc0 : s.heap.size + 13 = sz + (d + 14) := by omega
  have hP : zs_P g (va_up ly0 d (0, 7, [1, d + 3, d + 4, d + 5, d + 6, 1, 1, 1, d + 7, 1, d + 8, d + 9, d + 10, d + 11, d + 12, d + 13, d + 14, 0, 0, 0, 0, 0, 0, 0, 0, 0, 1, 0, 1, 1, 1])) (d + 14) A st H := hP
  refine zn_putr hx hb hts zi_MO tyMO tyMO_ok nmMO hown hK.1 hP hS (b := d + 13) (by omega) hlc rfl 17 (by decide) (by simp) (hts _ zq_750) rfl hin rfl rfl rfl dMO_init_115 (fun H locs hP hS => ?_)
  rw [bx_uu] at hP
  have hP : zs_P g (va_up ly0 d (0, 7, [1, d + 3, d + 4, d + 5, d + 6, 1, 1, 1, d + 7, 1, d + 8, d + 9, d + 10, d + 11, d + 12, d + 13, d + 14, d + 15, 0, 0, 0, 0, 0, 0, 0, 0, 1, 0, 1, 1, 1])) (d + 14) A st H := hP
  have hlc : (va_up ly0 d (0, 7, [1, d + 3, d + 4, d + 5, d + 6, 1, 1, 1, d + 7, 1, d + 8, d + 9, d + 10, d + 11, d + 12, d + 13, d + 14, d + 15, 0, 0, 0, 0, 0, 0, 0, 0, 1, 0, 1, 1, 1])) d = (0, 7, [1, d + 3, d + 4, d + 5, d + 6, 1, 1, 1, d + 7, 1, d + 8, d + 9, d + 10, d + 11, d + 12, d + 13, d + 14, d + 15, 0, 0, 0, 0, 0, 0, 0, 0, 1, 0, 1, 1, 1]) := va_up_self _ _ _
  refine lv_aload_n hx hb dMO_init_118 rfl (lv_at hl 0 rfl) ?_
  refine lv_sipush (v := 256) hx hb dMO_init_119 (by decide) ?_
  refine zn_newz hx hb (hts _ zq_130) hK.1 hP hc0 (by omega) had hA hS (n := 256) ((va_up_ne _ _ (by omega)).trans s14) (hz _ (by omega)).1 (by decide) (by decide) (by decide) (by decide) (by decide) dMO_init_122 (fun H hP hS => ?_)
  have hc0 : s.heap.size + 14 = sz + (d + 15) := by omega
  have hP : zs_P g (va_up ly0 d (0, 7, [1, d + 3, d + 4, d + 5, d + 6, 1, 1, 1, d + 7, 1, d + 8, d + 9, d + 10, d + 11, d + 12, d + 13, d + 14, d + 15, 0, 0, 0, 0, 0, 0, 0, 0, 1, 0, 1, 1, 1])) (d + 15) A st H := hP
  refine zn_putr hx hb hts zi_MO tyMO tyMO_ok nmMO hown hK.1 hP hS (b := d + 14) (by omega) hlc rfl 18 (by decide) (by simp) (hts _ zq_751) rfl hin rfl rfl rfl dMO_init_124 (fun H locs hP hS => ?_)
  rw [bx_uu] at hP
  have hP : zs_P g (va_up ly0 d (0, 7, [1, d + 3, d + 4, d + 5, d + 6, 1, 1, 1, d + 7, 1, d + 8, d + 9, d + 10, d + 11, d + 12, d + 13, d + 14, d + 15, d + 16, 0, 0, 0, 0, 0, 0, 0, 1, 0, 1, 1, 1])) (d + 15) A st H := hP
  have hlc : (va_up ly0 d (0, 7, [1, d + 3, d + 4, d + 5, d + 6, 1, 1, 1, d + 7, 1, d + 8, d + 9, d + 10, d + 11, d + 12, d + 13, d + 14, d + 15, d + 16, 0, 0, 0, 0, 0, 0, 0, 1, 0, 1, 1, 1])) d = (0, 7, [1, d + 3, d + 4, d + 5, d + 6, 1, 1, 1, d + 7, 1, d + 8, d + 9, d + 10, d + 11, d + 12, d + 13, d + 14, d + 15, d + 16, 0, 0, 0, 0, 0, 0, 0, 1, 0, 1, 1, 1]) := va_up_self _ _ _
  refine lv_aload_n hx hb dMO_init_127 rfl (lv_at hl 0 rfl) ?_
  refine lv_bipush (v := 16) hx hb dMO_init_128 (by decide) ?_
  refine zn_newz hx hb (hts _ zq_130) hK.1 hP hc0 (by omega) had hA hS (n := 16) ((va_up_ne _ _ (by omega)).trans s15) (hz _ (by omega)).1 (by decide) (by decide) (by decide) (by decide) (by decide) dMO_init_130 (fun H hP hS => ?_)
  have hc0 : s.heap.size + 15 = sz + (d + 16) := by omega
  have hP : zs_P g (va_up ly0 d (0, 7, [1, d + 3, d + 4, d + 5, d + 6, 1, 1, 1, d + 7, 1, d + 8, d + 9, d + 10, d + 11, d + 12, d + 13, d + 14, d + 15, d + 16, 0, 0, 0, 0, 0, 0, 0, 1, 0, 1, 1, 1])) (d + 16) A st H := hP
  refine zn_putr hx hb hts zi_MO tyMO tyMO_ok nmMO hown hK.1 hP hS (b := d + 15) (by omega) hlc rfl 19 (by decide) (by simp) (hts _ zq_752) rfl hin rfl rfl rfl dMO_init_132 (fun H locs hP hS => ?_)
  rw [bx_uu] at hP
  have hP : zs_P g (va_up ly0 d (0, 7, [1, d + 3, d + 4, d + 5, d + 6, 1, 1, 1, d + 7, 1, d + 8, d + 9, d + 10, d + 11, d + 12, d + 13, d + 14, d + 15, d + 16, d + 17, 0, 0, 0, 0, 0, 0, 1, 0, 1, 1, 1])) (d + 16) A st H := hP
  have hlc : (va_up ly0 d (0, 7, [1, d + 3, d + 4, d + 5, d + 6, 1, 1, 1, d + 7, 1, d + 8, d + 9, d + 10, d + 11, d + 12, d + 13, d + 14, d + 15, d + 16, d + 17, 0, 0, 0, 0, 0, 0, 1, 0, 1, 1, 1])) d = (0, 7, [1, d + 3, d + 4, d + 5, d + 6, 1, 1, 1, d + 7, 1, d + 8, d + 9, d + 10, d + 11, d + 12, d + 13, d + 14, d + 15, d + 16, d + 17, 0, 0, 0, 0, 0, 0, 1, 0, 1, 1, 1]) := va_up_self _ _ _
  refine lv_aload_n hx hb dMO_init_135 rfl (lv_at hl 0 rfl) ?_
  refine lv_bipush (v := 16) hx hb dMO_init_136 (by decide) ?_
  refine zn_newi hx hb (hts _ zq_71) hK.1 hP hc0 (by omega) had hA hS (n := 16) ((va_up_ne _ _ (by omega)).trans s16) (hz _ (by omega)).1 (by decide) (by decide) (by decide) (by decide) (by decide) dMO_init_138 (fun H hP hS => ?_)
  have hc0 : s.heap.size + 16 = sz + (d + 17) := by omega
  have hP : zs_P g (va_up ly0 d (0, 7, [1, d + 3, d + 4, d + 5, d + 6, 1, 1, 1, d + 7, 1, d + 8, d + 9, d + 10, d + 11, d + 12, d + 13, d + 14, d + 15, d + 16, d + 17, 0, 0, 0, 0, 0, 0, 1, 0, 1, 1, 1])) (d + 17) A st H := hP
  refine zn_putr hx hb hts zi_MO tyMO tyMO_ok nmMO hown hK.1 hP hS (b := d + 16) (by omega) hlc rfl 20 (by decide) (by simp) (hts _ zq_753) rfl hin rfl rfl rfl dMO_init_140 (fun H locs hP hS => ?_)
  rw [bx_uu] at hP
  have hP : zs_P g (va_up ly0 d (0, 7, [1, d + 3, d + 4, d + 5, d + 6, 1, 1, 1, d + 7, 1, d + 8, d + 9, d + 10, d + 11, d + 12, d + 13, d + 14, d + 15, d + 16, d + 17, d + 18, 0, 0, 0, 0, 0, 1, 0, 1, 1, 1])) (d + 17) A st H := hP
  have hlc : (va_up ly0 d (0, 7, [1, d + 3, d + 4, d + 5, d + 6, 1, 1, 1, d + 7, 1, d + 8, d + 9, d + 10, d + 11, d + 12, d + 13, d + 14, d + 15, d + 16, d + 17, d + 18, 0, 0, 0, 0, 0, 1, 0, 1, 1, 1])) d = (0, 7, [1, d + 3, d + 4, d + 5, d + 6, 1, 1, 1, d + 7, 1, d + 8, d + 9, d + 10, d + 11, d + 12, d + 13, d + 14, d + 15, d + 16, d + 17, d + 18, 0, 0, 0, 0, 0, 1, 0, 1, 1, 1]) := va_up_self _ _ _
  refine lv_aload_n hx hb dMO_init_143 rfl (lv_at hl 0 rfl) ?_
  refine lv_bipush (v := 16) hx hb dMO_init_144 (by decide) ?_
  refine zn_newi hx hb (hts _ zq_71) hK.1 hP hc0 (by omega) had hA hS (n := 16) ((va_up_ne _ _ (by omega)).trans s17) (hz _ (by omega)).1 (by decide) (by decide) (by decide) (by decide) (by decide) dMO_init_146 (fun H hP hS => ?_)
  have hc0 : s.heap.size + 17 = sz + (d + 18) := by omega
  have hP : zs_P g (va_up ly0 d (0, 7, [1, d + 3, d + 4, d + 5, d + 6, 1, 1, 1, d + 7, 1, d + 8, d + 9, d + 10, d + 11, d + 12, d + 13, d + 14, d + 15, d + 16, d + 17, d + 18, 0, 0, 0, 0, 0, 1, 0, 1, 1, 1])) (d + 18) A st H := hP
  refine zn_putr hx hb hts zi_MO tyMO tyMO_ok nmMO hown hK.1 hP hS (b := d + 17) (by omega) hlc rfl 21 (by decide) (by simp) (hts _ zq_754) rfl hin rfl rfl rfl dMO_init_148 (fun H locs hP hS => ?_)
  rw [bx_uu] at hP
  have hP : zs_P g (va_up ly0 d (0, 7, [1, d + 3, d + 4, d + 5, d + 6, 1, 1, 1, d + 7, 1, d + 8, d + 9, d + 10, d + 11, d + 12, d + 13, d + 14, d + 15, d + 16, d + 17, d + 18, d + 19, 0, 0, 0, 0, 1, 0, 1, 1, 1])) (d + 18) A st H := hP
  have hlc : (va_up ly0 d (0, 7, [1, d + 3, d + 4, d + 5, d + 6, 1, 1, 1, d + 7, 1, d + 8, d + 9, d + 10, d + 11, d + 12, d + 13, d + 14, d + 15, d + 16, d + 17, d + 18, d + 19, 0, 0, 0, 0, 1, 0, 1, 1, 1])) d = (0, 7, [1, d + 3, d + 4, d + 5, d + 6, 1, 1, 1, d + 7, 1, d + 8, d + 9, d + 10, d + 11, d + 12, d + 13, d + 14, d + 15, d + 16, d + 17, d + 18, d + 19, 0, 0, 0, 0, 1, 0, 1, 1, 1]) := va_up_self _ _ _
  refine lv_aload_n hx hb dMO_init_151 rfl (lv_at hl 0 rfl) ?_
  refine lv_sipush (v := 4800) hx hb dMO_init_152 (by decide) ?_
  refine zn_newi hx hb (hts _ zq_71) hK.1 hP hc0 (by omega) had hA hS (n := 4800) ((va_up_ne _ _ (by omega)).trans s18) (hz _ (by omega)).1 (by decide) (by decide) (by decide) (by decide) (by decide) dMO_init_155 (fun H hP hS => ?_)
  have hc0 : s.heap.size + 18 = sz + (d + 19) := by omega
  have hP : zs_P g (va_up ly0 d (0, 7, [1, d + 3, d + 4, d + 5, d + 6, 1, 1, 1, d + 7, 1, d + 8, d + 9, d + 10, d + 11, d + 12, d + 13, d + 14, d + 15, d + 16, d + 17, d + 18, d + 19, 0, 0, 0, 0, 1, 0, 1, 1, 1])) (d + 19) A st H := hP
  refine zn_putr hx hb hts zi_MO tyMO tyMO_ok nmMO hown hK.1 hP hS (b := d + 18) (by omega) hlc rfl 22 (by decide) (by simp) (hts _ zq_755) rfl hin rfl rfl rfl dMO_init_157 (fun H locs hP hS => ?_)
  rw [bx_uu] at hP
  have hP : zs_P g (va_up ly0 d (0, 7, [1, d + 3, d + 4, d + 5, d + 6, 1, 1, 1, d + 7, 1, d + 8, d + 9, d + 10, d + 11, d + 12, d + 13, d + 14, d + 15, d + 16, d + 17, d + 18, d + 19, d + 20, 0, 0, 0, 1, 0, 1, 1, 1])) (d + 19) A st H := hP
  have hlc : (va_up ly0 d (0, 7, [1, d + 3, d + 4, d + 5, d + 6, 1, 1, 1, d + 7, 1, d + 8, d + 9, d + 10, d + 11, d + 12, d + 13, d + 14, d + 15, d + 16, d + 17, d + 18, d + 19, d + 20, 0, 0, 0, 1, 0, 1, 1, 1])) d = (0, 7, [1, d + 3, d + 4, d + 5, d + 6, 1, 1, 1, d + 7, 1, d + 8, d + 9, d + 10, d + 11, d + 12, d + 13, d + 14, d + 15, d + 16, d + 17, d + 18, d + 19, d + 20, 0, 0, 0, 1, 0, 1, 1, 1]) := va_up_self _ _ _
  refine lv_aload_n hx hb dMO_init_160 rfl (lv_at hl 0 rfl) ?_
  refine lv_sipush (v := 4800) hx hb dMO_init_161 (by decide) ?_
  refine zn_newi hx hb (hts _ zq_71) hK.1 hP hc0 (by omega) had hA hS (n := 4800) ((va_up_ne _ _ (by omega)).trans s19) (hz _ (by omega)).1 (by decide) (by decide) (by decide) (by decide) (by decide) dMO_init_164 (fun H hP hS => ?_)
  have hc0 : s.heap.size + 19 = sz + (d + 20) := by omega
  have hP : zs_P g (va_up ly0 d (0, 7, [1, d + 3, d + 4, d + 5, d + 6, 1, 1, 1, d + 7, 1, d + 8, d + 9, d + 10, d + 11, d + 12, d + 13, d + 14, d + 15, d + 16, d + 17, d + 18, d + 19, d + 20, 0, 0, 0, 1, 0, 1, 1, 1])) (d + 20) A st H := hP
  refine zn_putr hx hb hts zi_MO tyMO tyMO_ok nmMO hown hK.1 hP hS (b := d + 19) (by omega) hlc rfl 23 (by decide) (by simp) (hts _ zq_756) rfl hin rfl rfl rfl dMO_init_166 (fun H locs hP hS => ?_)
  rw [bx_uu] at hP
  have hP : zs_P g (va_up ly0 d (0, 7, [1, d + 3, d + 4, d + 5, d + 6, 1, 1, 1, d + 7, 1, d + 8, d + 9, d + 10, d + 11, d + 12, d + 13, d + 14, d + 15, d + 16, d + 17, d + 18, d + 19, d + 20, d + 21, 0, 0, 1, 0, 1, 1, 1])) (d + 20) A st H := hP
  have hlc : (va_up ly0 d (0, 7, [1, d + 3, d + 4, d + 5, d + 6, 1, 1, 1, d + 7, 1, d + 8, d + 9, d + 10, d + 11, d + 12, d + 13, d + 14, d + 15, d + 16, d + 17, d + 18, d + 19, d + 20, d + 21, 0, 0, 1, 0, 1, 1, 1])) d = (0, 7, [1, d + 3, d + 4, d + 5, d + 6, 1, 1, 1, d + 7, 1, d + 8, d + 9, d + 10, d + 11, d + 12, d + 13, d + 14, d + 15, d + 16, d + 17, d + 18, d + 19, d + 20, d + 21, 0, 0, 1, 0, 1, 1, 1]) := va_up_self _ _ _
  refine lv_aload_n hx hb dMO_init_169 rfl (lv_at hl 0 rfl) ?_
  refine lv_sipush (v := 300) hx hb dMO_init_170 (by decide) ?_
  refine zn_newi hx hb (hts _ zq_71) hK.1 hP hc0 (by omega) had hA hS (n := 300) ((va_up_ne _ _ (by omega)).trans s20) (hz _ (by omega)).1 (by decide) (by decide) (by decide) (by decide) (by decide) dMO_init_173 (fun H hP hS => ?_)
  have hc0 : s.heap.size + 20 = sz + (d + 21) := by omega
  have hP : zs_P g (va_up ly0 d (0, 7, [1, d + 3, d + 4, d + 5, d + 6, 1, 1, 1, d + 7, 1, d + 8, d + 9, d + 10, d + 11, d + 12, d + 13, d + 14, d + 15, d + 16, d + 17, d + 18, d + 19, d + 20, d + 21, 0, 0, 1, 0, 1, 1, 1])) (d + 21) A st H := hP
  refine zn_putr hx hb hts zi_MO tyMO tyMO_ok nmMO hown hK.1 hP hS (b := d + 20) (by omega) hlc rfl 24 (by decide) (by simp) (hts _ zq_757) rfl hin rfl rfl rfl dMO_init_175 (fun H locs hP hS => ?_)
  rw [bx_uu] at hP
  have hP : zs_P g (va_up ly0 d (0, 7, [1, d + 3, d + 4, d + 5, d + 6, 1, 1, 1, d + 7, 1, d + 8, d + 9, d + 10, d + 11, d + 12, d + 13, d + 14, d + 15, d + 16, d + 17, d + 18, d + 19, d + 20, d + 21, d + 22, 0, 1, 0, 1, 1, 1])) (d + 21) A st H := hP
  have hlc : (va_up ly0 d (0, 7, [1, d + 3, d + 4, d + 5, d + 6, 1, 1, 1, d + 7, 1, d + 8, d + 9, d + 10, d + 11, d + 12, d + 13, d + 14, d + 15, d + 16, d + 17, d + 18, d + 19, d + 20, d + 21, d + 22, 0, 1, 0, 1, 1, 1])) d = (0, 7, [1, d + 3, d + 4, d + 5, d + 6, 1, 1, 1, d + 7, 1, d + 8, d + 9, d + 10, d + 11, d + 12, d + 13, d + 14, d + 15, d + 16, d + 17, d + 18, d + 19, d + 20, d + 21, d + 22, 0, 1, 0, 1, 1, 1]) := va_up_self _ _ _
  refine lv_aload_n hx hb dMO_init_178 rfl (lv_at hl 0 rfl) ?_
  refine lv_sipush (v := 300) hx hb dMO_init_179 (by decide) ?_
  refine zn_newz hx hb (hts _ zq_130) hK.1 hP hc0 (by omega) had hA hS (n := 300) ((va_up_ne _ _ (by omega)).trans s21) (hz _ (by omega)).1 (by decide) (by decide) (by decide) (by decide) (by decide) dMO_init_182 (fun H hP hS => ?_)
  have hc0 : s.heap.size + 21 = sz + (d + 22) := by omega
  have hP : zs_P g (va_up ly0 d (0, 7, [1, d + 3, d + 4, d + 5, d + 6, 1, 1, 1, d + 7, 1, d + 8, d + 9, d + 10, d + 11, d + 12, d + 13, d + 14, d + 15, d + 16, d + 17, d + 18, d + 19, d + 20, d + 21, d + 22, 0, 1, 0, 1, 1, 1])) (d + 22) A st H := hP
  refine zn_putr hx hb hts zi_MO tyMO tyMO_ok nmMO hown hK.1 hP hS (b := d + 21) (by omega) hlc rfl 25 (by decide) (by simp) (hts _ zq_758) rfl hin rfl rfl rfl dMO_init_184 (fun H locs hP hS => ?_)
  rw [bx_uu] at hP
  have hP : zs_P g (va_up ly0 d (0, 7, [1, d + 3, d + 4, d + 5, d + 6, 1, 1, 1, d + 7, 1, d + 8, d + 9, d + 10, d + 11, d + 12, d + 13, d + 14, d + 15, d + 16, d + 17, d + 18, d + 19, d + 20, d + 21, d + 22, d + 23, 1, 0, 1, 1, 1])) (d + 22) A st H := hP
  have hlc : (va_up ly0 d (0, 7, [1, d + 3, d + 4, d + 5, d + 6, 1, 1, 1, d + 7, 1, d + 8, d + 9, d + 10, d + 11, d + 12, d + 13, d + 14, d + 15, d + 16, d + 17, d + 18, d + 19, d + 20, d + 21, d + 22, d + 23, 1, 0, 1, 1, 1])) d = (0, 7, [1, d + 3, d + 4, d + 5, d + 6, 1, 1, 1, d + 7, 1, d + 8, d + 9, d + 10, d + 11, d + 12, d + 13, d + 14, d + 15, d + 16, d + 17, d + 18, d + 19, d + 20, d + 21, d + 22, d + 23, 1, 0, 1, 1, 1]) := va_up_self _ _ _
  refine lv_aload_n hx hb dMO_init_187 rfl (lv_at hl 0 rfl) ?_
  refine lv_sipush (v := 200) hx hb dMO_init_188 (by decide) ?_
  refine zn_newi hx hb (hts _ zq_71) hK.1 hP hc0 (by omega) had hA hS (n := 200) ((va_up_ne _ _ (by omega)).trans s22) (hz _ (by omega)).1 (by decide) (by decide) (by decide) (by decide) (by decide) dMO_init_191 (fun H hP hS => ?_)
  have hc0 : s.heap.size + 22 = sz + (d + 23) := by omega
  have hP : zs_P g (va_up ly0 d (0, 7, [1, d + 3, d + 4, d + 5, d + 6, 1, 1, 1, d + 7, 1, d + 8, d + 9, d + 10, d + 11, d + 12, d + 13, d + 14, d + 15, d + 16, d + 17, d + 18, d + 19, d + 20, d + 21, d + 22, d + 23, 1, 0, 1, 1, 1])) (d + 23) A st H := hP
  refine zn_putr hx hb hts zi_MO tyMO tyMO_ok nmMO hown hK.1 hP hS (b := d + 22) (by omega) hlc rfl 27 (by decide) (by simp) (hts _ zq_760) rfl hin rfl rfl rfl dMO_init_193 (fun H locs hP hS => ?_)
  rw [bx_uu] at hP
  have hP : zs_P g (va_up ly0 d (0, 7, [1, d + 3, d + 4, d + 5, d + 6, 1, 1, 1, d + 7, 1, d + 8, d + 9, d + 10, d + 11, d + 12, d + 13, d + 14, d + 15, d + 16, d + 17, d + 18, d + 19, d + 20, d + 21, d + 22, d + 23, 1, d + 24, 1, 1, 1])) (d + 23) A st H := hP
  have hlc : (va_up ly0 d (0, 7, [1, d + 3, d + 4, d + 5, d + 6, 1, 1, 1, d + 7, 1, d + 8, d + 9, d + 10, d + 11, d + 12, d + 13, d + 14, d + 15, d + 16, d + 17, d + 18, d + 19, d + 20, d + 21, d + 22, d + 23, 1, d + 24, 1, 1, 1])) d = (0, 7, [1, d + 3, d + 4, d + 5, d + 6, 1, 1, 1, d + 7, 1, d + 8, d + 9, d + 10, d + 11, d + 12, d + 13, d + 14, d + 15, d + 16, d + 17, d + 18, d + 19, d + 20, d + 21, d + 22, d + 23, 1, d + 24, 1, 1, 1]) := va_up_self _ _ _
  refine lv_aload_n hx hb dMO_init_196 rfl (lv_at hl 0 rfl) ?_
  refine lv_iconst (v := (-1)) hx hb dMO_init_197 (by decide) ?_
  refine zr_put hx hb hts zi_MO tyMO tyMO_ok nmMO hown hK.1 hP hS (by omega) hlc rfl 30 (by decide) rfl (hts _ zq_763) rfl rfl rfl dMO_init_198 (fun H locs hP hS => ?_)
  exact zn_vret hx hb hr hlk (zn_end s0 hP) hS dMO_init_201
