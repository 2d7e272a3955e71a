/-! Knowledge(): rows, and 201 Facts. -/
theorem zn_faz {ly : zs_L} {N : Nat} (h0 : ly N = zs_ly N) (h1 : ly (N + 1) = zs_ly (N + 1)) (h2 : ly (N + 2) = zs_ly (N + 2)) (hN : zs_Fa N) : zn_sh_FA ly N := ⟨h0.trans hN.1.2, h1.trans hN.2.1.2, h2.trans hN.2.2.2⟩
section ZK
variable {p : Program} {l : Launch} {e : Env} {s : State} {m : MethodId} {args : Array Value} {below : List Frame} {meth : Method} {c : Code} {g : zs_G} {A : Nat → Prop}
/-- the road from 'new Facts' to behind its constructor, at the cell N -/
theorem zn_facts {R : Room} {Q : State → Prop} {ls : Array Slot} {rest : List Value} {H : Heap} {locs : List Loc} {cells slots pc N sz nL : Nat} {ly : zs_L} {st : zs_T} {ret : Option FieldType} (hM : zs_M p c cKN_init nL s m meth args "ThriftyStores$Knowledge" ret g) (hO : va_AO "ThriftyStores$Facts" s) (had : ∀ d, g.2.1 d = sz + d) (hA : ∀ q, sz ≤ q → A q) (hl : ls.size = nL)
    (d0 : decode cKN_init pc = .ok (.new 9, 3)) (d3 : decode cKN_init (pc + 3) = .ok (.dup, 1)) (d4 : decode cKN_init (pc + 4) = .ok (.invokespecial 24, 3))
    (hN1 : 0 < N) (hc0 : s.heap.size + cells = sz + N) (hsh : zn_sh_FA ly N) (hz : ∀ x, N ≤ x → st.1 x = (fun _ => 0) ∧ st.2 x = (fun _ => 0)) (hrest : (rest.map fun v => v.category).sum ≤ 5) (hP : zs_P g ly N A st H) (hS : va_S A s.heap H locs) (hRf : 2 ≤ R.frames) (hRl : 32 ≤ R.locals) (hRc : cells + 3 ≤ R.cells) (hRs : slots + 35 ≤ R.slots)
    (kk : ∀ (H1 : Heap) (locs1 : List Loc), zs_P g ly (N + 3) A st H1 → va_S A s.heap H1 locs1 → W p l e R s m args below meth c H1 locs1 (cells + 3) (slots + 35) Q (F0 m (pc + 7) ls (.ref (g.2.1 N) :: rest))) : W p l e R s m args below meth c H locs cells slots Q (F0 m pc ls rest) := by
  obtain ⟨hx, hb, hml, hr, hlk, hts, hown, hK⟩ := id hM
  refine zn_sized hP had hN1 hc0 (fun hsz => ?_)
  refine zn_new hx hb hts zi_FA tyFA tyFA_ok hown zq_107 zq_109 zq_5 hK.1 hP hc0 hsz had hA hS (ci := 3) (fs := [0, 0, 1]) rfl (hz N (Nat.le_refl _)).1 rfl (by decide) (by decide +kernel) (by omega) (by omega) d0 (fun H hP hS => ?_)
  refine lv_dup hx hb d3 rfl ?_
  have hn : (Value.ref (g.2.1 N) :: rest : List Value).map (fun v => v.category) = 1 :: rest.map (fun v => v.category) := rfl
  refine zn_call (mc := 2) (ms := 32) (ly' := ly) (N' := N + 3) (st' := st) (a := [Value.ref (g.2.1 N)].toArray) (rest := .ref (g.2.1 N) :: rest) hP had (by omega) (by omega) (fun hsz => va_runIN (As := []) (rest := .ref (g.2.1 N) :: rest) ⟨hx, hb, hml, hown, hts⟩ (zn_FA_init l g A sz N ly st had hA hsh hz) ⟨va_cnB 0 hts (zs_gN zq_112) rfl rfl rfl (hK.2 (.methodLinkNest "ThriftyStores$Knowledge" 24 yFA_init "ThriftyStores") (by decide +kernel)) (hts _ zq_5) ⟨by decide, by decide, by decide +kernel⟩ ⟨hRf, hRl⟩, rfl, hts _ zq_111⟩ (zn_pre hK hO hP hsz) rfl rfl hl rfl (lv_room (by rw [hn, List.sum_cons]; omega)) d4 ⟨by omega, by omega⟩) hS (fun H locs hP hS => ?_)
  exact kk H locs hP hS
end ZK
set_option maxHeartbeats 4000000 in
set_option maxRecDepth 100000 in
theorem zn_KN_init (l : Launch) (g : zs_G) (A : Nat → Prop) (sz : Nat) (ly0 : zs_L) (st : zs_T) (had : ∀ d, g.2.1 d = sz + d) (hA : ∀ q, sz ≤ q → A q) (hs : ∀ x, 17 ≤ x → x < 627 → ly0 x = zs_ly x) (hz : ∀ x, 17 ≤ x → st.1 x = (fun _ => 0) ∧ st.2 x = (fun _ => 0)) : Met l yKN_init (.code yKN_init cKN_init 2 none :: zs_tb) (zt_rm 2 32 609 7673) (zn_Pc g (va_up ly0 17 (0, 4, [0, 0, 0, 0])) 18 sz A [.ref (g.2.1 17)] st) (zn_Q g ly0 627 A st) 609 7673 A := by
  refine zn_met (cc := cKN_init) (maxL := 2) (ret := none) (by decide) rfl (Nat.le_of_ble_eq_true rfl) (fun p e s m below meth c ls hM hin hO hsz hl hP => ?_)
  have hM : zs_M p c cKN_init 2 s m meth [Value.ref (g.2.1 17)].toArray "ThriftyStores$Knowledge" none g := hM
  obtain ⟨hx, hb, hml, hr, hlk, hts, hown, hK⟩ := id hM
  have hl : lv_has ls 2 [(0, .ref (g.2.1 17))] := hl
  have hS : va_S A s.heap s.heap [] := va_S.rf
  have zb : ∀ {x : Nat} {u v : Nat × Nat × List Nat}, 19 ≤ x → x < 627 → (va_up (va_up ly0 17 u) 18 v) x = zs_ly x := fun h1 h2 => ((va_up_ne _ _ (by omega)).trans (va_up_ne _ _ (by omega))).trans (hs _ (by omega) h2)
  have z7 : ∀ {u v : Nat × Nat × List Nat}, (va_up (va_up ly0 17 u) 18 v) 17 = u := fun {u v} => (va_up_ne _ _ (by decide)).trans (va_up_self _ _ _)
  have z8 : ∀ {u v : Nat × Nat × List Nat}, (va_up (va_up ly0 17 u) 18 v) 18 = v := fun {u v} => va_up_self _ _ _
  have zc : ∀ {u u2 v : Nat × Nat × List Nat}, va_up (va_up (va_up ly0 17 u) 18 v) 17 u2 = va_up (va_up ly0 17 u2) 18 v := fun {u u2 v} => by
    funext x
    by_cases h1 : x = 17
    · subst h1
      rw [va_up_self, va_up_ne _ _ (by decide), va_up_self]
    · by_cases h2 : x = 18
      · subst h2
        rw [va_up_ne _ _ (by decide), va_up_self, va_up_self]
      · rw [va_up_ne _ _ h1, va_up_ne _ _ h2, va_up_ne _ _ h1, va_up_ne _ _ h2, va_up_ne _ _ h1]
  have hP : zs_P g (va_up (va_up ly0 17 (0, 4, [0, 0, 0, 0])) 18 (4, 201, [0, 24])) 18 A st s.heap := zn_ly (fun x hx9 => (va_up_ne _ _ (by omega)).symm) hP
  refine lv_aload_n hx hb dKN_init_0 rfl (lv_at hl 0 rfl) ?_
  refine W.objInit hx hb hown (hts _ zq_106) (hts _ zq_25) (hts _ zq_26) rfl (by rw [hml]; exact hl.1) rfl dKN_init_1 (Nat.le_of_ble_eq_true rfl) (Nat.le_of_ble_eq_true rfl) ?_
  refine W.eq (g2 := F0 m 4 ls []) rfl ?_
  refine lv_aload_n hx hb dKN_init_4 rfl (lv_at hl 0 rfl) ?_
  refine lv_sipush (v := 201) hx hb dKN_init_5 (by decide) ?_
  refine zn_newq hx hb hts hown zq_107 hO hK.1 hP hsz had hA hS (n := 201) z8 (by decide) (by decide) (by decide) (by decide) (by decide) dKN_init_8 (fun H hP hS => ?_)
  refine zn_putr hx hb hts zi_KN tyKN tyKN_ok nmKN hown hK.1 hP hS (b := 18) (by decide) z7 rfl 0 (by decide) (by decide) (hts _ zq_131) rfl hin rfl rfl rfl dKN_init_11 (fun H locs hP hS => ?_)
  rw [zc] at hP
  have hP : zs_P g (va_up (va_up ly0 17 (0, 4, [20, 0, 0, 0])) 18 (4, 201, [0, 24])) 19 A st H := hP
  refine lv_aload_n hx hb dKN_init_14 rfl (lv_at hl 0 rfl) ?_
  refine lv_sipush (v := 201) hx hb dKN_init_15 (by decide) ?_
  refine zn_newz hx hb (hts _ zq_130) hK.1 hP (by omega) (by decide) had hA hS (n := 201) (zb (by decide) (by decide)) (hz _ (by decide)).1 (by decide) (by decide) (by decide) (by decide) (by decide) dKN_init_18 (fun H hP hS => ?_)
  refine zn_putr hx hb hts zi_KN tyKN tyKN_ok nmKN hown hK.1 hP hS (b := 19) (by decide) z7 rfl 1 (by decide) (by decide) (hts _ zq_134) rfl hin rfl rfl rfl dKN_init_20 (fun H locs hP hS => ?_)
  rw [zc] at hP
  have hP : zs_P g (va_up (va_up ly0 17 (0, 4, [20, 21, 0, 0])) 18 (4, 201, [0, 24])) 20 A st H := hP
  refine lv_aload_n hx hb dKN_init_23 rfl (lv_at hl 0 rfl) ?_
  refine lv_sipush (v := 201) hx hb dKN_init_24 (by decide) ?_
  refine zn_newz hx hb (hts _ zq_130) hK.1 hP (by omega) (by decide) had hA hS (n := 201) (zb (by decide) (by decide)) (hz _ (by decide)).1 (by decide) (by decide) (by decide) (by decide) (by decide) dKN_init_27 (fun H hP hS => ?_)
  refine zn_putr hx hb hts zi_KN tyKN tyKN_ok nmKN hown hK.1 hP hS (b := 20) (by decide) z7 rfl 2 (by decide) (by decide) (hts _ zq_137) rfl hin rfl rfl rfl dKN_init_29 (fun H locs hP hS => ?_)
  rw [zc] at hP
  have hP : zs_P g (va_up (va_up ly0 17 (0, 4, [20, 21, 22, 0])) 18 (4, 201, [0, 24])) 21 A st H := hP
  refine lv_aload_n hx hb dKN_init_32 rfl (lv_at hl 0 rfl) ?_
  refine zn_facts hM hO had hA hl.1 dKN_init_33 dKN_init_36 dKN_init_37 (N := 21) (by decide) (by omega) (zn_faz (zb (by decide) (by decide)) (zb (by decide) (by decide)) (zb (by decide) (by decide)) zs_Fa_21) (fun x h => hz x (by omega)) (Nat.le_of_ble_eq_true rfl) hP hS (by decide) (by decide) (by decide) (by decide) (fun H locs hP hS => ?_)
  refine zn_putr hx hb hts zi_KN tyKN tyKN_ok nmKN hown hK.1 hP hS (b := 21) (by decide) z7 rfl 3 (by decide) (by decide) (hts _ zq_138) rfl hin rfl rfl rfl dKN_init_40 (fun H locs hP hS => ?_)
  rw [zc] at hP
  have hP : zs_P g (va_up (va_up ly0 17 (0, 4, [20, 21, 22, 23])) 18 (4, 201, [0, 24])) 24 A st H := hP
  refine lv_iconst (v := 0) hx hb dKN_init_43 (by decide) ?_
  refine lv_istore_n hx hb dKN_init_44 rfl hl (by decide) rfl (fun ls hl => ?_)
  have hl : lv_has ls 2 [(1, .int 0), (0, .ref (g.2.1 17))] := hl
  have loop : ∀ (j k : Nat), k + j = 201 → ∀ (ls : Array Slot) (H : Heap) (locs : List Loc), lv_has ls 2 [(1, .int (nI k)), (0, .ref (g.2.1 17))] → zs_P g (va_up (va_up ly0 17 (0, 4, [20, 21, 22, 23])) 18 (4, 201, [k, 24])) (24 + 3 * k) A st H → va_S A s.heap H locs → W p l e (zt_rm 2 32 609 7673) s m [Value.ref (g.2.1 17)].toArray below meth c H locs (6 + 3 * k) (638 + 35 * k) (MQ below (zn_Q g ly0 627 A st) [Value.ref (g.2.1 17)].toArray s 609 7673 A) (F0 m 45 ls []) := by
    intro j
    induction j with
    | zero =>
      intro k hk ls H locs hl hP hS
      have hk' : k = 201 := by omega
      subst hk'
      refine lv_iload_n hx hb dKN_init_45 rfl (lv_at hl 0 rfl) ?_
      refine lv_sipush (v := 201) hx hb dKN_init_46 (by decide) ?_
      refine lv_icmp_ge (tgt := 71) hx hb dKN_init_49 rfl (fun _ => ?_) (fun hc => absurd (by decide) hc)
      exact zn_vret hx hb hr hlk (zn_ly (fun x hx9 => by
        by_cases h1 : x = 18
        · subst h1; rw [va_up_self, hs 18 (by decide) (by decide)]; rfl
        · by_cases h2 : x = 17
          · subst h2; rw [va_up_ne _ _ (by decide), va_up_self, hs 17 (by decide) (by decide)]; rfl
          · rw [va_up_ne _ _ h1, va_up_ne _ _ h2]) hP) hS dKN_init_71
    | succ j ih =>
      intro k hk ls H locs hl hP hS
      refine lv_iload_n hx hb dKN_init_45 rfl (lv_at hl 0 rfl) ?_
      refine lv_sipush (v := 201) hx hb dKN_init_46 (by decide) ?_
      refine lv_icmp_ge (tgt := 71) hx hb dKN_init_49 rfl (fun hc => absurd hc (nI_ge (b := 201) (by omega) (by decide))) (fun _ => ?_)
      refine lv_aload_n hx hb dKN_init_52 rfl (lv_at hl 1 rfl) ?_
      refine zr_getr (b := 18) hx hb hts zi_KN hown hK.1 hP (by omega) z7 rfl 0 (by decide) rfl (hts _ zq_131) dKN_init_53 ?_
      refine lv_iload_n hx hb dKN_init_56 rfl (lv_at hl 0 rfl) ?_
      refine zn_facts hM hO had hA hl.1 dKN_init_57 dKN_init_60 dKN_init_61 (N := 24 + 3 * k) (by omega) (by omega) (zn_faz (zb (by omega) (by omega)) (zb (by omega) (by omega)) (zb (by omega) (by omega)) (zs_Fa_b (by omega))) (fun x h => hz x (by omega)) (Nat.le_of_ble_eq_true rfl) hP hS (by decide) (by decide) (by show 6 + 3 * k + 3 ≤ 609; omega) (by show 638 + 35 * k + 35 ≤ 7673; omega) (fun H locs hP hS => ?_)
      refine zn_aast hx hb hK.1 hP hS (by omega) z8 (by omega) ((zb (by omega) (by omega)).trans (zs_Fa_b (show k < 201 by omega)).1.2) (vp_in_nI (by omega) (by decide)) (nI_clamp (by omega)) dKN_init_64 (fun H locs hP hS => ?_)
      rw [bx_uu] at hP
      refine lv_iinc (k := 0) (v := nI (k + 1)) hx hb dKN_init_65 hl rfl (by rw [show Int32.ofInt (1) = 1 from by decide, nI_1]) (by decide) rfl (fun ls hl => ?_)
      have hl : lv_has ls 2 [(1, .int (nI (k + 1))), (0, .ref (g.2.1 17))] := hl
      refine lv_goto (tgt := 45) hx hb dKN_init_68 rfl ?_
      exact ih (k + 1) (by omega) ls H locs hl hP hS
  exact loop 201 0 (by decide) ls H locs hl hP hS
