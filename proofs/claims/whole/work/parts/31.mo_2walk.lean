section ZW
variable {p : Program} {l : Launch} {e : Env} {s : State} {m : MethodId} {args : Array Value} {below : List Frame} {meth : Method} {c : Code} {g : zs_G} {A : Nat → Prop}
set_option maxHeartbeats 4000000 in
set_option maxRecDepth 100000 in
theorem zc_MO_thrown (l : Launch) (g : zs_G) (A : Nat → Prop)   {st : zs_T} {K : Int32 → zs_T → Prop} (h : zf_MO_thrown  st K) : Met l yMO_thrown (.code yMO_thrown cMO_thrown 1 (some .int) :: zs_tb) (zs_rm 0 0) (zs_Pc zs_nl g zs_ly zs_N A [.ref (g.2.1 635)] st) (zs_Qi g zs_ly zs_N A K) 0 0 A := by
  refine zs_met (cc := cMO_thrown) (maxL := 1) (ret := (some .int)) (by decide) (Nat.le_of_ble_eq_true rfl) (fun p e s m below meth c hM => ?_)
  have hM : zs_M p c cMO_thrown 1 s m meth [.ref (g.2.1 635)].toArray "ThriftyStoresModel" (some .int) g := hM
  obtain ⟨hx, hb, hml, hr, hlk, hts, hown, hK⟩ := id hM
  intro ls H locs hl hP hS
  have hl : lv_has ls 1 [(0, .ref (g.2.1 635))] := hl
  unfold zf_MO_thrown at h
  refine lv_aload_n hx hb dMO_thrown_0 rfl (lv_at hl 0 rfl) ?_
  refine zr_geti hx hb hts zi_MO hown hK.1 hP zl_635.1 zl_635.2 rfl 0 (by decide) rfl (hts _ zq_733) dMO_thrown_1 ?_
  exact zr_iret hx hb hr hlk hP hS h dMO_thrown_4
set_option maxHeartbeats 4000000 in
set_option maxRecDepth 100000 in
theorem zc_MO_register (l : Launch) (g : zs_G) (A : Nat → Prop) {l0 : Int32}  {st : zs_T} {K : Int32 → zs_T → Prop} (h : zf_MO_register l0 st K) : Met l yMO_register (.code yMO_register cMO_register 1 (some .boolean) :: zs_tb) (zs_rm 0 0) (zs_Pc zs_nl g zs_ly zs_N A [.int l0] st) (zs_Qi g zs_ly zs_N A K) 0 0 A := by
  refine zs_met (cc := cMO_register) (maxL := 1) (ret := (some .boolean)) (by decide) (Nat.le_of_ble_eq_true rfl) (fun p e s m below meth c hM => ?_)
  have hM : zs_M p c cMO_register 1 s m meth [.int l0].toArray "ThriftyStoresModel" (some .boolean) g := hM
  obtain ⟨hx, hb, hml, hr, hlk, hts, hown, hK⟩ := id hM
  intro ls H locs hl hP hS
  have hl : lv_has ls 1 [(0, .int l0)] := hl
  unfold zf_MO_register at h
  refine lv_iload_n hx hb dMO_register_0 rfl (lv_at hl 0 rfl) ?_
  refine lv_if_lt (tgt := 14) hx hb dMO_register_1 rfl (fun hc => ?_) (fun hc => ?_)
  · have h := h.1 hc
    clear hc
    refine lv_iconst (v := 0) hx hb dMO_register_14 (by decide) ?_
    exact zr_zret hx hb hr hlk hP hS rfl h dMO_register_15
  · have h := h.2 hc
    clear hc
    refine lv_iload_n hx hb dMO_register_4 rfl (lv_at hl 0 rfl) ?_
    refine lv_bipush (v := 16) hx hb dMO_register_5 (by decide) ?_
    refine lv_icmp_ge (tgt := 14) hx hb dMO_register_7 rfl (fun hc => ?_) (fun hc => ?_)
    · have h := h.1 hc
      clear hc
      refine lv_iconst (v := 0) hx hb dMO_register_14 (by decide) ?_
      exact zr_zret hx hb hr hlk hP hS rfl h dMO_register_15
    · have h := h.2 hc
      clear hc
      refine lv_iconst (v := 1) hx hb dMO_register_10 (by decide) ?_
      refine lv_goto (tgt := 15) hx hb dMO_register_11 rfl ?_
      exact zr_zret hx hb hr hlk hP hS rfl h dMO_register_15
set_option maxHeartbeats 4000000 in
set_option maxRecDepth 100000 in
theorem zw_MO_good_144 (hM : zs_M p c cMO_good 5 s m meth args "ThriftyStoresModel" (some .boolean) g)   {K : Int32 → zs_T → Prop}   (l2 : Int32) (l3 : Int32) (st : zs_T) (h : zf_MO_good_144 K l2 l3 st) : zs_Go p l e (zs_rm 1 20) s m args below meth c g A (MQ below (zs_Qi g zs_ly zs_N A K) args s 0 0 A) 5 144 [(2, .int l2), (3, .int l3)] [] st := by
  obtain ⟨hx, hb, hml, hr, hlk, hts, hown, hK⟩ := id hM
  intro ls H locs hl hP hS
  unfold zf_MO_good_144 at h
  refine lv_iload_n hx hb dMO_good_144 rfl (lv_at hl 0 rfl) ?_
  refine zr_calli (va_runS (As := [.int l2]) (rest := []) ⟨hx, hb, hml, hown, hts⟩ (zc_MO_register l g A  h) (va_cwS 1 hts (zs_gS zq_838 zq_839 zq_8 zq_840) rfl rfl rfl ⟨by decide, by decide, by decide +kernel⟩ ⟨Nat.le_of_ble_eq_true rfl, Nat.le_of_ble_eq_true rfl⟩) (zs_preS zs_nwk hK hP) rfl rfl hl.1 rfl (lv_room (Nat.le_of_ble_eq_true rfl)) dMO_good_145 ⟨Nat.le_refl _, Nat.le_refl _⟩) hS (fun r402 u401 H locs h hP hS => ?_)
  refine lv_if_eq (tgt := 159) hx hb dMO_good_148 rfl (fun hc => ?_) (fun hc => ?_)
  · have h := h.1 hc
    clear hc
    refine lv_iconst (v := 0) hx hb dMO_good_159 (by decide) ?_
    exact zr_zret hx hb hr hlk hP hS rfl h dMO_good_160
  · have h := h.2 hc
    clear hc
    refine lv_iload_n hx hb dMO_good_151 rfl (lv_at hl 1 rfl) ?_
    refine lv_if_ne (tgt := 159) hx hb dMO_good_152 rfl (fun hc => ?_) (fun hc => ?_)
    · have h := h.1 hc
      clear hc
      refine lv_iconst (v := 0) hx hb dMO_good_159 (by decide) ?_
      exact zr_zret hx hb hr hlk hP hS rfl h dMO_good_160
    · have h := h.2 hc
      clear hc
      refine lv_iconst (v := 1) hx hb dMO_good_155 (by decide) ?_
      refine lv_goto (tgt := 160) hx hb dMO_good_156 rfl ?_
      exact zr_zret hx hb hr hlk hP hS rfl h dMO_good_160
set_option maxHeartbeats 4000000 in
set_option maxRecDepth 100000 in
theorem zw_MO_good_53 (hM : zs_M p c cMO_good 5 s m meth args "ThriftyStoresModel" (some .boolean) g)   {K : Int32 → zs_T → Prop}   (l0 : Int32) (l1 : Int32) (l2 : Int32) (l3 : Int32) (s0 : Int32) (st : zs_T) (h : zf_MO_good_53 K l0 l1 l2 l3 s0 st) : zs_Go p l e (zs_rm 1 20) s m args below meth c g A (MQ below (zs_Qi g zs_ly zs_N A K) args s 0 0 A) 5 53 [(0, .int l0), (1, .int l1), (2, .int l2), (3, .int l3)] [.int s0] st := by
  obtain ⟨hx, hb, hml, hr, hlk, hts, hown, hK⟩ := id hM
  intro ls H locs hl hP hS
  unfold zf_MO_good_53 at h
  refine lv_istore hx hb dMO_good_53 hl (by decide) rfl (fun ls hl => ?_)
  have hl : lv_has ls 5 [(4, .int s0), (0, .int l0), (1, .int l1), (2, .int l2), (3, .int l3)] := hl
  refine lv_iload_n hx hb dMO_good_55 rfl (lv_at hl 1 rfl) ?_
  refine lv_bipush (v := 12) hx hb dMO_good_56 (by decide) ?_
  refine lv_icmp_ne (tgt := 80) hx hb dMO_good_58 rfl (fun hc => ?_) (fun hc => ?_)
  · have h := h.1 hc
    clear hc
    refine lv_iload_n hx hb dMO_good_80 rfl (lv_at hl 1 rfl) ?_
    refine lv_bipush (v := 13) hx hb dMO_good_81 (by decide) ?_
    refine lv_icmp_le (tgt := 104) hx hb dMO_good_83 rfl (fun hc => ?_) (fun hc => ?_)
    · have h := h.1 hc
      clear hc
      refine lv_iload_n hx hb dMO_good_104 rfl (lv_at hl 2 rfl) ?_
      refine zr_calli (va_runS (As := [.int l1]) (rest := []) ⟨hx, hb, hml, hown, hts⟩ (zc_MO_register l g A  h) (va_cwS 1 hts (zs_gS zq_838 zq_839 zq_8 zq_840) rfl rfl rfl ⟨by decide, by decide, by decide +kernel⟩ ⟨Nat.le_of_ble_eq_true rfl, Nat.le_of_ble_eq_true rfl⟩) (zs_preS zs_nwk hK hP) rfl rfl hl.1 rfl (lv_room (Nat.le_of_ble_eq_true rfl)) dMO_good_105 ⟨Nat.le_refl _, Nat.le_refl _⟩) hS (fun r202 u201 H locs h hP hS => ?_)
      refine lv_if_ne (tgt := 113) hx hb dMO_good_108 rfl (fun hc => ?_) (fun hc => ?_)
      · have h := h.1 hc
        clear hc
        refine lv_iload_n hx hb dMO_good_113 rfl (lv_at hl 1 rfl) ?_
        refine lv_if_ne (tgt := 127) hx hb dMO_good_114 rfl (fun hc => ?_) (fun hc => ?_)
        · have h := h.1 hc
          clear hc
          refine lv_iload_n hx hb dMO_good_127 rfl (lv_at hl 1 rfl) ?_
          refine lv_iconst (v := 1) hx hb dMO_good_128 (by decide) ?_
          refine lv_icmp_eq (tgt := 144) hx hb dMO_good_129 rfl (fun hc => ?_) (fun hc => ?_)
          · have h := h.1 hc
            clear hc
            exact zw_MO_good_144 hM  l2 l3 u201 h ls H locs (lv_sub hl [3, 4] rfl) hP hS
          · have h := h.2 hc
            clear hc
            refine lv_iload_n hx hb dMO_good_132 rfl (lv_at hl 1 rfl) ?_
            refine lv_bipush (v := 9) hx hb dMO_good_133 (by decide) ?_
            refine lv_icmp_eq (tgt := 144) hx hb dMO_good_135 rfl (fun hc => ?_) (fun hc => ?_)
            · have h := h.1 hc
              clear hc
              exact zw_MO_good_144 hM  l2 l3 u201 h ls H locs (lv_sub hl [3, 4] rfl) hP hS
            · have h := h.2 hc
              clear hc
              refine lv_iload_n hx hb dMO_good_138 rfl (lv_at hl 1 rfl) ?_
              refine lv_bipush (v := 10) hx hb dMO_good_139 (by decide) ?_
              refine lv_icmp_ne (tgt := 161) hx hb dMO_good_141 rfl (fun hc => ?_) (fun hc => ?_)
              · have h := h.1 hc
                clear hc
                refine lv_iload_n hx hb dMO_good_161 rfl (lv_at hl 1 rfl) ?_
                refine lv_bipush (v := 8) hx hb dMO_good_162 (by decide) ?_
                refine lv_icmp_ge (tgt := 187) hx hb dMO_good_164 rfl (fun hc => ?_) (fun hc => ?_)
                · have h := h.1 hc
                  clear hc
                  refine lv_iload_n hx hb dMO_good_187 rfl (lv_at hl 1 rfl) ?_
                  refine lv_bipush (v := 8) hx hb dMO_good_188 (by decide) ?_
                  refine lv_icmp_ne (tgt := 219) hx hb dMO_good_190 rfl (fun hc => ?_) (fun hc => ?_)
                  · have h := h.1 hc
                    clear hc
                    refine lv_iload_n hx hb dMO_good_219 rfl (lv_at hl 1 rfl) ?_
                    refine lv_bipush (v := 11) hx hb dMO_good_220 (by decide) ?_
                    refine lv_icmp_ne (tgt := 241) hx hb dMO_good_222 rfl (fun hc => ?_) (fun hc => ?_)
                    · have h := h.1 hc
                      clear hc
                      refine lv_iload hx hb dMO_good_241 (lv_at hl 0 rfl) ?_
                      refine lv_if_eq (tgt := 254) hx hb dMO_good_243 rfl (fun hc => ?_) (fun hc => ?_)
                      · have h := h.1 hc
                        clear hc
                        refine lv_iconst (v := 0) hx hb dMO_good_254 (by decide) ?_
                        exact zr_zret hx hb hr hlk hP hS rfl h dMO_good_255
                      · have h := h.2 hc
                        clear hc
                        refine lv_iload_n hx hb dMO_good_246 rfl (lv_at hl 4 rfl) ?_
                        refine lv_if_ne (tgt := 254) hx hb dMO_good_247 rfl (fun hc => ?_) (fun hc => ?_)
                        · have h := h.1 hc
                          clear hc
                          refine lv_iconst (v := 0) hx hb dMO_good_254 (by decide) ?_
                          exact zr_zret hx hb hr hlk hP hS rfl h dMO_good_255
                        · have h := h.2 hc
                          clear hc
                          refine lv_iconst (v := 1) hx hb dMO_good_250 (by decide) ?_
                          refine lv_goto (tgt := 255) hx hb dMO_good_251 rfl ?_
                          exact zr_zret hx hb hr hlk hP hS rfl h dMO_good_255
                    · have h := h.2 hc
                      clear hc
                      refine lv_iload_n hx hb dMO_good_225 rfl (lv_at hl 3 rfl) ?_
                      refine lv_if_ne (tgt := 237) hx hb dMO_good_226 rfl (fun hc => ?_) (fun hc => ?_)
                      · have h := h.1 hc
                        clear hc
                        refine lv_iconst (v := 0) hx hb dMO_good_237 (by decide) ?_
                        refine lv_goto (tgt := 255) hx hb dMO_good_238 rfl ?_
                        exact zr_zret hx hb hr hlk hP hS rfl h dMO_good_255
                      · have h := h.2 hc
                        clear hc
                        refine lv_iload_n hx hb dMO_good_229 rfl (lv_at hl 4 rfl) ?_
                        refine lv_if_ne (tgt := 237) hx hb dMO_good_230 rfl (fun hc => ?_) (fun hc => ?_)
                        · have h := h.1 hc
                          clear hc
                          refine lv_iconst (v := 0) hx hb dMO_good_237 (by decide) ?_
                          refine lv_goto (tgt := 255) hx hb dMO_good_238 rfl ?_
                          exact zr_zret hx hb hr hlk hP hS rfl h dMO_good_255
                        · have h := h.2 hc
                          clear hc
                          refine lv_iconst (v := 1) hx hb dMO_good_233 (by decide) ?_
                          refine lv_goto (tgt := 255) hx hb dMO_good_234 rfl ?_
                          exact zr_zret hx hb hr hlk hP hS rfl h dMO_good_255
                  · have h := h.2 hc
                    clear hc
                    refine lv_iload_n hx hb dMO_good_193 rfl (lv_at hl 3 rfl) ?_
                    refine lv_iconst (v := 1) hx hb dMO_good_194 (by decide) ?_
                    refine lv_icmp_lt (tgt := 217) hx hb dMO_good_195 rfl (fun hc => ?_) (fun hc => ?_)
                    · have h := h.1 hc
                      clear hc
                      refine lv_iconst (v := 0) hx hb dMO_good_217 (by decide) ?_
                      exact zr_zret hx hb hr hlk hP hS rfl h dMO_good_218
                    · have h := h.2 hc
                      clear hc
                      refine lv_iload_n hx hb dMO_good_198 rfl (lv_at hl 3 rfl) ?_
                      refine lv_bipush (v := 16) hx hb dMO_good_199 (by decide) ?_
                      refine lv_icmp_gt (tgt := 217) hx hb dMO_good_201 rfl (fun hc => ?_) (fun hc => ?_)
                      · have h := h.1 hc
                        clear hc
                        refine lv_iconst (v := 0) hx hb dMO_good_217 (by decide) ?_
                        exact zr_zret hx hb hr hlk hP hS rfl h dMO_good_218
                      · have h := h.2 hc
                        clear hc
                        refine lv_iload_n hx hb dMO_good_204 rfl (lv_at hl 4 rfl) ?_
                        refine lv_if_eq (tgt := 213) hx hb dMO_good_205 rfl (fun hc => ?_) (fun hc => ?_)
                        · have h := h.1 hc
                          clear hc
                          refine lv_iconst (v := 1) hx hb dMO_good_213 (by decide) ?_
                          refine lv_goto (tgt := 218) hx hb dMO_good_214 rfl ?_
                          exact zr_zret hx hb hr hlk hP hS rfl h dMO_good_218
                        · have h := h.2 hc
                          clear hc
                          refine lv_iload_n hx hb dMO_good_208 rfl (lv_at hl 4 rfl) ?_
                          refine lv_iconst (v := 1) hx hb dMO_good_209 (by decide) ?_
                          refine lv_icmp_ne (tgt := 217) hx hb dMO_good_210 rfl (fun hc => ?_) (fun hc => ?_)
                          · have h := h.1 hc
                            clear hc
                            refine lv_iconst (v := 0) hx hb dMO_good_217 (by decide) ?_
                            exact zr_zret hx hb hr hlk hP hS rfl h dMO_good_218
                          · have h := h.2 hc
                            clear hc
                            refine lv_iconst (v := 1) hx hb dMO_good_213 (by decide) ?_
                            refine lv_goto (tgt := 218) hx hb dMO_good_214 rfl ?_
                            exact zr_zret hx hb hr hlk hP hS rfl h dMO_good_218
                · have h := h.2 hc
                  clear hc
                  refine lv_iload_n hx hb dMO_good_167 rfl (lv_at hl 3 rfl) ?_
                  refine zr_calli (va_runS (As := [.int l2]) (rest := []) ⟨hx, hb, hml, hown, hts⟩ (zc_MO_register l g A  h) (va_cwS 1 hts (zs_gS zq_838 zq_839 zq_8 zq_840) rfl rfl rfl ⟨by decide, by decide, by decide +kernel⟩ ⟨Nat.le_of_ble_eq_true rfl, Nat.le_of_ble_eq_true rfl⟩) (zs_preS zs_nwk hK hP) rfl rfl hl.1 rfl (lv_room (Nat.le_of_ble_eq_true rfl)) dMO_good_168 ⟨Nat.le_refl _, Nat.le_refl _⟩) hS (fun r204 u203 H locs h hP hS => ?_)
                  refine lv_if_eq (tgt := 185) hx hb dMO_good_171 rfl (fun hc => ?_) (fun hc => ?_)
                  · have h := h.1 hc
                    clear hc
                    refine lv_iconst (v := 0) hx hb dMO_good_185 (by decide) ?_
                    exact zr_zret hx hb hr hlk hP hS rfl h dMO_good_186
                  · have h := h.2 hc
                    clear hc
                    refine lv_iload_n hx hb dMO_good_174 rfl (lv_at hl 4 rfl) ?_
                    refine zr_calli (va_runS (As := [.int l3]) (rest := []) ⟨hx, hb, hml, hown, hts⟩ (zc_MO_register l g A  h) (va_cwS 1 hts (zs_gS zq_838 zq_839 zq_8 zq_840) rfl rfl rfl ⟨by decide, by decide, by decide +kernel⟩ ⟨Nat.le_of_ble_eq_true rfl, Nat.le_of_ble_eq_true rfl⟩) (zs_preS zs_nwk hK hP) rfl rfl hl.1 rfl (lv_room (Nat.le_of_ble_eq_true rfl)) dMO_good_175 ⟨Nat.le_refl _, Nat.le_refl _⟩) hS (fun r206 u205 H locs h hP hS => ?_)
                    refine lv_if_eq (tgt := 185) hx hb dMO_good_178 rfl (fun hc => ?_) (fun hc => ?_)
                    · have h := h.1 hc
                      clear hc
                      refine lv_iconst (v := 0) hx hb dMO_good_185 (by decide) ?_
                      exact zr_zret hx hb hr hlk hP hS rfl h dMO_good_186
                    · have h := h.2 hc
                      clear hc
                      refine lv_iconst (v := 1) hx hb dMO_good_181 (by decide) ?_
                      refine lv_goto (tgt := 186) hx hb dMO_good_182 rfl ?_
                      exact zr_zret hx hb hr hlk hP hS rfl h dMO_good_186
              · have h := h.2 hc
                clear hc
                exact zw_MO_good_144 hM  l2 l3 u201 h ls H locs (lv_sub hl [3, 4] rfl) hP hS
        · have h := h.2 hc
          clear hc
          refine lv_iload_n hx hb dMO_good_117 rfl (lv_at hl 4 rfl) ?_
          refine lv_if_ne (tgt := 125) hx hb dMO_good_118 rfl (fun hc => ?_) (fun hc => ?_)
          · have h := h.1 hc
            clear hc
            refine lv_iconst (v := 0) hx hb dMO_good_125 (by decide) ?_
            exact zr_zret hx hb hr hlk hP hS rfl h dMO_good_126
          · have h := h.2 hc
            clear hc
            refine lv_iconst (v := 1) hx hb dMO_good_121 (by decide) ?_
            refine lv_goto (tgt := 126) hx hb dMO_good_122 rfl ?_
            exact zr_zret hx hb hr hlk hP hS rfl h dMO_good_126
      · have h := h.2 hc
        clear hc
        refine lv_iconst (v := 0) hx hb dMO_good_111 (by decide) ?_
        exact zr_zret hx hb hr hlk hP hS rfl h dMO_good_112
    · have h := h.2 hc
      clear hc
      refine lv_iload_n hx hb dMO_good_86 rfl (lv_at hl 2 rfl) ?_
      refine lv_if_ne (tgt := 102) hx hb dMO_good_87 rfl (fun hc => ?_) (fun hc => ?_)
      · have h := h.1 hc
        clear hc
        refine lv_iconst (v := 0) hx hb dMO_good_102 (by decide) ?_
        exact zr_zret hx hb hr hlk hP hS rfl h dMO_good_103
      · have h := h.2 hc
        clear hc
        refine lv_iload_n hx hb dMO_good_90 rfl (lv_at hl 3 rfl) ?_
        refine lv_if_ne (tgt := 102) hx hb dMO_good_91 rfl (fun hc => ?_) (fun hc => ?_)
        · have h := h.1 hc
          clear hc
          refine lv_iconst (v := 0) hx hb dMO_good_102 (by decide) ?_
          exact zr_zret hx hb hr hlk hP hS rfl h dMO_good_103
        · have h := h.2 hc
          clear hc
          refine lv_iload_n hx hb dMO_good_94 rfl (lv_at hl 4 rfl) ?_
          refine lv_if_ne (tgt := 102) hx hb dMO_good_95 rfl (fun hc => ?_) (fun hc => ?_)
          · have h := h.1 hc
            clear hc
            refine lv_iconst (v := 0) hx hb dMO_good_102 (by decide) ?_
            exact zr_zret hx hb hr hlk hP hS rfl h dMO_good_103
          · have h := h.2 hc
            clear hc
            refine lv_iconst (v := 1) hx hb dMO_good_98 (by decide) ?_
            refine lv_goto (tgt := 103) hx hb dMO_good_99 rfl ?_
            exact zr_zret hx hb hr hlk hP hS rfl h dMO_good_103
  · have h := h.2 hc
    clear hc
    refine lv_iload hx hb dMO_good_61 (lv_at hl 0 rfl) ?_
    refine lv_if_eq (tgt := 78) hx hb dMO_good_63 rfl (fun hc => ?_) (fun hc => ?_)
    · have h := h.1 hc
      clear hc
      refine lv_iconst (v := 0) hx hb dMO_good_78 (by decide) ?_
      exact zr_zret hx hb hr hlk hP hS rfl h dMO_good_79
    · have h := h.2 hc
      clear hc
      refine lv_iload_n hx hb dMO_good_66 rfl (lv_at hl 3 rfl) ?_
      refine lv_if_ne (tgt := 78) hx hb dMO_good_67 rfl (fun hc => ?_) (fun hc => ?_)
      · have h := h.1 hc
        clear hc
        refine lv_iconst (v := 0) hx hb dMO_good_78 (by decide) ?_
        exact zr_zret hx hb hr hlk hP hS rfl h dMO_good_79
      · have h := h.2 hc
        clear hc
        refine lv_iload_n hx hb dMO_good_70 rfl (lv_at hl 4 rfl) ?_
        refine lv_if_ne (tgt := 78) hx hb dMO_good_71 rfl (fun hc => ?_) (fun hc => ?_)
        · have h := h.1 hc
          clear hc
          refine lv_iconst (v := 0) hx hb dMO_good_78 (by decide) ?_
          exact zr_zret hx hb hr hlk hP hS rfl h dMO_good_79
        · have h := h.2 hc
          clear hc
          refine lv_iconst (v := 1) hx hb dMO_good_74 (by decide) ?_
          refine lv_goto (tgt := 79) hx hb dMO_good_75 rfl ?_
          exact zr_zret hx hb hr hlk hP hS rfl h dMO_good_79
set_option maxHeartbeats 4000000 in
set_option maxRecDepth 100000 in
theorem zw_MO_good_33 (hM : zs_M p c cMO_good 5 s m meth args "ThriftyStoresModel" (some .boolean) g)   {K : Int32 → zs_T → Prop}   (l0 : Int32) (l1 : Int32) (l2 : Int32) (l3 : Int32) (st : zs_T) (h : zf_MO_good_33 K l0 l1 l2 l3 st) : zs_Go p l e (zs_rm 1 20) s m args below meth c g A (MQ below (zs_Qi g zs_ly zs_N A K) args s 0 0 A) 5 33 [(0, .int l0), (1, .int l1), (2, .int l2), (3, .int l3)] [] st := by
  obtain ⟨hx, hb, hml, hr, hlk, hts, hown, hK⟩ := id hM
  intro ls H locs hl hP hS
  unfold zf_MO_good_33 at h
  refine lv_iconst (v := 0) hx hb dMO_good_33 (by decide) ?_
  refine lv_goto (tgt := 53) hx hb dMO_good_34 rfl ?_
  exact zw_MO_good_53 hM  l0 l1 l2 l3 0 st h ls H locs (lv_sub hl [0, 1, 2, 3] rfl) hP hS
set_option maxHeartbeats 4000000 in
set_option maxRecDepth 100000 in
theorem zw_MO_good_52 (hM : zs_M p c cMO_good 5 s m meth args "ThriftyStoresModel" (some .boolean) g)   {K : Int32 → zs_T → Prop}   (l0 : Int32) (l1 : Int32) (l2 : Int32) (l3 : Int32) (st : zs_T) (h : zf_MO_good_52 K l0 l1 l2 l3 st) : zs_Go p l e (zs_rm 1 20) s m args below meth c g A (MQ below (zs_Qi g zs_ly zs_N A K) args s 0 0 A) 5 52 [(0, .int l0), (1, .int l1), (2, .int l2), (3, .int l3)] [] st := by
  obtain ⟨hx, hb, hml, hr, hlk, hts, hown, hK⟩ := id hM
  intro ls H locs hl hP hS
  unfold zf_MO_good_52 at h
  refine lv_iconst (v := 0) hx hb dMO_good_52 (by decide) ?_
  exact zw_MO_good_53 hM  l0 l1 l2 l3 0 st h ls H locs (lv_sub hl [0, 1, 2, 3] rfl) hP hS
set_option maxHeartbeats 4000000 in
set_option maxRecDepth 100000 in
theorem zc_MO_good (l : Launch) (g : zs_G) (A : Nat → Prop) {l0 : Int32} {l1 : Int32} {l2 : Int32} {l3 : Int32}  {st : zs_T} {K : Int32 → zs_T → Prop} (h : zf_MO_good l0 l1 l2 l3 st K) : Met l yMO_good (.code yMO_good cMO_good 5 (some .boolean) :: zs_tb) (zs_rm 1 20) (zs_Pc zs_nl g zs_ly zs_N A [.int l0, .int l1, .int l2, .int l3] st) (zs_Qi g zs_ly zs_N A K) 0 0 A := by
  refine zs_met (cc := cMO_good) (maxL := 5) (ret := (some .boolean)) (by decide) (Nat.le_of_ble_eq_true rfl) (fun p e s m below meth c hM => ?_)
  have hM : zs_M p c cMO_good 5 s m meth [.int l0, .int l1, .int l2, .int l3].toArray "ThriftyStoresModel" (some .boolean) g := hM
  obtain ⟨hx, hb, hml, hr, hlk, hts, hown, hK⟩ := id hM
  intro ls H locs hl hP hS
  have hl : lv_has ls 5 [(0, .int l0), (1, .int l1), (2, .int l2), (3, .int l3)] := hl
  unfold zf_MO_good at h
  refine lv_iload_n hx hb dMO_good_0 rfl (lv_at hl 0 rfl) ?_
  refine lv_if_lt (tgt := 10) hx hb dMO_good_1 rfl (fun hc => ?_) (fun hc => ?_)
  · have h := h.1 hc
    clear hc
    refine lv_iconst (v := 0) hx hb dMO_good_10 (by decide) ?_
    exact zr_zret hx hb hr hlk hP hS rfl h dMO_good_11
  · have h := h.2 hc
    clear hc
    refine lv_iload_n hx hb dMO_good_4 rfl (lv_at hl 0 rfl) ?_
    refine lv_bipush (v := 15) hx hb dMO_good_5 (by decide) ?_
    refine lv_icmp_le (tgt := 12) hx hb dMO_good_7 rfl (fun hc => ?_) (fun hc => ?_)
    · have h := h.1 hc
      clear hc
      refine lv_iload_n hx hb dMO_good_12 rfl (lv_at hl 0 rfl) ?_
      refine lv_bipush (v := 12) hx hb dMO_good_13 (by decide) ?_
      refine lv_icmp_ne (tgt := 37) hx hb dMO_good_15 rfl (fun hc => ?_) (fun hc => ?_)
      · have h := h.1 hc
        clear hc
        refine lv_iload_n hx hb dMO_good_37 rfl (lv_at hl 2 rfl) ?_
        refine lv_if_lt (tgt := 52) hx hb dMO_good_38 rfl (fun hc => ?_) (fun hc => ?_)
        · have h := h.1 hc
          clear hc
          exact zw_MO_good_52 hM  l0 l1 l2 l3 st h ls H locs (lv_sub hl [0, 1, 2, 3] rfl) hP hS
        · have h := h.2 hc
          clear hc
          refine lv_iload_n hx hb dMO_good_41 rfl (lv_at hl 2 rfl) ?_
          refine lv_sipush (v := 200) hx hb dMO_good_42 (by decide) ?_
          refine lv_icmp_gt (tgt := 52) hx hb dMO_good_45 rfl (fun hc => ?_) (fun hc => ?_)
          · have h := h.1 hc
            clear hc
            exact zw_MO_good_52 hM  l0 l1 l2 l3 st h ls H locs (lv_sub hl [0, 1, 2, 3] rfl) hP hS
          · have h := h.2 hc
            clear hc
            refine lv_iconst (v := 1) hx hb dMO_good_48 (by decide) ?_
            refine lv_goto (tgt := 53) hx hb dMO_good_49 rfl ?_
            exact zw_MO_good_53 hM  l0 l1 l2 l3 1 st h ls H locs (lv_sub hl [0, 1, 2, 3] rfl) hP hS
      · have h := h.2 hc
        clear hc
        refine lv_iload_n hx hb dMO_good_18 rfl (lv_at hl 1 rfl) ?_
        refine lv_if_lt (tgt := 33) hx hb dMO_good_19 rfl (fun hc => ?_) (fun hc => ?_)
        · have h := h.1 hc
          clear hc
          exact zw_MO_good_33 hM  l0 l1 l2 l3 st h ls H locs (lv_sub hl [0, 1, 2, 3] rfl) hP hS
        · have h := h.2 hc
          clear hc
          refine lv_iload_n hx hb dMO_good_22 rfl (lv_at hl 1 rfl) ?_
          refine lv_sipush (v := 200) hx hb dMO_good_23 (by decide) ?_
          refine lv_icmp_gt (tgt := 33) hx hb dMO_good_26 rfl (fun hc => ?_) (fun hc => ?_)
          · have h := h.1 hc
            clear hc
            exact zw_MO_good_33 hM  l0 l1 l2 l3 st h ls H locs (lv_sub hl [0, 1, 2, 3] rfl) hP hS
          · have h := h.2 hc
            clear hc
            refine lv_iconst (v := 1) hx hb dMO_good_29 (by decide) ?_
            refine lv_goto (tgt := 53) hx hb dMO_good_30 rfl ?_
            exact zw_MO_good_53 hM  l0 l1 l2 l3 1 st h ls H locs (lv_sub hl [0, 1, 2, 3] rfl) hP hS
    · have h := h.2 hc
      clear hc
      refine lv_iconst (v := 0) hx hb dMO_good_10 (by decide) ?_
      exact zr_zret hx hb hr hlk hP hS rfl h dMO_good_11
set_option maxHeartbeats 4000000 in
set_option maxRecDepth 100000 in
theorem zw_MO_add_38 (hM : zs_M p c cMO_add 5 s m meth args "ThriftyStoresModel" (some .int) g)   {K : Int32 → zs_T → Prop}   (l1 : Int32) (l2 : Int32) (l3 : Int32) (l4 : Int32) (s0 : Int32) (st : zs_T) (h : zf_MO_add_38 K l1 l2 l3 l4 s0 st) : zs_Go p l e (zs_rm 2 44) s m args below meth c g A (MQ below (zs_Qi g zs_ly zs_N A K) args s 0 0 A) 5 38 [(0, .ref (g.2.1 635)), (1, .int l1), (2, .int l2), (3, .int l3), (4, .int l4)] [.int s0, .ref (g.2.1 635)] st := by
  obtain ⟨hx, hb, hml, hr, hlk, hts, hown, hK⟩ := id hM
  intro ls H locs hl hP hS
  unfold zf_MO_add_38 at h
  refine zr_put hx hb hts zi_MO tyMO tyMO_ok nmMO hown hK.1 hP hS zl_635.1 zl_635.2 rfl 0 (by decide) rfl (hts _ zq_733) rfl rfl rfl dMO_add_38 (fun H locs hP hS => ?_)
  obtain ⟨t201, ez⟩ : ∃ tz : zs_T, tz = zs_i st 635 0 s0 := ⟨_, rfl⟩
  have h := h t201 ez
  have hP : zs_P g zs_ly zs_N A t201 H := by rw [ez]; exact hP
  clear ez
  refine lv_aload_n hx hb dMO_add_41 rfl (lv_at hl 0 rfl) ?_
  refine zr_geti hx hb hts zi_MO hown hK.1 hP zl_635.1 zl_635.2 rfl 0 (by decide) rfl (hts _ zq_733) dMO_add_42 ?_
  refine lv_if_le (tgt := 50) hx hb dMO_add_45 rfl (fun hc => ?_) (fun hc => ?_)
  · have h := h.1 hc
    clear hc
    refine lv_aload_n hx hb dMO_add_50 rfl (lv_at hl 0 rfl) ?_
    refine zr_getr (b := 636) hx hb hts zi_MO hown hK.1 hP zl_635.1 zl_635.2 rfl 1 (by decide) rfl (hts _ zq_734) dMO_add_51 ?_
    refine lv_aload_n hx hb dMO_add_54 rfl (lv_at hl 0 rfl) ?_
    refine zr_geti hx hb hts zi_MO hown hK.1 hP zl_635.1 zl_635.2 rfl 5 (by decide) rfl (hts _ zq_738) dMO_add_55 ?_
    refine lv_iload_n hx hb dMO_add_58 rfl (lv_at hl 1 rfl) ?_
    obtain ⟨hi202, h⟩ := h
    refine zr_iast hx hb hK.1 hP hS zl_636.1 zl_636.2 hi202 dMO_add_59 (fun H locs hP hS => ?_)
    obtain ⟨t203, ez⟩ : ∃ tz : zs_T, tz = zs_i t201 636 (t201.1 635 5).toNatClampNeg l1 := ⟨_, rfl⟩
    have h := h t203 ez
    have hP : zs_P g zs_ly zs_N A t203 H := by rw [ez]; exact hP
    clear ez
    refine lv_aload_n hx hb dMO_add_60 rfl (lv_at hl 0 rfl) ?_
    refine zr_getr (b := 637) hx hb hts zi_MO hown hK.1 hP zl_635.1 zl_635.2 rfl 2 (by decide) rfl (hts _ zq_735) dMO_add_61 ?_
    refine lv_aload_n hx hb dMO_add_64 rfl (lv_at hl 0 rfl) ?_
    refine zr_geti hx hb hts zi_MO hown hK.1 hP zl_635.1 zl_635.2 rfl 5 (by decide) rfl (hts _ zq_738) dMO_add_65 ?_
    refine lv_iload_n hx hb dMO_add_68 rfl (lv_at hl 2 rfl) ?_
    obtain ⟨hi204, h⟩ := h
    refine zr_iast hx hb hK.1 hP hS zl_637.1 zl_637.2 hi204 dMO_add_69 (fun H locs hP hS => ?_)
    obtain ⟨t205, ez⟩ : ∃ tz : zs_T, tz = zs_i t203 637 (t203.1 635 5).toNatClampNeg l2 := ⟨_, rfl⟩
    have h := h t205 ez
    have hP : zs_P g zs_ly zs_N A t205 H := by rw [ez]; exact hP
    clear ez
    refine lv_aload_n hx hb dMO_add_70 rfl (lv_at hl 0 rfl) ?_
    refine zr_getr (b := 638) hx hb hts zi_MO hown hK.1 hP zl_635.1 zl_635.2 rfl 3 (by decide) rfl (hts _ zq_736) dMO_add_71 ?_
    refine lv_aload_n hx hb dMO_add_74 rfl (lv_at hl 0 rfl) ?_
    refine zr_geti hx hb hts zi_MO hown hK.1 hP zl_635.1 zl_635.2 rfl 5 (by decide) rfl (hts _ zq_738) dMO_add_75 ?_
    refine lv_iload_n hx hb dMO_add_78 rfl (lv_at hl 3 rfl) ?_
    obtain ⟨hi206, h⟩ := h
    refine zr_iast hx hb hK.1 hP hS zl_638.1 zl_638.2 hi206 dMO_add_79 (fun H locs hP hS => ?_)
    obtain ⟨t207, ez⟩ : ∃ tz : zs_T, tz = zs_i t205 638 (t205.1 635 5).toNatClampNeg l3 := ⟨_, rfl⟩
    have h := h t207 ez
    have hP : zs_P g zs_ly zs_N A t207 H := by rw [ez]; exact hP
    clear ez
    refine lv_aload_n hx hb dMO_add_80 rfl (lv_at hl 0 rfl) ?_
    refine zr_getr (b := 639) hx hb hts zi_MO hown hK.1 hP zl_635.1 zl_635.2 rfl 4 (by decide) rfl (hts _ zq_737) dMO_add_81 ?_
    refine lv_aload_n hx hb dMO_add_84 rfl (lv_at hl 0 rfl) ?_
    refine zr_geti hx hb hts zi_MO hown hK.1 hP zl_635.1 zl_635.2 rfl 5 (by decide) rfl (hts _ zq_738) dMO_add_85 ?_
    refine lv_iload hx hb dMO_add_88 (lv_at hl 4 rfl) ?_
    obtain ⟨hi208, h⟩ := h
    refine zr_iast hx hb hK.1 hP hS zl_639.1 zl_639.2 hi208 dMO_add_90 (fun H locs hP hS => ?_)
    obtain ⟨t209, ez⟩ : ∃ tz : zs_T, tz = zs_i t207 639 (t207.1 635 5).toNatClampNeg l4 := ⟨_, rfl⟩
    have h := h t209 ez
    have hP : zs_P g zs_ly zs_N A t209 H := by rw [ez]; exact hP
    clear ez
    refine lv_aload_n hx hb dMO_add_91 rfl (lv_at hl 0 rfl) ?_
    refine lv_dup hx hb dMO_add_92 rfl ?_
    refine zr_geti hx hb hts zi_MO hown hK.1 hP zl_635.1 zl_635.2 rfl 5 (by decide) rfl (hts _ zq_738) dMO_add_93 ?_
    refine lv_iconst (v := 1) hx hb dMO_add_96 (by decide) ?_
    refine lv_iadd hx hb dMO_add_97 ?_
    refine zr_put hx hb hts zi_MO tyMO tyMO_ok nmMO hown hK.1 hP hS zl_635.1 zl_635.2 rfl 5 (by decide) rfl (hts _ zq_738) rfl rfl rfl dMO_add_98 (fun H locs hP hS => ?_)
    obtain ⟨t210, ez⟩ : ∃ tz : zs_T, tz = zs_i t209 635 5 ((t209.1 635 5) + 1) := ⟨_, rfl⟩
    have h := h t210 ez
    have hP : zs_P g zs_ly zs_N A t210 H := by rw [ez]; exact hP
    clear ez
    refine lv_aload_n hx hb dMO_add_101 rfl (lv_at hl 0 rfl) ?_
    refine zr_geti hx hb hts zi_MO hown hK.1 hP zl_635.1 zl_635.2 rfl 5 (by decide) rfl (hts _ zq_738) dMO_add_102 ?_
    refine lv_iconst (v := 1) hx hb dMO_add_105 (by decide) ?_
    refine lv_isub hx hb dMO_add_106 ?_
    exact zr_iret hx hb hr hlk hP hS h dMO_add_107
  · have h := h.2 hc
    clear hc
    refine lv_iconst (v := 0) hx hb dMO_add_48 (by decide) ?_
    exact zr_iret hx hb hr hlk hP hS h dMO_add_49
set_option maxHeartbeats 4000000 in
set_option maxRecDepth 100000 in
theorem zw_MO_add_33 (hM : zs_M p c cMO_add 5 s m meth args "ThriftyStoresModel" (some .int) g)   {K : Int32 → zs_T → Prop}   (l1 : Int32) (l2 : Int32) (l3 : Int32) (l4 : Int32) (st : zs_T) (h : zf_MO_add_33 K l1 l2 l3 l4 st) : zs_Go p l e (zs_rm 2 44) s m args below meth c g A (MQ below (zs_Qi g zs_ly zs_N A K) args s 0 0 A) 5 33 [(0, .ref (g.2.1 635)), (1, .int l1), (2, .int l2), (3, .int l3), (4, .int l4)] [.ref (g.2.1 635)] st := by
  obtain ⟨hx, hb, hml, hr, hlk, hts, hown, hK⟩ := id hM
  intro ls H locs hl hP hS
  unfold zf_MO_add_33 at h
  refine lv_iconst (v := 2) hx hb dMO_add_33 (by decide) ?_
  refine lv_goto (tgt := 38) hx hb dMO_add_34 rfl ?_
  exact zw_MO_add_38 hM  l1 l2 l3 l4 2 st h ls H locs (lv_sub hl [0, 1, 2, 3, 4] rfl) hP hS
set_option maxHeartbeats 4000000 in
set_option maxRecDepth 100000 in
theorem zc_MO_add (l : Launch) (g : zs_G) (A : Nat → Prop) {l1 : Int32} {l2 : Int32} {l3 : Int32} {l4 : Int32}  {st : zs_T} {K : Int32 → zs_T → Prop} (h : zf_MO_add l1 l2 l3 l4 st K) : Met l yMO_add (.code yMO_add cMO_add 5 (some .int) :: zs_tb) (zs_rm 2 44) (zs_Pc zs_nl g zs_ly zs_N A [.ref (g.2.1 635), .int l1, .int l2, .int l3, .int l4] st) (zs_Qi g zs_ly zs_N A K) 0 0 A := by
  refine zs_met (cc := cMO_add) (maxL := 5) (ret := (some .int)) (by decide) (Nat.le_of_ble_eq_true rfl) (fun p e s m below meth c hM => ?_)
  have hM : zs_M p c cMO_add 5 s m meth [.ref (g.2.1 635), .int l1, .int l2, .int l3, .int l4].toArray "ThriftyStoresModel" (some .int) g := hM
  obtain ⟨hx, hb, hml, hr, hlk, hts, hown, hK⟩ := id hM
  intro ls H locs hl hP hS
  have hl : lv_has ls 5 [(0, .ref (g.2.1 635)), (1, .int l1), (2, .int l2), (3, .int l3), (4, .int l4)] := hl
  unfold zf_MO_add at h
  refine lv_aload_n hx hb dMO_add_0 rfl (lv_at hl 0 rfl) ?_
  refine lv_iload_n hx hb dMO_add_1 rfl (lv_at hl 1 rfl) ?_
  refine lv_iload_n hx hb dMO_add_2 rfl (lv_at hl 2 rfl) ?_
  refine lv_iload_n hx hb dMO_add_3 rfl (lv_at hl 3 rfl) ?_
  refine lv_iload hx hb dMO_add_4 (lv_at hl 4 rfl) ?_
  refine zr_calli (va_runS (As := [.int l1, .int l2, .int l3, .int l4]) (rest := [.ref (g.2.1 635)]) ⟨hx, hb, hml, hown, hts⟩ (zc_MO_good l g A  h) (va_cwS 4 hts (zs_gS zq_835 zq_836 zq_8 zq_837) rfl rfl rfl ⟨by decide, by decide, by decide +kernel⟩ ⟨Nat.le_of_ble_eq_true rfl, Nat.le_of_ble_eq_true rfl⟩) (zs_preS zs_nwk hK hP) rfl rfl hl.1 rfl (lv_room (Nat.le_of_ble_eq_true rfl)) dMO_add_6 ⟨Nat.le_refl _, Nat.le_refl _⟩) hS (fun r2 u1 H locs h hP hS => ?_)
  refine lv_if_ne (tgt := 16) hx hb dMO_add_9 rfl (fun hc => ?_) (fun hc => ?_)
  · have h := h.1 hc
    clear hc
    refine lv_aload_n hx hb dMO_add_16 rfl (lv_at hl 0 rfl) ?_
    refine zr_geti hx hb hts zi_MO hown hK.1 hP zl_635.1 zl_635.2 rfl 5 (by decide) rfl (hts _ zq_738) dMO_add_17 ?_
    refine lv_sipush (v := 200) hx hb dMO_add_20 (by decide) ?_
    refine lv_icmp_eq (tgt := 33) hx hb dMO_add_23 rfl (fun hc => ?_) (fun hc => ?_)
    · have h := h.1 hc
      clear hc
      exact zw_MO_add_33 hM  l1 l2 l3 l4 u1 h ls H locs (lv_sub hl [0, 1, 2, 3, 4] rfl) hP hS
    · have h := h.2 hc
      clear hc
      refine lv_aload_n hx hb dMO_add_26 rfl (lv_at hl 0 rfl) ?_
      refine zr_geti hx hb hts zi_MO hown hK.1 hP zl_635.1 zl_635.2 rfl 6 (by decide) rfl (hts _ zq_739) dMO_add_27 ?_
      refine lv_if_eq (tgt := 37) hx hb dMO_add_30 rfl (fun hc => ?_) (fun hc => ?_)
      · have h := h.1 hc
        clear hc
        refine lv_iconst (v := 0) hx hb dMO_add_37 (by decide) ?_
        exact zw_MO_add_38 hM  l1 l2 l3 l4 0 u1 h ls H locs (lv_sub hl [0, 1, 2, 3, 4] rfl) hP hS
      · have h := h.2 hc
        clear hc
        exact zw_MO_add_33 hM  l1 l2 l3 l4 u1 h ls H locs (lv_sub hl [0, 1, 2, 3, 4] rfl) hP hS
  · have h := h.2 hc
    clear hc
    refine lv_iconst (v := 1) hx hb dMO_add_12 (by decide) ?_
    refine lv_goto (tgt := 38) hx hb dMO_add_13 rfl ?_
    exact zw_MO_add_38 hM  l1 l2 l3 l4 1 u1 h ls H locs (lv_sub hl [0, 1, 2, 3, 4] rfl) hP hS
set_option maxHeartbeats 4000000 in
set_option maxRecDepth 100000 in
theorem zc_MO_clear (l : Launch) (g : zs_G) (A : Nat → Prop)   {st : zs_T} {K : Int32 → zs_T → Prop} (h : zf_MO_clear  st K) : Met l yMO_clear (.code yMO_clear cMO_clear 2 (some .int) :: zs_tb) (zs_rm 0 0) (zs_Pc zs_nl g zs_ly zs_N A [.ref (g.2.1 635)] st) (zs_Qi g zs_ly zs_N A K) 0 0 A := by
  refine zs_met (cc := cMO_clear) (maxL := 2) (ret := (some .int)) (by decide) (Nat.le_of_ble_eq_true rfl) (fun p e s m below meth c hM => ?_)
  have hM : zs_M p c cMO_clear 2 s m meth [.ref (g.2.1 635)].toArray "ThriftyStoresModel" (some .int) g := hM
  obtain ⟨hx, hb, hml, hr, hlk, hts, hown, hK⟩ := id hM
  intro ls H locs hl hP hS
  have hl : lv_has ls 2 [(0, .ref (g.2.1 635))] := hl
  unfold zf_MO_clear at h
  refine lv_aload_n hx hb dMO_clear_0 rfl (lv_at hl 0 rfl) ?_
  refine lv_iconst (v := 0) hx hb dMO_clear_1 (by decide) ?_
  refine zr_put hx hb hts zi_MO tyMO tyMO_ok nmMO hown hK.1 hP hS zl_635.1 zl_635.2 rfl 0 (by decide) rfl (hts _ zq_733) rfl rfl rfl dMO_clear_2 (fun H locs hP hS => ?_)
  obtain ⟨t1, ez⟩ : ∃ tz : zs_T, tz = zs_i st 635 0 0 := ⟨_, rfl⟩
  have h := h t1 ez
  have hP : zs_P g zs_ly zs_N A t1 H := by rw [ez]; exact hP
  clear ez
  refine lv_aload_n hx hb dMO_clear_5 rfl (lv_at hl 0 rfl) ?_
  refine zr_geti hx hb hts zi_MO hown hK.1 hP zl_635.1 zl_635.2 rfl 5 (by decide) rfl (hts _ zq_738) dMO_clear_6 ?_
  refine lv_istore_n hx hb dMO_clear_9 rfl hl (by decide) rfl (fun ls hl => ?_)
  have hl : lv_has ls 2 [(1, .int (t1.1 635 5)), (0, .ref (g.2.1 635))] := hl
  refine lv_aload_n hx hb dMO_clear_10 rfl (lv_at hl 1 rfl) ?_
  refine lv_iconst (v := 0) hx hb dMO_clear_11 (by decide) ?_
  refine zr_put hx hb hts zi_MO tyMO tyMO_ok nmMO hown hK.1 hP hS zl_635.1 zl_635.2 rfl 5 (by decide) rfl (hts _ zq_738) rfl rfl rfl dMO_clear_12 (fun H locs hP hS => ?_)
  obtain ⟨t2, ez⟩ : ∃ tz : zs_T, tz = zs_i t1 635 5 0 := ⟨_, rfl⟩
  have h := h t2 ez
  have hP : zs_P g zs_ly zs_N A t2 H := by rw [ez]; exact hP
  clear ez
  refine lv_aload_n hx hb dMO_clear_15 rfl (lv_at hl 1 rfl) ?_
  refine lv_iconst (v := 0) hx hb dMO_clear_16 (by decide) ?_
  refine zr_put hx hb hts zi_MO tyMO tyMO_ok nmMO hown hK.1 hP hS zl_635.1 zl_635.2 rfl 6 (by decide) rfl (hts _ zq_739) rfl rfl rfl dMO_clear_17 (fun H locs hP hS => ?_)
  obtain ⟨t3, ez⟩ : ∃ tz : zs_T, tz = zs_i t2 635 6 0 := ⟨_, rfl⟩
  have h := h t3 ez
  have hP : zs_P g zs_ly zs_N A t3 H := by rw [ez]; exact hP
  clear ez
  refine lv_iload_n hx hb dMO_clear_20 rfl (lv_at hl 0 rfl) ?_
  exact zr_iret hx hb hr hlk hP hS h dMO_clear_21
set_option maxHeartbeats 4000000 in
set_option maxRecDepth 100000 in
theorem zc_MO_sets (l : Launch) (g : zs_G) (A : Nat → Prop) {l1 : Int32}  {st : zs_T} {K : Int32 → zs_T → Prop} (h : zf_MO_sets l1 st K) : Met l yMO_sets (.code yMO_sets cMO_sets 2 (some .boolean) :: zs_tb) (zs_rm 0 0) (zs_Pc zs_nl g zs_ly zs_N A [.ref (g.2.1 635), .int l1] st) (zs_Qi g zs_ly zs_N A K) 0 0 A := by
  refine zs_met (cc := cMO_sets) (maxL := 2) (ret := (some .boolean)) (by decide) (Nat.le_of_ble_eq_true rfl) (fun p e s m below meth c hM => ?_)
  have hM : zs_M p c cMO_sets 2 s m meth [.ref (g.2.1 635), .int l1].toArray "ThriftyStoresModel" (some .boolean) g := hM
  obtain ⟨hx, hb, hml, hr, hlk, hts, hown, hK⟩ := id hM
  intro ls H locs hl hP hS
  have hl : lv_has ls 2 [(0, .ref (g.2.1 635)), (1, .int l1)] := hl
  unfold zf_MO_sets at h
  refine lv_aload_n hx hb dMO_sets_0 rfl (lv_at hl 0 rfl) ?_
  refine zr_getr (b := 636) hx hb hts zi_MO hown hK.1 hP zl_635.1 zl_635.2 rfl 1 (by decide) rfl (hts _ zq_734) dMO_sets_1 ?_
  refine lv_aload_n hx hb dMO_sets_4 rfl (lv_at hl 0 rfl) ?_
  refine zr_geti hx hb hts zi_MO hown hK.1 hP zl_635.1 zl_635.2 rfl 9 (by decide) rfl (hts _ zq_742) dMO_sets_5 ?_
  refine lv_iload_n hx hb dMO_sets_8 rfl (lv_at hl 1 rfl) ?_
  refine lv_iadd hx hb dMO_sets_9 ?_
  obtain ⟨hi1, h⟩ := h
  refine zr_iald hx hb hK.1 hP zl_636.1 zl_636.2 hi1 dMO_sets_10 ?_
  refine lv_bipush (v := 10) hx hb dMO_sets_11 (by decide) ?_
  refine lv_icmp_ge (tgt := 20) hx hb dMO_sets_13 rfl (fun hc => ?_) (fun hc => ?_)
  · have h := h.1 hc
    clear hc
    refine lv_iconst (v := 0) hx hb dMO_sets_20 (by decide) ?_
    exact zr_zret hx hb hr hlk hP hS rfl h dMO_sets_21
  · have h := h.2 hc
    clear hc
    refine lv_iconst (v := 1) hx hb dMO_sets_16 (by decide) ?_
    refine lv_goto (tgt := 21) hx hb dMO_sets_17 rfl ?_
    exact zr_zret hx hb hr hlk hP hS rfl h dMO_sets_21
set_option maxHeartbeats 4000000 in
set_option maxRecDepth 100000 in
theorem zw_MO_next_84 (hM : zs_M p c cMO_next 4 s m meth args "ThriftyStoresModel" (some .int) g)   {K : Int32 → zs_T → Prop}   (l1 : Int32) (l2 : Int32) (s0 : Int32) (st : zs_T) (h : zf_MO_next_84 K l1 l2 s0 st) : zs_Go p l e (zs_rm 0 0) s m args below meth c g A (MQ below (zs_Qi g zs_ly zs_N A K) args s 0 0 A) 4 84 [(0, .ref (g.2.1 635)), (1, .int l1), (2, .int l2)] [.int s0] st := by
  obtain ⟨hx, hb, hml, hr, hlk, hts, hown, hK⟩ := id hM
  intro ls H locs hl hP hS
  unfold zf_MO_next_84 at h
  refine lv_istore_n hx hb dMO_next_84 rfl hl (by decide) rfl (fun ls hl => ?_)
  have hl : lv_has ls 4 [(3, .int s0), (0, .ref (g.2.1 635)), (1, .int l1), (2, .int l2)] := hl
  refine lv_iload_n hx hb dMO_next_85 rfl (lv_at hl 3 rfl) ?_
  refine lv_if_ne (tgt := 113) hx hb dMO_next_86 rfl (fun hc => ?_) (fun hc => ?_)
  · have h := h.1 hc
    clear hc
    refine lv_aload_n hx hb dMO_next_113 rfl (lv_at hl 1 rfl) ?_
    refine zr_getr (b := 636) hx hb hts zi_MO hown hK.1 hP zl_635.1 zl_635.2 rfl 1 (by decide) rfl (hts _ zq_734) dMO_next_114 ?_
    refine lv_aload_n hx hb dMO_next_117 rfl (lv_at hl 1 rfl) ?_
    refine zr_geti hx hb hts zi_MO hown hK.1 hP zl_635.1 zl_635.2 rfl 9 (by decide) rfl (hts _ zq_742) dMO_next_118 ?_
    refine lv_iload_n hx hb dMO_next_121 rfl (lv_at hl 2 rfl) ?_
    refine lv_iadd hx hb dMO_next_122 ?_
    obtain ⟨hi201, h⟩ := h
    refine zr_iald hx hb hK.1 hP zl_636.1 zl_636.2 hi201 dMO_next_123 ?_
    refine lv_bipush (v := 13) hx hb dMO_next_124 (by decide) ?_
    refine lv_icmp_ne (tgt := 133) hx hb dMO_next_126 rfl (fun hc => ?_) (fun hc => ?_)
    · have h := h.1 hc
      clear hc
      refine lv_iconst (v := (-1)) hx hb dMO_next_133 (by decide) ?_
      exact zr_iret hx hb hr hlk hP hS h dMO_next_134
    · have h := h.2 hc
      clear hc
      refine lv_iload_n hx hb dMO_next_129 rfl (lv_at hl 0 rfl) ?_
      refine lv_goto (tgt := 134) hx hb dMO_next_130 rfl ?_
      exact zr_iret hx hb hr hlk hP hS h dMO_next_134
  · have h := h.2 hc
    clear hc
    refine lv_aload_n hx hb dMO_next_89 rfl (lv_at hl 1 rfl) ?_
    refine zr_getr (b := 636) hx hb hts zi_MO hown hK.1 hP zl_635.1 zl_635.2 rfl 1 (by decide) rfl (hts _ zq_734) dMO_next_90 ?_
    refine lv_aload_n hx hb dMO_next_93 rfl (lv_at hl 1 rfl) ?_
    refine zr_geti hx hb hts zi_MO hown hK.1 hP zl_635.1 zl_635.2 rfl 9 (by decide) rfl (hts _ zq_742) dMO_next_94 ?_
    refine lv_iload_n hx hb dMO_next_97 rfl (lv_at hl 2 rfl) ?_
    refine lv_iadd hx hb dMO_next_98 ?_
    obtain ⟨hi202, h⟩ := h
    refine zr_iald hx hb hK.1 hP zl_636.1 zl_636.2 hi202 dMO_next_99 ?_
    refine lv_bipush (v := 12) hx hb dMO_next_100 (by decide) ?_
    refine lv_icmp_ne (tgt := 109) hx hb dMO_next_102 rfl (fun hc => ?_) (fun hc => ?_)
    · have h := h.1 hc
      clear hc
      refine lv_iload_n hx hb dMO_next_109 rfl (lv_at hl 2 rfl) ?_
      refine lv_iconst (v := 1) hx hb dMO_next_110 (by decide) ?_
      refine lv_iadd hx hb dMO_next_111 ?_
      exact zr_iret hx hb hr hlk hP hS h dMO_next_112
    · have h := h.2 hc
      clear hc
      refine lv_iload_n hx hb dMO_next_105 rfl (lv_at hl 0 rfl) ?_
      refine lv_goto (tgt := 112) hx hb dMO_next_106 rfl ?_
      exact zr_iret hx hb hr hlk hP hS h dMO_next_112
set_option maxHeartbeats 4000000 in
set_option maxRecDepth 100000 in
theorem zw_MO_next_67 (hM : zs_M p c cMO_next 4 s m meth args "ThriftyStoresModel" (some .int) g)   {K : Int32 → zs_T → Prop}   (l1 : Int32) (l2 : Int32) (s0 : Int32) (st : zs_T) (h : zf_MO_next_67 K l1 l2 s0 st) : zs_Go p l e (zs_rm 0 0) s m args below meth c g A (MQ below (zs_Qi g zs_ly zs_N A K) args s 0 0 A) 4 67 [(0, .ref (g.2.1 635)), (1, .int l1), (2, .int l2)] [.int s0] st := by
  obtain ⟨hx, hb, hml, hr, hlk, hts, hown, hK⟩ := id hM
  intro ls H locs hl hP hS
  unfold zf_MO_next_67 at h
  refine lv_istore_n hx hb dMO_next_67 rfl hl (by decide) rfl (fun ls hl => ?_)
  have hl : lv_has ls 4 [(3, .int s0), (0, .ref (g.2.1 635)), (1, .int l1), (2, .int l2)] := hl
  refine lv_iload_n hx hb dMO_next_68 rfl (lv_at hl 0 rfl) ?_
  refine lv_aload_n hx hb dMO_next_69 rfl (lv_at hl 1 rfl) ?_
  refine zr_geti hx hb hts zi_MO hown hK.1 hP zl_635.1 zl_635.2 rfl 5 (by decide) rfl (hts _ zq_738) dMO_next_70 ?_
  refine lv_icmp_le (tgt := 83) hx hb dMO_next_73 rfl (fun hc => ?_) (fun hc => ?_)
  · have h := h.1 hc
    clear hc
    refine lv_iload_n hx hb dMO_next_83 rfl (lv_at hl 0 rfl) ?_
    exact zw_MO_next_84 hM  l1 l2 s0 st h ls H locs (lv_sub hl [1, 2, 3] rfl) hP hS
  · have h := h.2 hc
    clear hc
    refine lv_aload_n hx hb dMO_next_76 rfl (lv_at hl 1 rfl) ?_
    refine zr_geti hx hb hts zi_MO hown hK.1 hP zl_635.1 zl_635.2 rfl 5 (by decide) rfl (hts _ zq_738) dMO_next_77 ?_
    refine lv_goto (tgt := 84) hx hb dMO_next_80 rfl ?_
    exact zw_MO_next_84 hM  l1 l2 (st.1 635 5) st h ls H locs (lv_sub hl [1, 2, 3] rfl) hP hS
set_option maxHeartbeats 4000000 in
set_option maxRecDepth 100000 in
theorem zc_MO_next (l : Launch) (g : zs_G) (A : Nat → Prop) {l1 : Int32} {l2 : Int32}  {st : zs_T} {K : Int32 → zs_T → Prop} (h : zf_MO_next l1 l2 st K) : Met l yMO_next (.code yMO_next cMO_next 4 (some .int) :: zs_tb) (zs_rm 0 0) (zs_Pc zs_nl g zs_ly zs_N A [.ref (g.2.1 635), .int l1, .int l2] st) (zs_Qi g zs_ly zs_N A K) 0 0 A := by
  refine zs_met (cc := cMO_next) (maxL := 4) (ret := (some .int)) (by decide) (Nat.le_of_ble_eq_true rfl) (fun p e s m below meth c hM => ?_)
  have hM : zs_M p c cMO_next 4 s m meth [.ref (g.2.1 635), .int l1, .int l2].toArray "ThriftyStoresModel" (some .int) g := hM
  obtain ⟨hx, hb, hml, hr, hlk, hts, hown, hK⟩ := id hM
  intro ls H locs hl hP hS
  have hl : lv_has ls 4 [(0, .ref (g.2.1 635)), (1, .int l1), (2, .int l2)] := hl
  unfold zf_MO_next at h
  refine lv_iload_n hx hb dMO_next_0 rfl (lv_at hl 1 rfl) ?_
  refine lv_aload_n hx hb dMO_next_1 rfl (lv_at hl 0 rfl) ?_
  refine zr_geti hx hb hts zi_MO hown hK.1 hP zl_635.1 zl_635.2 rfl 5 (by decide) rfl (hts _ zq_738) dMO_next_2 ?_
  refine lv_icmp_eq (tgt := 24) hx hb dMO_next_5 rfl (fun hc => ?_) (fun hc => ?_)
  · have h := h.1 hc
    clear hc
    refine lv_iconst (v := (-1)) hx hb dMO_next_24 (by decide) ?_
    exact zr_iret hx hb hr hlk hP hS h dMO_next_25
  · have h := h.2 hc
    clear hc
    refine lv_aload_n hx hb dMO_next_8 rfl (lv_at hl 0 rfl) ?_
    refine zr_getr (b := 636) hx hb hts zi_MO hown hK.1 hP zl_635.1 zl_635.2 rfl 1 (by decide) rfl (hts _ zq_734) dMO_next_9 ?_
    refine lv_aload_n hx hb dMO_next_12 rfl (lv_at hl 0 rfl) ?_
    refine zr_geti hx hb hts zi_MO hown hK.1 hP zl_635.1 zl_635.2 rfl 9 (by decide) rfl (hts _ zq_742) dMO_next_13 ?_
    refine lv_iload_n hx hb dMO_next_16 rfl (lv_at hl 1 rfl) ?_
    refine lv_iadd hx hb dMO_next_17 ?_
    obtain ⟨hi1, h⟩ := h
    refine zr_iald hx hb hK.1 hP zl_636.1 zl_636.2 hi1 dMO_next_18 ?_
    refine lv_bipush (v := 14) hx hb dMO_next_19 (by decide) ?_
    refine lv_icmp_ne (tgt := 26) hx hb dMO_next_21 rfl (fun hc => ?_) (fun hc => ?_)
    · have h := h.1 hc
      clear hc
      refine lv_aload_n hx hb dMO_next_26 rfl (lv_at hl 0 rfl) ?_
      refine zr_getr (b := 636) hx hb hts zi_MO hown hK.1 hP zl_635.1 zl_635.2 rfl 1 (by decide) rfl (hts _ zq_734) dMO_next_27 ?_
      refine lv_aload_n hx hb dMO_next_30 rfl (lv_at hl 0 rfl) ?_
      refine zr_geti hx hb hts zi_MO hown hK.1 hP zl_635.1 zl_635.2 rfl 9 (by decide) rfl (hts _ zq_742) dMO_next_31 ?_
      refine lv_iload_n hx hb dMO_next_34 rfl (lv_at hl 1 rfl) ?_
      refine lv_iadd hx hb dMO_next_35 ?_
      obtain ⟨hi2, h⟩ := h
      refine zr_iald hx hb hK.1 hP zl_636.1 zl_636.2 hi2 dMO_next_36 ?_
      refine lv_bipush (v := 12) hx hb dMO_next_37 (by decide) ?_
      refine lv_icmp_ne (tgt := 56) hx hb dMO_next_39 rfl (fun hc => ?_) (fun hc => ?_)
      · have h := h.1 hc
        clear hc
        refine lv_aload_n hx hb dMO_next_56 rfl (lv_at hl 0 rfl) ?_
        refine zr_getr (b := 638) hx hb hts zi_MO hown hK.1 hP zl_635.1 zl_635.2 rfl 3 (by decide) rfl (hts _ zq_736) dMO_next_57 ?_
        refine lv_aload_n hx hb dMO_next_60 rfl (lv_at hl 0 rfl) ?_
        refine zr_geti hx hb hts zi_MO hown hK.1 hP zl_635.1 zl_635.2 rfl 9 (by decide) rfl (hts _ zq_742) dMO_next_61 ?_
        refine lv_iload_n hx hb dMO_next_64 rfl (lv_at hl 1 rfl) ?_
        refine lv_iadd hx hb dMO_next_65 ?_
        obtain ⟨hi3, h⟩ := h
        refine zr_iald hx hb hK.1 hP zl_638.1 zl_638.2 hi3 dMO_next_66 ?_
        exact zw_MO_next_67 hM  l1 l2 (st.1 638 ((st.1 635 9) + l1).toNatClampNeg) st h ls H locs (lv_sub hl [0, 1, 2] rfl) hP hS
      · have h := h.2 hc
        clear hc
        refine lv_aload_n hx hb dMO_next_42 rfl (lv_at hl 0 rfl) ?_
        refine zr_getr (b := 637) hx hb hts zi_MO hown hK.1 hP zl_635.1 zl_635.2 rfl 2 (by decide) rfl (hts _ zq_735) dMO_next_43 ?_
        refine lv_aload_n hx hb dMO_next_46 rfl (lv_at hl 0 rfl) ?_
        refine zr_geti hx hb hts zi_MO hown hK.1 hP zl_635.1 zl_635.2 rfl 9 (by decide) rfl (hts _ zq_742) dMO_next_47 ?_
        refine lv_iload_n hx hb dMO_next_50 rfl (lv_at hl 1 rfl) ?_
        refine lv_iadd hx hb dMO_next_51 ?_
        obtain ⟨hi4, h⟩ := h
        refine zr_iald hx hb hK.1 hP zl_637.1 zl_637.2 hi4 dMO_next_52 ?_
        refine lv_goto (tgt := 67) hx hb dMO_next_53 rfl ?_
        exact zw_MO_next_67 hM  l1 l2 (st.1 637 ((st.1 635 9) + l1).toNatClampNeg) st h ls H locs (lv_sub hl [0, 1, 2] rfl) hP hS
    · have h := h.2 hc
      clear hc
      refine lv_iconst (v := (-1)) hx hb dMO_next_24 (by decide) ?_
      exact zr_iret hx hb hr hlk hP hS h dMO_next_25
set_option maxHeartbeats 4000000 in
set_option maxRecDepth 100000 in
theorem zc_MO_size (l : Launch) (g : zs_G) (A : Nat → Prop)   {st : zs_T} {K : Int32 → zs_T → Prop} (h : zf_MO_size  st K) : Met l yMO_size (.code yMO_size cMO_size 1 (some .int) :: zs_tb) (zs_rm 0 0) (zs_Pc zs_nl g zs_ly zs_N A [.ref (g.2.1 635)] st) (zs_Qi g zs_ly zs_N A K) 0 0 A := by
  refine zs_met (cc := cMO_size) (maxL := 1) (ret := (some .int)) (by decide) (Nat.le_of_ble_eq_true rfl) (fun p e s m below meth c hM => ?_)
  have hM : zs_M p c cMO_size 1 s m meth [.ref (g.2.1 635)].toArray "ThriftyStoresModel" (some .int) g := hM
  obtain ⟨hx, hb, hml, hr, hlk, hts, hown, hK⟩ := id hM
  intro ls H locs hl hP hS
  have hl : lv_has ls 1 [(0, .ref (g.2.1 635))] := hl
  unfold zf_MO_size at h
  refine lv_aload_n hx hb dMO_size_0 rfl (lv_at hl 0 rfl) ?_
  refine lv_iconst (v := 0) hx hb dMO_size_1 (by decide) ?_
  refine zr_put hx hb hts zi_MO tyMO tyMO_ok nmMO hown hK.1 hP hS zl_635.1 zl_635.2 rfl 0 (by decide) rfl (hts _ zq_733) rfl rfl rfl dMO_size_2 (fun H locs hP hS => ?_)
  obtain ⟨t1, ez⟩ : ∃ tz : zs_T, tz = zs_i st 635 0 0 := ⟨_, rfl⟩
  have h := h t1 ez
  have hP : zs_P g zs_ly zs_N A t1 H := by rw [ez]; exact hP
  clear ez
  refine lv_aload_n hx hb dMO_size_5 rfl (lv_at hl 0 rfl) ?_
  refine zr_geti hx hb hts zi_MO hown hK.1 hP zl_635.1 zl_635.2 rfl 5 (by decide) rfl (hts _ zq_738) dMO_size_6 ?_
  exact zr_iret hx hb hr hlk hP hS h dMO_size_9
set_option maxHeartbeats 4000000 in
set_option maxRecDepth 100000 in
theorem zc_MO_no (l : Launch) (g : zs_G) (A : Nat → Prop) {l1 : Int32}  {st : zs_T} {K : Int32 → zs_T → Prop} (h : zf_MO_no l1 st K) : Met l yMO_no (.code yMO_no cMO_no 2 (some .boolean) :: zs_tb) (zs_rm 0 0) (zs_Pc zs_nl g zs_ly zs_N A [.ref (g.2.1 635), .int l1] st) (zs_Qi g zs_ly zs_N A K) 0 0 A := by
  refine zs_met (cc := cMO_no) (maxL := 2) (ret := (some .boolean)) (by decide) (Nat.le_of_ble_eq_true rfl) (fun p e s m below meth c hM => ?_)
  have hM : zs_M p c cMO_no 2 s m meth [.ref (g.2.1 635), .int l1].toArray "ThriftyStoresModel" (some .boolean) g := hM
  obtain ⟨hx, hb, hml, hr, hlk, hts, hown, hK⟩ := id hM
  intro ls H locs hl hP hS
  have hl : lv_has ls 2 [(0, .ref (g.2.1 635)), (1, .int l1)] := hl
  unfold zf_MO_no at h
  refine lv_iload_n hx hb dMO_no_0 rfl (lv_at hl 1 rfl) ?_
  refine lv_if_lt (tgt := 12) hx hb dMO_no_1 rfl (fun hc => ?_) (fun hc => ?_)
  · have h := h.1 hc
    clear hc
    refine lv_iconst (v := 1) hx hb dMO_no_12 (by decide) ?_
    refine lv_goto (tgt := 17) hx hb dMO_no_13 rfl ?_
    exact zr_zret hx hb hr hlk hP hS rfl h dMO_no_17
  · have h := h.2 hc
    clear hc
    refine lv_iload_n hx hb dMO_no_4 rfl (lv_at hl 1 rfl) ?_
    refine lv_aload_n hx hb dMO_no_5 rfl (lv_at hl 0 rfl) ?_
    refine zr_geti hx hb hts zi_MO hown hK.1 hP zl_635.1 zl_635.2 rfl 5 (by decide) rfl (hts _ zq_738) dMO_no_6 ?_
    refine lv_icmp_lt (tgt := 16) hx hb dMO_no_9 rfl (fun hc => ?_) (fun hc => ?_)
    · have h := h.1 hc
      clear hc
      refine lv_iconst (v := 0) hx hb dMO_no_16 (by decide) ?_
      exact zr_zret hx hb hr hlk hP hS rfl h dMO_no_17
    · have h := h.2 hc
      clear hc
      refine lv_iconst (v := 1) hx hb dMO_no_12 (by decide) ?_
      refine lv_goto (tgt := 17) hx hb dMO_no_13 rfl ?_
      exact zr_zret hx hb hr hlk hP hS rfl h dMO_no_17
set_option maxHeartbeats 4000000 in
set_option maxRecDepth 100000 in
theorem zw_MO_instruction_67 (hM : zs_M p c cMO_instruction 5 s m meth args "ThriftyStoresModel" (some .int) g)   {K : Int32 → zs_T → Prop}   (l2 : Int32) (s0 : Int32) (st : zs_T) (h : zf_MO_instruction_67 K l2 s0 st) : zs_Go p l e (zs_rm 1 21) s m args below meth c g A (MQ below (zs_Qi g zs_ly zs_N A K) args s 0 0 A) 5 67 [(0, .ref (g.2.1 635)), (2, .int l2)] [.int s0] st := by
  obtain ⟨hx, hb, hml, hr, hlk, hts, hown, hK⟩ := id hM
  intro ls H locs hl hP hS
  unfold zf_MO_instruction_67 at h
  refine lv_istore hx hb dMO_instruction_67 hl (by decide) rfl (fun ls hl => ?_)
  have hl : lv_has ls 5 [(4, .int s0), (0, .ref (g.2.1 635)), (2, .int l2)] := hl
  refine lv_iload_n hx hb dMO_instruction_69 rfl (lv_at hl 2 rfl) ?_
  refine lv_if_ne (tgt := 83) hx hb dMO_instruction_70 rfl (fun hc => ?_) (fun hc => ?_)
  · have h := h.1 hc
    clear hc
    refine lv_iload_n hx hb dMO_instruction_83 rfl (lv_at hl 2 rfl) ?_
    refine lv_iconst (v := 1) hx hb dMO_instruction_84 (by decide) ?_
    refine lv_icmp_ne (tgt := 98) hx hb dMO_instruction_85 rfl (fun hc => ?_) (fun hc => ?_)
    · have h := h.1 hc
      clear hc
      refine lv_iload_n hx hb dMO_instruction_98 rfl (lv_at hl 2 rfl) ?_
      refine lv_iconst (v := 2) hx hb dMO_instruction_99 (by decide) ?_
      refine lv_icmp_ne (tgt := 113) hx hb dMO_instruction_100 rfl (fun hc => ?_) (fun hc => ?_)
      · have h := h.1 hc
        clear hc
        refine lv_aload_n hx hb dMO_instruction_113 rfl (lv_at hl 1 rfl) ?_
        refine zr_getr (b := 639) hx hb hts zi_MO hown hK.1 hP zl_635.1 zl_635.2 rfl 4 (by decide) rfl (hts _ zq_737) dMO_instruction_114 ?_
        refine lv_iload hx hb dMO_instruction_117 (lv_at hl 0 rfl) ?_
        obtain ⟨hi401, h⟩ := h
        refine zr_iald hx hb hK.1 hP zl_639.1 zl_639.2 hi401 dMO_instruction_119 ?_
        exact zr_iret hx hb hr hlk hP hS h dMO_instruction_120
      · have h := h.2 hc
        clear hc
        refine lv_aload_n hx hb dMO_instruction_103 rfl (lv_at hl 1 rfl) ?_
        refine zr_getr (b := 638) hx hb hts zi_MO hown hK.1 hP zl_635.1 zl_635.2 rfl 3 (by decide) rfl (hts _ zq_736) dMO_instruction_104 ?_
        refine lv_iload hx hb dMO_instruction_107 (lv_at hl 0 rfl) ?_
        obtain ⟨hi402, h⟩ := h
        refine zr_iald hx hb hK.1 hP zl_638.1 zl_638.2 hi402 dMO_instruction_109 ?_
        refine lv_goto (tgt := 120) hx hb dMO_instruction_110 rfl ?_
        exact zr_iret hx hb hr hlk hP hS h dMO_instruction_120
    · have h := h.2 hc
      clear hc
      refine lv_aload_n hx hb dMO_instruction_88 rfl (lv_at hl 1 rfl) ?_
      refine zr_getr (b := 637) hx hb hts zi_MO hown hK.1 hP zl_635.1 zl_635.2 rfl 2 (by decide) rfl (hts _ zq_735) dMO_instruction_89 ?_
      refine lv_iload hx hb dMO_instruction_92 (lv_at hl 0 rfl) ?_
      obtain ⟨hi403, h⟩ := h
      refine zr_iald hx hb hK.1 hP zl_637.1 zl_637.2 hi403 dMO_instruction_94 ?_
      refine lv_goto (tgt := 120) hx hb dMO_instruction_95 rfl ?_
      exact zr_iret hx hb hr hlk hP hS h dMO_instruction_120
  · have h := h.2 hc
    clear hc
    refine lv_aload_n hx hb dMO_instruction_73 rfl (lv_at hl 1 rfl) ?_
    refine zr_getr (b := 636) hx hb hts zi_MO hown hK.1 hP zl_635.1 zl_635.2 rfl 1 (by decide) rfl (hts _ zq_734) dMO_instruction_74 ?_
    refine lv_iload hx hb dMO_instruction_77 (lv_at hl 0 rfl) ?_
    obtain ⟨hi404, h⟩ := h
    refine zr_iald hx hb hK.1 hP zl_636.1 zl_636.2 hi404 dMO_instruction_79 ?_
    refine lv_goto (tgt := 120) hx hb dMO_instruction_80 rfl ?_
    exact zr_iret hx hb hr hlk hP hS h dMO_instruction_120
set_option maxHeartbeats 4000000 in
set_option maxRecDepth 100000 in
theorem zw_MO_instruction_42 (hM : zs_M p c cMO_instruction 5 s m meth args "ThriftyStoresModel" (some .int) g)   {K : Int32 → zs_T → Prop}   (l1 : Int32) (l2 : Int32) (l3 : Int32) (s0 : Int32) (st : zs_T) (h : zf_MO_instruction_42 K l1 l2 l3 s0 st) : zs_Go p l e (zs_rm 1 21) s m args below meth c g A (MQ below (zs_Qi g zs_ly zs_N A K) args s 0 0 A) 5 42 [(0, .ref (g.2.1 635)), (1, .int l1), (2, .int l2), (3, .int l3)] [.int s0, .ref (g.2.1 635)] st := by
  obtain ⟨hx, hb, hml, hr, hlk, hts, hown, hK⟩ := id hM
  intro ls H locs hl hP hS
  unfold zf_MO_instruction_42 at h
  refine zr_put hx hb hts zi_MO tyMO tyMO_ok nmMO hown hK.1 hP hS zl_635.1 zl_635.2 rfl 0 (by decide) rfl (hts _ zq_733) rfl rfl rfl dMO_instruction_42 (fun H locs hP hS => ?_)
  obtain ⟨t301, ez⟩ : ∃ tz : zs_T, tz = zs_i st 635 0 s0 := ⟨_, rfl⟩
  have h := h t301 ez
  have hP : zs_P g zs_ly zs_N A t301 H := by rw [ez]; exact hP
  clear ez
  refine lv_aload_n hx hb dMO_instruction_45 rfl (lv_at hl 0 rfl) ?_
  refine zr_geti hx hb hts zi_MO hown hK.1 hP zl_635.1 zl_635.2 rfl 0 (by decide) rfl (hts _ zq_733) dMO_instruction_46 ?_
  refine lv_if_le (tgt := 54) hx hb dMO_instruction_49 rfl (fun hc => ?_) (fun hc => ?_)
  · have h := h.1 hc
    clear hc
    refine lv_iload_n hx hb dMO_instruction_54 rfl (lv_at hl 3 rfl) ?_
    refine lv_if_eq (tgt := 62) hx hb dMO_instruction_55 rfl (fun hc => ?_) (fun hc => ?_)
    · have h := h.1 hc
      clear hc
      refine lv_sipush (v := 200) hx hb dMO_instruction_62 (by decide) ?_
      refine lv_iload_n hx hb dMO_instruction_65 rfl (lv_at hl 1 rfl) ?_
      refine lv_iadd hx hb dMO_instruction_66 ?_
      exact zw_MO_instruction_67 hM  l2 (200 + l1) t301 h ls H locs (lv_sub hl [0, 2] rfl) hP hS
    · have h := h.2 hc
      clear hc
      refine lv_iload_n hx hb dMO_instruction_58 rfl (lv_at hl 1 rfl) ?_
      refine lv_goto (tgt := 67) hx hb dMO_instruction_59 rfl ?_
      exact zw_MO_instruction_67 hM  l2 l1 t301 h ls H locs (lv_sub hl [0, 2] rfl) hP hS
  · have h := h.2 hc
    clear hc
    refine lv_iconst (v := 0) hx hb dMO_instruction_52 (by decide) ?_
    exact zr_iret hx hb hr hlk hP hS h dMO_instruction_53
set_option maxHeartbeats 4000000 in
set_option maxRecDepth 100000 in
theorem zw_MO_instruction_22 (hM : zs_M p c cMO_instruction 5 s m meth args "ThriftyStoresModel" (some .int) g)   {K : Int32 → zs_T → Prop}   (l1 : Int32) (l2 : Int32) (l3 : Int32) (st : zs_T) (h : zf_MO_instruction_22 K l1 l2 l3 st) : zs_Go p l e (zs_rm 1 21) s m args below meth c g A (MQ below (zs_Qi g zs_ly zs_N A K) args s 0 0 A) 5 22 [(0, .ref (g.2.1 635)), (1, .int l1), (2, .int l2), (3, .int l3)] [.ref (g.2.1 635)] st := by
  obtain ⟨hx, hb, hml, hr, hlk, hts, hown, hK⟩ := id hM
  intro ls H locs hl hP hS
  unfold zf_MO_instruction_22 at h
  refine lv_iconst (v := 2) hx hb dMO_instruction_22 (by decide) ?_
  refine lv_goto (tgt := 42) hx hb dMO_instruction_23 rfl ?_
  exact zw_MO_instruction_42 hM  l1 l2 l3 2 st h ls H locs (lv_sub hl [0, 1, 2, 3] rfl) hP hS
set_option maxHeartbeats 4000000 in
set_option maxRecDepth 100000 in
theorem zw_MO_instruction_41 (hM : zs_M p c cMO_instruction 5 s m meth args "ThriftyStoresModel" (some .int) g)   {K : Int32 → zs_T → Prop}   (l1 : Int32) (l2 : Int32) (l3 : Int32) (st : zs_T) (h : zf_MO_instruction_41 K l1 l2 l3 st) : zs_Go p l e (zs_rm 1 21) s m args below meth c g A (MQ below (zs_Qi g zs_ly zs_N A K) args s 0 0 A) 5 41 [(0, .ref (g.2.1 635)), (1, .int l1), (2, .int l2), (3, .int l3)] [.ref (g.2.1 635)] st := by
  obtain ⟨hx, hb, hml, hr, hlk, hts, hown, hK⟩ := id hM
  intro ls H locs hl hP hS
  unfold zf_MO_instruction_41 at h
  refine lv_iconst (v := 0) hx hb dMO_instruction_41 (by decide) ?_
  exact zw_MO_instruction_42 hM  l1 l2 l3 0 st h ls H locs (lv_sub hl [0, 1, 2, 3] rfl) hP hS
set_option maxHeartbeats 4000000 in
set_option maxRecDepth 100000 in
theorem zc_MO_instruction (l : Launch) (g : zs_G) (A : Nat → Prop) {l1 : Int32} {l2 : Int32} {l3 : Int32}  {st : zs_T} {K : Int32 → zs_T → Prop} (h : zf_MO_instruction l1 l2 l3 st K) : Met l yMO_instruction (.code yMO_instruction cMO_instruction 5 (some .int) :: zs_tb) (zs_rm 1 21) (zs_Pc zs_nl g zs_ly zs_N A [.ref (g.2.1 635), .int l1, .int l2, .int l3] st) (zs_Qi g zs_ly zs_N A K) 0 0 A := by
  refine zs_met (cc := cMO_instruction) (maxL := 5) (ret := (some .int)) (by decide) (Nat.le_of_ble_eq_true rfl) (fun p e s m below meth c hM => ?_)
  have hM : zs_M p c cMO_instruction 5 s m meth [.ref (g.2.1 635), .int l1, .int l2, .int l3].toArray "ThriftyStoresModel" (some .int) g := hM
  obtain ⟨hx, hb, hml, hr, hlk, hts, hown, hK⟩ := id hM
  intro ls H locs hl hP hS
  have hl : lv_has ls 5 [(0, .ref (g.2.1 635)), (1, .int l1), (2, .int l2), (3, .int l3)] := hl
  unfold zf_MO_instruction at h
  refine lv_aload_n hx hb dMO_instruction_0 rfl (lv_at hl 0 rfl) ?_
  refine lv_aload_n hx hb dMO_instruction_1 rfl (lv_at hl 0 rfl) ?_
  refine lv_iload_n hx hb dMO_instruction_2 rfl (lv_at hl 1 rfl) ?_
  refine zr_calli (va_runV (As := [.int l1]) (rest := [.ref (g.2.1 635)]) ⟨hx, hb, hml, hown, hts⟩ (zc_MO_no l g A  h) (cwV 1 hts (zs_gV zq_949 zq_951 zp_57 zq_8 zq_952) rfl rfl rfl ⟨rfl, by decide, by decide, by decide +kernel⟩ ⟨Nat.le_of_ble_eq_true rfl, Nat.le_of_ble_eq_true rfl⟩) (zs_preV zs_nwk hK hP zl_635.1 zl_635.2 rfl) rfl rfl hl.1 rfl (lv_room (Nat.le_of_ble_eq_true rfl)) dMO_instruction_3 ⟨Nat.le_refl _, Nat.le_refl _⟩) hS (fun r2 u1 H locs h hP hS => ?_)
  refine lv_if_eq (tgt := 13) hx hb dMO_instruction_6 rfl (fun hc => ?_) (fun hc => ?_)
  · have h := h.1 hc
    clear hc
    refine lv_iload_n hx hb dMO_instruction_13 rfl (lv_at hl 2 rfl) ?_
    refine lv_if_lt (tgt := 22) hx hb dMO_instruction_14 rfl (fun hc => ?_) (fun hc => ?_)
    · have h := h.1 hc
      clear hc
      exact zw_MO_instruction_22 hM  l1 l2 l3 u1 h ls H locs (lv_sub hl [0, 1, 2, 3] rfl) hP hS
    · have h := h.2 hc
      clear hc
      refine lv_iload_n hx hb dMO_instruction_17 rfl (lv_at hl 2 rfl) ?_
      refine lv_iconst (v := 3) hx hb dMO_instruction_18 (by decide) ?_
      refine lv_icmp_le (tgt := 26) hx hb dMO_instruction_19 rfl (fun hc => ?_) (fun hc => ?_)
      · have h := h.1 hc
        clear hc
        refine lv_iload_n hx hb dMO_instruction_26 rfl (lv_at hl 3 rfl) ?_
        refine lv_if_ne (tgt := 41) hx hb dMO_instruction_27 rfl (fun hc => ?_) (fun hc => ?_)
        · have h := h.1 hc
          clear hc
          exact zw_MO_instruction_41 hM  l1 l2 l3 u1 h ls H locs (lv_sub hl [0, 1, 2, 3] rfl) hP hS
        · have h := h.2 hc
          clear hc
          refine lv_aload_n hx hb dMO_instruction_30 rfl (lv_at hl 0 rfl) ?_
          refine zr_geti hx hb hts zi_MO hown hK.1 hP zl_635.1 zl_635.2 rfl 6 (by decide) rfl (hts _ zq_739) dMO_instruction_31 ?_
          refine lv_if_ne (tgt := 41) hx hb dMO_instruction_34 rfl (fun hc => ?_) (fun hc => ?_)
          · have h := h.1 hc
            clear hc
            exact zw_MO_instruction_41 hM  l1 l2 l3 u1 h ls H locs (lv_sub hl [0, 1, 2, 3] rfl) hP hS
          · have h := h.2 hc
            clear hc
            refine lv_iconst (v := 3) hx hb dMO_instruction_37 (by decide) ?_
            refine lv_goto (tgt := 42) hx hb dMO_instruction_38 rfl ?_
            exact zw_MO_instruction_42 hM  l1 l2 l3 3 u1 h ls H locs (lv_sub hl [0, 1, 2, 3] rfl) hP hS
      · have h := h.2 hc
        clear hc
        exact zw_MO_instruction_22 hM  l1 l2 l3 u1 h ls H locs (lv_sub hl [0, 1, 2, 3] rfl) hP hS
  · have h := h.2 hc
    clear hc
    refine lv_iconst (v := 1) hx hb dMO_instruction_9 (by decide) ?_
    refine lv_goto (tgt := 42) hx hb dMO_instruction_10 rfl ?_
    exact zw_MO_instruction_42 hM  l1 l2 l3 1 u1 h ls H locs (lv_sub hl [0, 1, 2, 3] rfl) hP hS
set_option maxHeartbeats 4000000 in
set_option maxRecDepth 100000 in
theorem zw_MO_fate_25 (hM : zs_M p c cMO_fate 2 s m meth args "ThriftyStoresModel" (some .int) g)   {K : Int32 → zs_T → Prop}   (l1 : Int32) (s0 : Int32) (st : zs_T) (h : zf_MO_fate_25 K l1 s0 st) : zs_Go p l e (zs_rm 1 21) s m args below meth c g A (MQ below (zs_Qi g zs_ly zs_N A K) args s 0 0 A) 2 25 [(0, .ref (g.2.1 635)), (1, .int l1)] [.int s0, .ref (g.2.1 635)] st := by
  obtain ⟨hx, hb, hml, hr, hlk, hts, hown, hK⟩ := id hM
  intro ls H locs hl hP hS
  unfold zf_MO_fate_25 at h
  refine zr_put hx hb hts zi_MO tyMO tyMO_ok nmMO hown hK.1 hP hS zl_635.1 zl_635.2 rfl 0 (by decide) rfl (hts _ zq_733) rfl rfl rfl dMO_fate_25 (fun H locs hP hS => ?_)
  obtain ⟨t101, ez⟩ : ∃ tz : zs_T, tz = zs_i st 635 0 s0 := ⟨_, rfl⟩
  have h := h t101 ez
  have hP : zs_P g zs_ly zs_N A t101 H := by rw [ez]; exact hP
  clear ez
  refine lv_aload_n hx hb dMO_fate_28 rfl (lv_at hl 0 rfl) ?_
  refine zr_geti hx hb hts zi_MO hown hK.1 hP zl_635.1 zl_635.2 rfl 0 (by decide) rfl (hts _ zq_733) dMO_fate_29 ?_
  refine lv_if_le (tgt := 39) hx hb dMO_fate_32 rfl (fun hc => ?_) (fun hc => ?_)
  · have h := h.1 hc
    clear hc
    refine lv_aload_n hx hb dMO_fate_39 rfl (lv_at hl 0 rfl) ?_
    refine zr_getr (b := 640) hx hb hts zi_MO hown hK.1 hP zl_635.1 zl_635.2 rfl 8 (by decide) rfl (hts _ zq_741) dMO_fate_40 ?_
    refine lv_iload_n hx hb dMO_fate_43 rfl (lv_at hl 1 rfl) ?_
    obtain ⟨hi102, h⟩ := h
    refine zr_iald hx hb hK.1 hP zl_640.1 zl_640.2 hi102 dMO_fate_44 ?_
    exact zr_iret hx hb hr hlk hP hS h dMO_fate_45
  · have h := h.2 hc
    clear hc
    refine lv_iconst (v := 0) hx hb dMO_fate_35 (by decide) ?_
    refine lv_goto (tgt := 45) hx hb dMO_fate_36 rfl ?_
    exact zr_iret hx hb hr hlk hP hS h dMO_fate_45
set_option maxHeartbeats 4000000 in
set_option maxRecDepth 100000 in
theorem zc_MO_fate (l : Launch) (g : zs_G) (A : Nat → Prop) {l1 : Int32}  {st : zs_T} {K : Int32 → zs_T → Prop} (h : zf_MO_fate l1 st K) : Met l yMO_fate (.code yMO_fate cMO_fate 2 (some .int) :: zs_tb) (zs_rm 1 21) (zs_Pc zs_nl g zs_ly zs_N A [.ref (g.2.1 635), .int l1] st) (zs_Qi g zs_ly zs_N A K) 0 0 A := by
  refine zs_met (cc := cMO_fate) (maxL := 2) (ret := (some .int)) (by decide) (Nat.le_of_ble_eq_true rfl) (fun p e s m below meth c hM => ?_)
  have hM : zs_M p c cMO_fate 2 s m meth [.ref (g.2.1 635), .int l1].toArray "ThriftyStoresModel" (some .int) g := hM
  obtain ⟨hx, hb, hml, hr, hlk, hts, hown, hK⟩ := id hM
  intro ls H locs hl hP hS
  have hl : lv_has ls 2 [(0, .ref (g.2.1 635)), (1, .int l1)] := hl
  unfold zf_MO_fate at h
  refine lv_aload_n hx hb dMO_fate_0 rfl (lv_at hl 0 rfl) ?_
  refine lv_aload_n hx hb dMO_fate_1 rfl (lv_at hl 0 rfl) ?_
  refine lv_iload_n hx hb dMO_fate_2 rfl (lv_at hl 1 rfl) ?_
  refine zr_calli (va_runV (As := [.int l1]) (rest := [.ref (g.2.1 635)]) ⟨hx, hb, hml, hown, hts⟩ (zc_MO_no l g A  h) (cwV 1 hts (zs_gV zq_949 zq_951 zp_57 zq_8 zq_952) rfl rfl rfl ⟨rfl, by decide, by decide, by decide +kernel⟩ ⟨Nat.le_of_ble_eq_true rfl, Nat.le_of_ble_eq_true rfl⟩) (zs_preV zs_nwk hK hP zl_635.1 zl_635.2 rfl) rfl rfl hl.1 rfl (lv_room (Nat.le_of_ble_eq_true rfl)) dMO_fate_3 ⟨Nat.le_refl _, Nat.le_refl _⟩) hS (fun r2 u1 H locs h hP hS => ?_)
  refine lv_if_eq (tgt := 13) hx hb dMO_fate_6 rfl (fun hc => ?_) (fun hc => ?_)
  · have h := h.1 hc
    clear hc
    refine lv_aload_n hx hb dMO_fate_13 rfl (lv_at hl 0 rfl) ?_
    refine zr_geti hx hb hts zi_MO hown hK.1 hP zl_635.1 zl_635.2 rfl 6 (by decide) rfl (hts _ zq_739) dMO_fate_14 ?_
    refine lv_if_ne (tgt := 24) hx hb dMO_fate_17 rfl (fun hc => ?_) (fun hc => ?_)
    · have h := h.1 hc
      clear hc
      refine lv_iconst (v := 0) hx hb dMO_fate_24 (by decide) ?_
      exact zw_MO_fate_25 hM  l1 0 u1 h ls H locs (lv_sub hl [0, 1] rfl) hP hS
    · have h := h.2 hc
      clear hc
      refine lv_iconst (v := 2) hx hb dMO_fate_20 (by decide) ?_
      refine lv_goto (tgt := 25) hx hb dMO_fate_21 rfl ?_
      exact zw_MO_fate_25 hM  l1 2 u1 h ls H locs (lv_sub hl [0, 1] rfl) hP hS
  · have h := h.2 hc
    clear hc
    refine lv_iconst (v := 1) hx hb dMO_fate_9 (by decide) ?_
    refine lv_goto (tgt := 25) hx hb dMO_fate_10 rfl ?_
    exact zw_MO_fate_25 hM  l1 1 u1 h ls H locs (lv_sub hl [0, 1] rfl) hP hS
set_option maxHeartbeats 4000000 in
set_option maxRecDepth 100000 in
theorem zw_MO_rounds_13 (hM : zs_M p c cMO_rounds 1 s m meth args "ThriftyStoresModel" (some .int) g)   {K : Int32 → zs_T → Prop}   (s0 : Int32) (st : zs_T) (h : zf_MO_rounds_13 K s0 st) : zs_Go p l e (zs_rm 0 0) s m args below meth c g A (MQ below (zs_Qi g zs_ly zs_N A K) args s 0 0 A) 1 13 [(0, .ref (g.2.1 635))] [.int s0, .ref (g.2.1 635)] st := by
  obtain ⟨hx, hb, hml, hr, hlk, hts, hown, hK⟩ := id hM
  intro ls H locs hl hP hS
  unfold zf_MO_rounds_13 at h
  refine zr_put hx hb hts zi_MO tyMO tyMO_ok nmMO hown hK.1 hP hS zl_635.1 zl_635.2 rfl 0 (by decide) rfl (hts _ zq_733) rfl rfl rfl dMO_rounds_13 (fun H locs hP hS => ?_)
  obtain ⟨t101, ez⟩ : ∃ tz : zs_T, tz = zs_i st 635 0 s0 := ⟨_, rfl⟩
  have h := h t101 ez
  have hP : zs_P g zs_ly zs_N A t101 H := by rw [ez]; exact hP
  clear ez
  refine lv_aload_n hx hb dMO_rounds_16 rfl (lv_at hl 0 rfl) ?_
  refine zr_geti hx hb hts zi_MO hown hK.1 hP zl_635.1 zl_635.2 rfl 0 (by decide) rfl (hts _ zq_733) dMO_rounds_17 ?_
  refine lv_if_le (tgt := 27) hx hb dMO_rounds_20 rfl (fun hc => ?_) (fun hc => ?_)
  · have h := h.1 hc
    clear hc
    refine lv_aload_n hx hb dMO_rounds_27 rfl (lv_at hl 0 rfl) ?_
    refine zr_geti hx hb hts zi_MO hown hK.1 hP zl_635.1 zl_635.2 rfl 7 (by decide) rfl (hts _ zq_740) dMO_rounds_28 ?_
    exact zr_iret hx hb hr hlk hP hS h dMO_rounds_31
  · have h := h.2 hc
    clear hc
    refine lv_iconst (v := 0) hx hb dMO_rounds_23 (by decide) ?_
    refine lv_goto (tgt := 31) hx hb dMO_rounds_24 rfl ?_
    exact zr_iret hx hb hr hlk hP hS h dMO_rounds_31
set_option maxHeartbeats 4000000 in
set_option maxRecDepth 100000 in
theorem zc_MO_rounds (l : Launch) (g : zs_G) (A : Nat → Prop)   {st : zs_T} {K : Int32 → zs_T → Prop} (h : zf_MO_rounds  st K) : Met l yMO_rounds (.code yMO_rounds cMO_rounds 1 (some .int) :: zs_tb) (zs_rm 0 0) (zs_Pc zs_nl g zs_ly zs_N A [.ref (g.2.1 635)] st) (zs_Qi g zs_ly zs_N A K) 0 0 A := by
  refine zs_met (cc := cMO_rounds) (maxL := 1) (ret := (some .int)) (by decide) (Nat.le_of_ble_eq_true rfl) (fun p e s m below meth c hM => ?_)
  have hM : zs_M p c cMO_rounds 1 s m meth [.ref (g.2.1 635)].toArray "ThriftyStoresModel" (some .int) g := hM
  obtain ⟨hx, hb, hml, hr, hlk, hts, hown, hK⟩ := id hM
  intro ls H locs hl hP hS
  have hl : lv_has ls 1 [(0, .ref (g.2.1 635))] := hl
  unfold zf_MO_rounds at h
  refine lv_aload_n hx hb dMO_rounds_0 rfl (lv_at hl 0 rfl) ?_
  refine lv_aload_n hx hb dMO_rounds_1 rfl (lv_at hl 0 rfl) ?_
  refine zr_geti hx hb hts zi_MO hown hK.1 hP zl_635.1 zl_635.2 rfl 6 (by decide) rfl (hts _ zq_739) dMO_rounds_2 ?_
  refine lv_if_eq (tgt := 12) hx hb dMO_rounds_5 rfl (fun hc => ?_) (fun hc => ?_)
  · have h := h.1 hc
    clear hc
    refine lv_iconst (v := 1) hx hb dMO_rounds_12 (by decide) ?_
    exact zw_MO_rounds_13 hM  1 st h ls H locs (lv_sub hl [0] rfl) hP hS
  · have h := h.2 hc
    clear hc
    refine lv_iconst (v := 0) hx hb dMO_rounds_8 (by decide) ?_
    refine lv_goto (tgt := 13) hx hb dMO_rounds_9 rfl ?_
    exact zw_MO_rounds_13 hM  0 st h ls H locs (lv_sub hl [0] rfl) hP hS
set_option maxHeartbeats 4000000 in
set_option maxRecDepth 100000 in
theorem zw_MO_may_32 (hM : zs_M p c cMO_may 3 s m meth args "ThriftyStoresModel" (some .boolean) g)   {K : Int32 → zs_T → Prop}   (l1 : Int32) (l2 : Int32) (s0 : Int32) (st : zs_T) (h : zf_MO_may_32 K l1 l2 s0 st) : zs_Go p l e (zs_rm 1 21) s m args below meth c g A (MQ below (zs_Qi g zs_ly zs_N A K) args s 0 0 A) 3 32 [(0, .ref (g.2.1 635)), (1, .int l1), (2, .int l2)] [.int s0, .ref (g.2.1 635)] st := by
  obtain ⟨hx, hb, hml, hr, hlk, hts, hown, hK⟩ := id hM
  intro ls H locs hl hP hS
  unfold zf_MO_may_32 at h
  refine zr_put hx hb hts zi_MO tyMO tyMO_ok nmMO hown hK.1 hP hS zl_635.1 zl_635.2 rfl 0 (by decide) rfl (hts _ zq_733) rfl rfl rfl dMO_may_32 (fun H locs hP hS => ?_)
  obtain ⟨t201, ez⟩ : ∃ tz : zs_T, tz = zs_i st 635 0 s0 := ⟨_, rfl⟩
  have h := h t201 ez
  have hP : zs_P g zs_ly zs_N A t201 H := by rw [ez]; exact hP
  clear ez
  refine lv_aload_n hx hb dMO_may_35 rfl (lv_at hl 0 rfl) ?_
  refine zr_geti hx hb hts zi_MO hown hK.1 hP zl_635.1 zl_635.2 rfl 0 (by decide) rfl (hts _ zq_733) dMO_may_36 ?_
  refine lv_if_ne (tgt := 61) hx hb dMO_may_39 rfl (fun hc => ?_) (fun hc => ?_)
  · have h := h.1 hc
    clear hc
    refine lv_iconst (v := 0) hx hb dMO_may_61 (by decide) ?_
    exact zr_zret hx hb hr hlk hP hS rfl h dMO_may_62
  · have h := h.2 hc
    clear hc
    refine lv_aload_n hx hb dMO_may_42 rfl (lv_at hl 0 rfl) ?_
    refine zr_getr (b := 641) hx hb hts zi_MO hown hK.1 hP zl_635.1 zl_635.2 rfl 10 (by decide) rfl (hts _ zq_743) dMO_may_43 ?_
    refine lv_sipush (v := 200) hx hb dMO_may_46 (by decide) ?_
    refine lv_iload_n hx hb dMO_may_49 rfl (lv_at hl 1 rfl) ?_
    refine lv_imul hx hb dMO_may_50 ?_
    refine lv_iload_n hx hb dMO_may_51 rfl (lv_at hl 2 rfl) ?_
    refine lv_iadd hx hb dMO_may_52 ?_
    obtain ⟨hi202, h⟩ := h
    refine zr_zald hx hb hK.1 hP zl_641.1 zl_641.2 hi202 dMO_may_53 ?_
    refine lv_if_eq (tgt := 61) hx hb dMO_may_54 rfl (fun hc => ?_) (fun hc => ?_)
    · have h := h.1 hc
      clear hc
      refine lv_iconst (v := 0) hx hb dMO_may_61 (by decide) ?_
      exact zr_zret hx hb hr hlk hP hS rfl h dMO_may_62
    · have h := h.2 hc
      clear hc
      refine lv_iconst (v := 1) hx hb dMO_may_57 (by decide) ?_
      refine lv_goto (tgt := 62) hx hb dMO_may_58 rfl ?_
      exact zr_zret hx hb hr hlk hP hS rfl h dMO_may_62
set_option maxHeartbeats 4000000 in
set_option maxRecDepth 100000 in
theorem zw_MO_may_16 (hM : zs_M p c cMO_may 3 s m meth args "ThriftyStoresModel" (some .boolean) g)   {K : Int32 → zs_T → Prop}   (l1 : Int32) (l2 : Int32) (st : zs_T) (h : zf_MO_may_16 K l1 l2 st) : zs_Go p l e (zs_rm 1 21) s m args below meth c g A (MQ below (zs_Qi g zs_ly zs_N A K) args s 0 0 A) 3 16 [(0, .ref (g.2.1 635)), (1, .int l1), (2, .int l2)] [.ref (g.2.1 635)] st := by
  obtain ⟨hx, hb, hml, hr, hlk, hts, hown, hK⟩ := id hM
  intro ls H locs hl hP hS
  unfold zf_MO_may_16 at h
  refine lv_iconst (v := 1) hx hb dMO_may_16 (by decide) ?_
  refine lv_goto (tgt := 32) hx hb dMO_may_17 rfl ?_
  exact zw_MO_may_32 hM  l1 l2 1 st h ls H locs (lv_sub hl [0, 1, 2] rfl) hP hS
set_option maxHeartbeats 4000000 in
set_option maxRecDepth 100000 in
theorem zc_MO_may (l : Launch) (g : zs_G) (A : Nat → Prop) {l1 : Int32} {l2 : Int32}  {st : zs_T} {K : Int32 → zs_T → Prop} (h : zf_MO_may l1 l2 st K) : Met l yMO_may (.code yMO_may cMO_may 3 (some .boolean) :: zs_tb) (zs_rm 1 21) (zs_Pc zs_nl g zs_ly zs_N A [.ref (g.2.1 635), .int l1, .int l2] st) (zs_Qi g zs_ly zs_N A K) 0 0 A := by
  refine zs_met (cc := cMO_may) (maxL := 3) (ret := (some .boolean)) (by decide) (Nat.le_of_ble_eq_true rfl) (fun p e s m below meth c hM => ?_)
  have hM : zs_M p c cMO_may 3 s m meth [.ref (g.2.1 635), .int l1, .int l2].toArray "ThriftyStoresModel" (some .boolean) g := hM
  obtain ⟨hx, hb, hml, hr, hlk, hts, hown, hK⟩ := id hM
  intro ls H locs hl hP hS
  have hl : lv_has ls 3 [(0, .ref (g.2.1 635)), (1, .int l1), (2, .int l2)] := hl
  unfold zf_MO_may at h
  refine lv_aload_n hx hb dMO_may_0 rfl (lv_at hl 0 rfl) ?_
  refine lv_iload_n hx hb dMO_may_1 rfl (lv_at hl 1 rfl) ?_
  refine zr_calli (va_runS (As := [.int l1]) (rest := [.ref (g.2.1 635)]) ⟨hx, hb, hml, hown, hts⟩ (zc_MO_register l g A  h) (va_cwS 1 hts (zs_gS zq_838 zq_839 zq_8 zq_840) rfl rfl rfl ⟨by decide, by decide, by decide +kernel⟩ ⟨Nat.le_of_ble_eq_true rfl, Nat.le_of_ble_eq_true rfl⟩) (zs_preS zs_nwk hK hP) rfl rfl hl.1 rfl (lv_room (Nat.le_of_ble_eq_true rfl)) dMO_may_2 ⟨Nat.le_refl _, Nat.le_refl _⟩) hS (fun r2 u1 H locs h hP hS => ?_)
  refine lv_if_eq (tgt := 16) hx hb dMO_may_5 rfl (fun hc => ?_) (fun hc => ?_)
  · have h := h.1 hc
    clear hc
    exact zw_MO_may_16 hM  l1 l2 u1 h ls H locs (lv_sub hl [0, 1, 2] rfl) hP hS
  · have h := h.2 hc
    clear hc
    refine lv_aload_n hx hb dMO_may_8 rfl (lv_at hl 0 rfl) ?_
    refine lv_iload_n hx hb dMO_may_9 rfl (lv_at hl 2 rfl) ?_
    refine zr_calli (va_runV (As := [.int l2]) (rest := [.ref (g.2.1 635)]) ⟨hx, hb, hml, hown, hts⟩ (zc_MO_no l g A  h) (cwV 1 hts (zs_gV zq_949 zq_951 zp_57 zq_8 zq_952) rfl rfl rfl ⟨rfl, by decide, by decide, by decide +kernel⟩ ⟨Nat.le_of_ble_eq_true rfl, Nat.le_of_ble_eq_true rfl⟩) (zs_preV zs_nwk hK hP zl_635.1 zl_635.2 rfl) rfl rfl hl.1 rfl (lv_room (Nat.le_of_ble_eq_true rfl)) dMO_may_10 ⟨Nat.le_refl _, Nat.le_refl _⟩) hS (fun r4 u3 H locs h hP hS => ?_)
    refine lv_if_eq (tgt := 20) hx hb dMO_may_13 rfl (fun hc => ?_) (fun hc => ?_)
    · have h := h.1 hc
      clear hc
      refine lv_aload_n hx hb dMO_may_20 rfl (lv_at hl 0 rfl) ?_
      refine zr_geti hx hb hts zi_MO hown hK.1 hP zl_635.1 zl_635.2 rfl 6 (by decide) rfl (hts _ zq_739) dMO_may_21 ?_
      refine lv_if_ne (tgt := 31) hx hb dMO_may_24 rfl (fun hc => ?_) (fun hc => ?_)
      · have h := h.1 hc
        clear hc
        refine lv_iconst (v := 0) hx hb dMO_may_31 (by decide) ?_
        exact zw_MO_may_32 hM  l1 l2 0 u3 h ls H locs (lv_sub hl [0, 1, 2] rfl) hP hS
      · have h := h.2 hc
        clear hc
        refine lv_iconst (v := 2) hx hb dMO_may_27 (by decide) ?_
        refine lv_goto (tgt := 32) hx hb dMO_may_28 rfl ?_
        exact zw_MO_may_32 hM  l1 l2 2 u3 h ls H locs (lv_sub hl [0, 1, 2] rfl) hP hS
    · have h := h.2 hc
      clear hc
      exact zw_MO_may_16 hM  l1 l2 u3 h ls H locs (lv_sub hl [0, 1, 2] rfl) hP hS
set_option maxHeartbeats 4000000 in
set_option maxRecDepth 100000 in
theorem zw_MO_inside_33 (hM : zs_M p c cMO_inside 3 s m meth args "ThriftyStoresModel" (some .boolean) g)   {K : Int32 → zs_T → Prop}   (l1 : Int32) (l2 : Int32) (s0 : Int32) (st : zs_T) (h : zf_MO_inside_33 K l1 l2 s0 st) : zs_Go p l e (zs_rm 1 21) s m args below meth c g A (MQ below (zs_Qi g zs_ly zs_N A K) args s 0 0 A) 3 33 [(0, .ref (g.2.1 635)), (1, .int l1), (2, .int l2)] [.int s0, .ref (g.2.1 635)] st := by
  obtain ⟨hx, hb, hml, hr, hlk, hts, hown, hK⟩ := id hM
  intro ls H locs hl hP hS
  unfold zf_MO_inside_33 at h
  refine zr_put hx hb hts zi_MO tyMO tyMO_ok nmMO hown hK.1 hP hS zl_635.1 zl_635.2 rfl 0 (by decide) rfl (hts _ zq_733) rfl rfl rfl dMO_inside_33 (fun H locs hP hS => ?_)
  obtain ⟨t201, ez⟩ : ∃ tz : zs_T, tz = zs_i st 635 0 s0 := ⟨_, rfl⟩
  have h := h t201 ez
  have hP : zs_P g zs_ly zs_N A t201 H := by rw [ez]; exact hP
  clear ez
  refine lv_aload_n hx hb dMO_inside_36 rfl (lv_at hl 0 rfl) ?_
  refine zr_geti hx hb hts zi_MO hown hK.1 hP zl_635.1 zl_635.2 rfl 0 (by decide) rfl (hts _ zq_733) dMO_inside_37 ?_
  refine lv_if_ne (tgt := 62) hx hb dMO_inside_40 rfl (fun hc => ?_) (fun hc => ?_)
  · have h := h.1 hc
    clear hc
    refine lv_iconst (v := 0) hx hb dMO_inside_62 (by decide) ?_
    exact zr_zret hx hb hr hlk hP hS rfl h dMO_inside_63
  · have h := h.2 hc
    clear hc
    refine lv_aload_n hx hb dMO_inside_43 rfl (lv_at hl 0 rfl) ?_
    refine zr_getr (b := 642) hx hb hts zi_MO hown hK.1 hP zl_635.1 zl_635.2 rfl 11 (by decide) rfl (hts _ zq_744) dMO_inside_44 ?_
    refine lv_sipush (v := 200) hx hb dMO_inside_47 (by decide) ?_
    refine lv_iload_n hx hb dMO_inside_50 rfl (lv_at hl 1 rfl) ?_
    refine lv_imul hx hb dMO_inside_51 ?_
    refine lv_iload_n hx hb dMO_inside_52 rfl (lv_at hl 2 rfl) ?_
    refine lv_iadd hx hb dMO_inside_53 ?_
    obtain ⟨hi202, h⟩ := h
    refine zr_zald hx hb hK.1 hP zl_642.1 zl_642.2 hi202 dMO_inside_54 ?_
    refine lv_if_eq (tgt := 62) hx hb dMO_inside_55 rfl (fun hc => ?_) (fun hc => ?_)
    · have h := h.1 hc
      clear hc
      refine lv_iconst (v := 0) hx hb dMO_inside_62 (by decide) ?_
      exact zr_zret hx hb hr hlk hP hS rfl h dMO_inside_63
    · have h := h.2 hc
      clear hc
      refine lv_iconst (v := 1) hx hb dMO_inside_58 (by decide) ?_
      refine lv_goto (tgt := 63) hx hb dMO_inside_59 rfl ?_
      exact zr_zret hx hb hr hlk hP hS rfl h dMO_inside_63
set_option maxHeartbeats 4000000 in
set_option maxRecDepth 100000 in
theorem zw_MO_inside_17 (hM : zs_M p c cMO_inside 3 s m meth args "ThriftyStoresModel" (some .boolean) g)   {K : Int32 → zs_T → Prop}   (l1 : Int32) (l2 : Int32) (st : zs_T) (h : zf_MO_inside_17 K l1 l2 st) : zs_Go p l e (zs_rm 1 21) s m args below meth c g A (MQ below (zs_Qi g zs_ly zs_N A K) args s 0 0 A) 3 17 [(0, .ref (g.2.1 635)), (1, .int l1), (2, .int l2)] [.ref (g.2.1 635)] st := by
  obtain ⟨hx, hb, hml, hr, hlk, hts, hown, hK⟩ := id hM
  intro ls H locs hl hP hS
  unfold zf_MO_inside_17 at h
  refine lv_iconst (v := 1) hx hb dMO_inside_17 (by decide) ?_
  refine lv_goto (tgt := 33) hx hb dMO_inside_18 rfl ?_
  exact zw_MO_inside_33 hM  l1 l2 1 st h ls H locs (lv_sub hl [0, 1, 2] rfl) hP hS
set_option maxHeartbeats 4000000 in
set_option maxRecDepth 100000 in
theorem zc_MO_inside (l : Launch) (g : zs_G) (A : Nat → Prop) {l1 : Int32} {l2 : Int32}  {st : zs_T} {K : Int32 → zs_T → Prop} (h : zf_MO_inside l1 l2 st K) : Met l yMO_inside (.code yMO_inside cMO_inside 3 (some .boolean) :: zs_tb) (zs_rm 1 21) (zs_Pc zs_nl g zs_ly zs_N A [.ref (g.2.1 635), .int l1, .int l2] st) (zs_Qi g zs_ly zs_N A K) 0 0 A := by
  refine zs_met (cc := cMO_inside) (maxL := 3) (ret := (some .boolean)) (by decide) (Nat.le_of_ble_eq_true rfl) (fun p e s m below meth c hM => ?_)
  have hM : zs_M p c cMO_inside 3 s m meth [.ref (g.2.1 635), .int l1, .int l2].toArray "ThriftyStoresModel" (some .boolean) g := hM
  obtain ⟨hx, hb, hml, hr, hlk, hts, hown, hK⟩ := id hM
  intro ls H locs hl hP hS
  have hl : lv_has ls 3 [(0, .ref (g.2.1 635)), (1, .int l1), (2, .int l2)] := hl
  unfold zf_MO_inside at h
  refine lv_aload_n hx hb dMO_inside_0 rfl (lv_at hl 0 rfl) ?_
  refine lv_aload_n hx hb dMO_inside_1 rfl (lv_at hl 0 rfl) ?_
  refine lv_iload_n hx hb dMO_inside_2 rfl (lv_at hl 1 rfl) ?_
  refine zr_calli (va_runV (As := [.int l1]) (rest := [.ref (g.2.1 635)]) ⟨hx, hb, hml, hown, hts⟩ (zc_MO_no l g A  h) (cwV 1 hts (zs_gV zq_949 zq_951 zp_57 zq_8 zq_952) rfl rfl rfl ⟨rfl, by decide, by decide, by decide +kernel⟩ ⟨Nat.le_of_ble_eq_true rfl, Nat.le_of_ble_eq_true rfl⟩) (zs_preV zs_nwk hK hP zl_635.1 zl_635.2 rfl) rfl rfl hl.1 rfl (lv_room (Nat.le_of_ble_eq_true rfl)) dMO_inside_3 ⟨Nat.le_refl _, Nat.le_refl _⟩) hS (fun r2 u1 H locs h hP hS => ?_)
  refine lv_if_ne (tgt := 17) hx hb dMO_inside_6 rfl (fun hc => ?_) (fun hc => ?_)
  · have h := h.1 hc
    clear hc
    exact zw_MO_inside_17 hM  l1 l2 u1 h ls H locs (lv_sub hl [0, 1, 2] rfl) hP hS
  · have h := h.2 hc
    clear hc
    refine lv_aload_n hx hb dMO_inside_9 rfl (lv_at hl 0 rfl) ?_
    refine lv_iload_n hx hb dMO_inside_10 rfl (lv_at hl 2 rfl) ?_
    refine zr_calli (va_runV (As := [.int l2]) (rest := [.ref (g.2.1 635)]) ⟨hx, hb, hml, hown, hts⟩ (zc_MO_no l g A  h) (cwV 1 hts (zs_gV zq_949 zq_951 zp_57 zq_8 zq_952) rfl rfl rfl ⟨rfl, by decide, by decide, by decide +kernel⟩ ⟨Nat.le_of_ble_eq_true rfl, Nat.le_of_ble_eq_true rfl⟩) (zs_preV zs_nwk hK hP zl_635.1 zl_635.2 rfl) rfl rfl hl.1 rfl (lv_room (Nat.le_of_ble_eq_true rfl)) dMO_inside_11 ⟨Nat.le_refl _, Nat.le_refl _⟩) hS (fun r4 u3 H locs h hP hS => ?_)
    refine lv_if_eq (tgt := 21) hx hb dMO_inside_14 rfl (fun hc => ?_) (fun hc => ?_)
    · have h := h.1 hc
      clear hc
      refine lv_aload_n hx hb dMO_inside_21 rfl (lv_at hl 0 rfl) ?_
      refine zr_geti hx hb hts zi_MO hown hK.1 hP zl_635.1 zl_635.2 rfl 6 (by decide) rfl (hts _ zq_739) dMO_inside_22 ?_
      refine lv_if_ne (tgt := 32) hx hb dMO_inside_25 rfl (fun hc => ?_) (fun hc => ?_)
      · have h := h.1 hc
        clear hc
        refine lv_iconst (v := 0) hx hb dMO_inside_32 (by decide) ?_
        exact zw_MO_inside_33 hM  l1 l2 0 u3 h ls H locs (lv_sub hl [0, 1, 2] rfl) hP hS
      · have h := h.2 hc
        clear hc
        refine lv_iconst (v := 2) hx hb dMO_inside_28 (by decide) ?_
        refine lv_goto (tgt := 33) hx hb dMO_inside_29 rfl ?_
        exact zw_MO_inside_33 hM  l1 l2 2 u3 h ls H locs (lv_sub hl [0, 1, 2] rfl) hP hS
    · have h := h.2 hc
      clear hc
      exact zw_MO_inside_17 hM  l1 l2 u3 h ls H locs (lv_sub hl [0, 1, 2] rfl) hP hS
set_option maxHeartbeats 4000000 in
set_option maxRecDepth 100000 in
theorem zc_MO_held (l : Launch) (g : zs_G) (A : Nat → Prop) {l1 : Int32} {l2 : Int32} {l3 : Int32}  {st : zs_T} {K : Int32 → zs_T → Prop} (h : zf_MO_held l1 l2 l3 st K) : Met l yMO_held (.code yMO_held cMO_held 4 (some .boolean) :: zs_tb) (zs_rm 0 0) (zs_Pc zs_nl g zs_ly zs_N A [.ref (g.2.1 635), .int l1, .int l2, .int l3] st) (zs_Qi g zs_ly zs_N A K) 0 0 A := by
  refine zs_met (cc := cMO_held) (maxL := 4) (ret := (some .boolean)) (by decide) (Nat.le_of_ble_eq_true rfl) (fun p e s m below meth c hM => ?_)
  have hM : zs_M p c cMO_held 4 s m meth [.ref (g.2.1 635), .int l1, .int l2, .int l3].toArray "ThriftyStoresModel" (some .boolean) g := hM
  obtain ⟨hx, hb, hml, hr, hlk, hts, hown, hK⟩ := id hM
  intro ls H locs hl hP hS
  have hl : lv_has ls 4 [(0, .ref (g.2.1 635)), (1, .int l1), (2, .int l2), (3, .int l3)] := hl
  unfold zf_MO_held at h
  refine lv_aload_n hx hb dMO_held_0 rfl (lv_at hl 0 rfl) ?_
  refine zr_getr (b := 645) hx hb hts zi_MO hown hK.1 hP zl_635.1 zl_635.2 rfl 14 (by decide) rfl (hts _ zq_747) dMO_held_1 ?_
  refine lv_sipush (v := 256) hx hb dMO_held_4 (by decide) ?_
  refine lv_iload_n hx hb dMO_held_7 rfl (lv_at hl 1 rfl) ?_
  refine lv_imul hx hb dMO_held_8 ?_
  refine lv_bipush (v := 16) hx hb dMO_held_9 (by decide) ?_
  refine lv_iload_n hx hb dMO_held_11 rfl (lv_at hl 2 rfl) ?_
  refine lv_imul hx hb dMO_held_12 ?_
  refine lv_iadd hx hb dMO_held_13 ?_
  refine lv_iload_n hx hb dMO_held_14 rfl (lv_at hl 3 rfl) ?_
  refine lv_iadd hx hb dMO_held_15 ?_
  obtain ⟨hi1, h⟩ := h
  refine zr_zald hx hb hK.1 hP zl_645.1 zl_645.2 hi1 dMO_held_16 ?_
  exact zr_zret hx hb hr hlk hP hS (zs_bn h.1) h.2 dMO_held_17
set_option maxHeartbeats 4000000 in
set_option maxRecDepth 100000 in
theorem zc_MO_one (l : Launch) (g : zs_G) (A : Nat → Prop) {l1 : Int32} {l2 : Int32} {l3 : Int32}  {st : zs_T} {K : Int32 → zs_T → Prop} (h : zf_MO_one l1 l2 l3 st K) : Met l yMO_one (.code yMO_one cMO_one 4 (some .boolean) :: zs_tb) (zs_rm 0 0) (zs_Pc zs_nl g zs_ly zs_N A [.ref (g.2.1 635), .int l1, .int l2, .int l3] st) (zs_Qi g zs_ly zs_N A K) 0 0 A := by
  refine zs_met (cc := cMO_one) (maxL := 4) (ret := (some .boolean)) (by decide) (Nat.le_of_ble_eq_true rfl) (fun p e s m below meth c hM => ?_)
  have hM : zs_M p c cMO_one 4 s m meth [.ref (g.2.1 635), .int l1, .int l2, .int l3].toArray "ThriftyStoresModel" (some .boolean) g := hM
  obtain ⟨hx, hb, hml, hr, hlk, hts, hown, hK⟩ := id hM
  intro ls H locs hl hP hS
  have hl : lv_has ls 4 [(0, .ref (g.2.1 635)), (1, .int l1), (2, .int l2), (3, .int l3)] := hl
  unfold zf_MO_one at h
  refine lv_iload_n hx hb dMO_one_0 rfl (lv_at hl 2 rfl) ?_
  refine lv_iload_n hx hb dMO_one_1 rfl (lv_at hl 3 rfl) ?_
  refine lv_icmp_eq (tgt := 25) hx hb dMO_one_2 rfl (fun hc => ?_) (fun hc => ?_)
  · have h := h.1 hc
    clear hc
    refine lv_iconst (v := 1) hx hb dMO_one_25 (by decide) ?_
    refine lv_goto (tgt := 30) hx hb dMO_one_26 rfl ?_
    exact zr_zret hx hb hr hlk hP hS rfl h dMO_one_30
  · have h := h.2 hc
    clear hc
    refine lv_aload_n hx hb dMO_one_5 rfl (lv_at hl 0 rfl) ?_
    refine zr_getr (b := 644) hx hb hts zi_MO hown hK.1 hP zl_635.1 zl_635.2 rfl 13 (by decide) rfl (hts _ zq_746) dMO_one_6 ?_
    refine lv_sipush (v := 256) hx hb dMO_one_9 (by decide) ?_
    refine lv_iload_n hx hb dMO_one_12 rfl (lv_at hl 1 rfl) ?_
    refine lv_imul hx hb dMO_one_13 ?_
    refine lv_bipush (v := 16) hx hb dMO_one_14 (by decide) ?_
    refine lv_iload_n hx hb dMO_one_16 rfl (lv_at hl 2 rfl) ?_
    refine lv_imul hx hb dMO_one_17 ?_
    refine lv_iadd hx hb dMO_one_18 ?_
    refine lv_iload_n hx hb dMO_one_19 rfl (lv_at hl 3 rfl) ?_
    refine lv_iadd hx hb dMO_one_20 ?_
    obtain ⟨hi1, h⟩ := h
    refine zr_zald hx hb hK.1 hP zl_644.1 zl_644.2 hi1 dMO_one_21 ?_
    refine lv_if_eq (tgt := 29) hx hb dMO_one_22 rfl (fun hc => ?_) (fun hc => ?_)
    · have h := h.1 hc
      clear hc
      refine lv_iconst (v := 0) hx hb dMO_one_29 (by decide) ?_
      exact zr_zret hx hb hr hlk hP hS rfl h dMO_one_30
    · have h := h.2 hc
      clear hc
      refine lv_iconst (v := 1) hx hb dMO_one_25 (by decide) ?_
      refine lv_goto (tgt := 30) hx hb dMO_one_26 rfl ?_
      exact zr_zret hx hb hr hlk hP hS rfl h dMO_one_30
set_option maxHeartbeats 4000000 in
set_option maxRecDepth 100000 in
theorem zw_MO_fact_88 (hM : zs_M p c cMO_fact 6 s m meth args "ThriftyStoresModel" (some .boolean) g)   {K : Int32 → zs_T → Prop}   (l1 : Int32) (l2 : Int32) (l3 : Int32) (l4 : Int32) (s0 : Int32) (st : zs_T) (h : zf_MO_fact_88 K l1 l2 l3 l4 s0 st) : zs_Go p l e (zs_rm 1 23) s m args below meth c g A (MQ below (zs_Qi g zs_ly zs_N A K) args s 0 0 A) 6 88 [(0, .ref (g.2.1 635)), (1, .int l1), (2, .int l2), (3, .int l3), (4, .int l4)] [.int s0, .ref (g.2.1 635)] st := by
  obtain ⟨hx, hb, hml, hr, hlk, hts, hown, hK⟩ := id hM
  intro ls H locs hl hP hS
  unfold zf_MO_fact_88 at h
  refine zr_put hx hb hts zi_MO tyMO tyMO_ok nmMO hown hK.1 hP hS zl_635.1 zl_635.2 rfl 0 (by decide) rfl (hts _ zq_733) rfl rfl rfl dMO_fact_88 (fun H locs hP hS => ?_)
  obtain ⟨t601, ez⟩ : ∃ tz : zs_T, tz = zs_i st 635 0 s0 := ⟨_, rfl⟩
  have h := h t601 ez
  have hP : zs_P g zs_ly zs_N A t601 H := by rw [ez]; exact hP
  clear ez
  refine lv_aload_n hx hb dMO_fact_91 rfl (lv_at hl 0 rfl) ?_
  refine zr_geti hx hb hts zi_MO hown hK.1 hP zl_635.1 zl_635.2 rfl 0 (by decide) rfl (hts _ zq_733) dMO_fact_92 ?_
  refine lv_if_gt (tgt := 107) hx hb dMO_fact_95 rfl (fun hc => ?_) (fun hc => ?_)
  · have h := h.1 hc
    clear hc
    refine lv_iconst (v := 0) hx hb dMO_fact_107 (by decide) ?_
    exact zr_zret hx hb hr hlk hP hS rfl h dMO_fact_108
  · have h := h.2 hc
    clear hc
    refine lv_aload_n hx hb dMO_fact_98 rfl (lv_at hl 0 rfl) ?_
    refine zr_getr (b := 643) hx hb hts zi_MO hown hK.1 hP zl_635.1 zl_635.2 rfl 12 (by decide) rfl (hts _ zq_745) dMO_fact_99 ?_
    refine lv_iload_n hx hb dMO_fact_102 rfl (lv_at hl 1 rfl) ?_
    obtain ⟨hi602, h⟩ := h
    refine zr_zald hx hb hK.1 hP zl_643.1 zl_643.2 hi602 dMO_fact_103 ?_
    refine lv_if_ne (tgt := 109) hx hb dMO_fact_104 rfl (fun hc => ?_) (fun hc => ?_)
    · have h := h.1 hc
      clear hc
      refine lv_iload_n hx hb dMO_fact_109 rfl (lv_at hl 2 rfl) ?_
      refine lv_if_ne (tgt := 134) hx hb dMO_fact_110 rfl (fun hc => ?_) (fun hc => ?_)
      · have h := h.1 hc
        clear hc
        refine lv_iload_n hx hb dMO_fact_134 rfl (lv_at hl 2 rfl) ?_
        refine lv_iconst (v := 1) hx hb dMO_fact_135 (by decide) ?_
        refine lv_icmp_ne (tgt := 150) hx hb dMO_fact_136 rfl (fun hc => ?_) (fun hc => ?_)
        · have h := h.1 hc
          clear hc
          refine lv_iload_n hx hb dMO_fact_150 rfl (lv_at hl 2 rfl) ?_
          refine lv_iconst (v := 3) hx hb dMO_fact_151 (by decide) ?_
          refine lv_icmp_eq (tgt := 169) hx hb dMO_fact_152 rfl (fun hc => ?_) (fun hc => ?_)
          · have h := h.1 hc
            clear hc
            refine lv_iconst (v := 1) hx hb dMO_fact_169 (by decide) ?_
            refine lv_goto (tgt := 174) hx hb dMO_fact_170 rfl ?_
            exact zr_zret hx hb hr hlk hP hS rfl h dMO_fact_174
          · have h := h.2 hc
            clear hc
            refine lv_aload_n hx hb dMO_fact_155 rfl (lv_at hl 0 rfl) ?_
            refine zr_getr (b := 646) hx hb hts zi_MO hown hK.1 hP zl_635.1 zl_635.2 rfl 15 (by decide) rfl (hts _ zq_748) dMO_fact_156 ?_
            refine lv_bipush (v := 16) hx hb dMO_fact_159 (by decide) ?_
            refine lv_iload_n hx hb dMO_fact_161 rfl (lv_at hl 1 rfl) ?_
            refine lv_imul hx hb dMO_fact_162 ?_
            refine lv_iload_n hx hb dMO_fact_163 rfl (lv_at hl 3 rfl) ?_
            refine lv_iadd hx hb dMO_fact_164 ?_
            obtain ⟨hi603, h⟩ := h
            refine zr_zald hx hb hK.1 hP zl_646.1 zl_646.2 hi603 dMO_fact_165 ?_
            refine lv_if_eq (tgt := 173) hx hb dMO_fact_166 rfl (fun hc => ?_) (fun hc => ?_)
            · have h := h.1 hc
              clear hc
              refine lv_iconst (v := 0) hx hb dMO_fact_173 (by decide) ?_
              exact zr_zret hx hb hr hlk hP hS rfl h dMO_fact_174
            · have h := h.2 hc
              clear hc
              refine lv_iconst (v := 1) hx hb dMO_fact_169 (by decide) ?_
              refine lv_goto (tgt := 174) hx hb dMO_fact_170 rfl ?_
              exact zr_zret hx hb hr hlk hP hS rfl h dMO_fact_174
        · have h := h.2 hc
          clear hc
          refine lv_aload_n hx hb dMO_fact_139 rfl (lv_at hl 0 rfl) ?_
          refine lv_iload_n hx hb dMO_fact_140 rfl (lv_at hl 1 rfl) ?_
          refine lv_iload_n hx hb dMO_fact_141 rfl (lv_at hl 3 rfl) ?_
          refine lv_iload hx hb dMO_fact_142 (lv_at hl 4 rfl) ?_
          refine zr_calli (va_runV (As := [.int l1, .int l3, .int l4]) (rest := []) ⟨hx, hb, hml, hown, hts⟩ (zc_MO_held l g A  h) (cwV 3 hts (zs_gV zq_893 zq_895 zp_45 zq_8 zq_896) rfl rfl rfl ⟨rfl, by decide, by decide, by decide +kernel⟩ ⟨Nat.le_of_ble_eq_true rfl, Nat.le_of_ble_eq_true rfl⟩) (zs_preV zs_nwk hK hP zl_635.1 zl_635.2 rfl) rfl rfl hl.1 rfl (lv_room (Nat.le_of_ble_eq_true rfl)) dMO_fact_144 ⟨Nat.le_refl _, Nat.le_refl _⟩) hS (fun r605 u604 H locs h hP hS => ?_)
          refine lv_goto (tgt := 174) hx hb dMO_fact_147 rfl ?_
          exact zr_zret hx hb hr hlk hP hS (zs_bn h.1) h.2 dMO_fact_174
      · have h := h.2 hc
        clear hc
        refine lv_aload_n hx hb dMO_fact_113 rfl (lv_at hl 0 rfl) ?_
        refine zr_getr (b := 644) hx hb hts zi_MO hown hK.1 hP zl_635.1 zl_635.2 rfl 13 (by decide) rfl (hts _ zq_746) dMO_fact_114 ?_
        refine lv_sipush (v := 256) hx hb dMO_fact_117 (by decide) ?_
        refine lv_iload_n hx hb dMO_fact_120 rfl (lv_at hl 1 rfl) ?_
        refine lv_imul hx hb dMO_fact_121 ?_
        refine lv_bipush (v := 16) hx hb dMO_fact_122 (by decide) ?_
        refine lv_iload_n hx hb dMO_fact_124 rfl (lv_at hl 3 rfl) ?_
        refine lv_imul hx hb dMO_fact_125 ?_
        refine lv_iadd hx hb dMO_fact_126 ?_
        refine lv_iload hx hb dMO_fact_127 (lv_at hl 4 rfl) ?_
        refine lv_iadd hx hb dMO_fact_129 ?_
        obtain ⟨hi607, h⟩ := h
        refine zr_zald hx hb hK.1 hP zl_644.1 zl_644.2 hi607 dMO_fact_130 ?_
        refine lv_goto (tgt := 174) hx hb dMO_fact_131 rfl ?_
        exact zr_zret hx hb hr hlk hP hS (zs_bn h.1) h.2 dMO_fact_174
    · have h := h.2 hc
      clear hc
      refine lv_iconst (v := 0) hx hb dMO_fact_107 (by decide) ?_
      exact zr_zret hx hb hr hlk hP hS rfl h dMO_fact_108
set_option maxHeartbeats 4000000 in
set_option maxRecDepth 100000 in
theorem zw_MO_fact_63 (hM : zs_M p c cMO_fact 6 s m meth args "ThriftyStoresModel" (some .boolean) g)   {K : Int32 → zs_T → Prop}   (l1 : Int32) (l2 : Int32) (l3 : Int32) (l4 : Int32) (st : zs_T) (h : zf_MO_fact_63 K l1 l2 l3 l4 st) : zs_Go p l e (zs_rm 1 23) s m args below meth c g A (MQ below (zs_Qi g zs_ly zs_N A K) args s 0 0 A) 6 63 [(0, .ref (g.2.1 635)), (1, .int l1), (2, .int l2), (3, .int l3), (4, .int l4)] [.ref (g.2.1 635)] st := by
  obtain ⟨hx, hb, hml, hr, hlk, hts, hown, hK⟩ := id hM
  intro ls H locs hl hP hS
  unfold zf_MO_fact_63 at h
  refine lv_iconst (v := 1) hx hb dMO_fact_63 (by decide) ?_
  refine lv_goto (tgt := 88) hx hb dMO_fact_64 rfl ?_
  exact zw_MO_fact_88 hM  l1 l2 l3 l4 1 st h ls H locs (lv_sub hl [0, 1, 2, 3, 4] rfl) hP hS
set_option maxHeartbeats 4000000 in
set_option maxRecDepth 100000 in
theorem zw_MO_fact_33 (hM : zs_M p c cMO_fact 6 s m meth args "ThriftyStoresModel" (some .boolean) g)   {K : Int32 → zs_T → Prop}   (l1 : Int32) (l2 : Int32) (l3 : Int32) (l4 : Int32) (s0 : Int32) (st : zs_T) (h : zf_MO_fact_33 K l1 l2 l3 l4 s0 st) : zs_Go p l e (zs_rm 1 23) s m args below meth c g A (MQ below (zs_Qi g zs_ly zs_N A K) args s 0 0 A) 6 33 [(0, .ref (g.2.1 635)), (1, .int l1), (2, .int l2), (3, .int l3), (4, .int l4)] [.int s0] st := by
  obtain ⟨hx, hb, hml, hr, hlk, hts, hown, hK⟩ := id hM
  intro ls H locs hl hP hS
  unfold zf_MO_fact_33 at h
  refine lv_istore hx hb dMO_fact_33 hl (by decide) rfl (fun ls hl => ?_)
  have hl : lv_has ls 6 [(5, .int s0), (0, .ref (g.2.1 635)), (1, .int l1), (2, .int l2), (3, .int l3), (4, .int l4)] := hl
  refine lv_aload_n hx hb dMO_fact_35 rfl (lv_at hl 1 rfl) ?_
  refine lv_iload_n hx hb dMO_fact_36 rfl (lv_at hl 2 rfl) ?_
  refine lv_if_lt (tgt := 63) hx hb dMO_fact_37 rfl (fun hc => ?_) (fun hc => ?_)
  · have h := h.1 hc
    clear hc
    exact zw_MO_fact_63 hM  l1 l2 l3 l4 st h ls H locs (lv_sub hl [1, 2, 3, 4, 5] rfl) hP hS
  · have h := h.2 hc
    clear hc
    refine lv_iload_n hx hb dMO_fact_40 rfl (lv_at hl 2 rfl) ?_
    refine lv_aload_n hx hb dMO_fact_41 rfl (lv_at hl 1 rfl) ?_
    refine zr_geti hx hb hts zi_MO hown hK.1 hP zl_635.1 zl_635.2 rfl 5 (by decide) rfl (hts _ zq_738) dMO_fact_42 ?_
    refine lv_icmp_gt (tgt := 63) hx hb dMO_fact_45 rfl (fun hc => ?_) (fun hc => ?_)
    · have h := h.1 hc
      clear hc
      exact zw_MO_fact_63 hM  l1 l2 l3 l4 st h ls H locs (lv_sub hl [1, 2, 3, 4, 5] rfl) hP hS
    · have h := h.2 hc
      clear hc
      refine lv_iload_n hx hb dMO_fact_48 rfl (lv_at hl 4 rfl) ?_
      refine zr_calli (va_runS (As := [.int l3]) (rest := [.ref (g.2.1 635)]) ⟨hx, hb, hml, hown, hts⟩ (zc_MO_register l g A  h) (va_cwS 1 hts (zs_gS zq_838 zq_839 zq_8 zq_840) rfl rfl rfl ⟨by decide, by decide, by decide +kernel⟩ ⟨Nat.le_of_ble_eq_true rfl, Nat.le_of_ble_eq_true rfl⟩) (zs_preS zs_nwk hK hP) rfl rfl hl.1 rfl (lv_room (Nat.le_of_ble_eq_true rfl)) dMO_fact_49 ⟨Nat.le_refl _, Nat.le_refl _⟩) hS (fun r302 u301 H locs h hP hS => ?_)
      refine lv_if_eq (tgt := 63) hx hb dMO_fact_52 rfl (fun hc => ?_) (fun hc => ?_)
      · have h := h.1 hc
        clear hc
        exact zw_MO_fact_63 hM  l1 l2 l3 l4 u301 h ls H locs (lv_sub hl [1, 2, 3, 4, 5] rfl) hP hS
      · have h := h.2 hc
        clear hc
        refine lv_iload hx hb dMO_fact_55 (lv_at hl 5 rfl) ?_
        refine zr_calli (va_runS (As := [.int l4]) (rest := [.ref (g.2.1 635)]) ⟨hx, hb, hml, hown, hts⟩ (zc_MO_register l g A  h) (va_cwS 1 hts (zs_gS zq_838 zq_839 zq_8 zq_840) rfl rfl rfl ⟨by decide, by decide, by decide +kernel⟩ ⟨Nat.le_of_ble_eq_true rfl, Nat.le_of_ble_eq_true rfl⟩) (zs_preS zs_nwk hK hP) rfl rfl hl.1 rfl (lv_room (Nat.le_of_ble_eq_true rfl)) dMO_fact_57 ⟨Nat.le_refl _, Nat.le_refl _⟩) hS (fun r304 u303 H locs h hP hS => ?_)
        refine lv_if_ne (tgt := 67) hx hb dMO_fact_60 rfl (fun hc => ?_) (fun hc => ?_)
        · have h := h.1 hc
          clear hc
          refine lv_iload hx hb dMO_fact_67 (lv_at hl 0 rfl) ?_
          refine lv_if_eq (tgt := 76) hx hb dMO_fact_69 rfl (fun hc => ?_) (fun hc => ?_)
          · have h := h.1 hc
            clear hc
            refine lv_aload_n hx hb dMO_fact_76 rfl (lv_at hl 1 rfl) ?_
            refine zr_geti hx hb hts zi_MO hown hK.1 hP zl_635.1 zl_635.2 rfl 6 (by decide) rfl (hts _ zq_739) dMO_fact_77 ?_
            refine lv_if_ne (tgt := 87) hx hb dMO_fact_80 rfl (fun hc => ?_) (fun hc => ?_)
            · have h := h.1 hc
              clear hc
              refine lv_iconst (v := 0) hx hb dMO_fact_87 (by decide) ?_
              exact zw_MO_fact_88 hM  l1 l2 l3 l4 0 u303 h ls H locs (lv_sub hl [1, 2, 3, 4, 5] rfl) hP hS
            · have h := h.2 hc
              clear hc
              refine lv_iconst (v := 3) hx hb dMO_fact_83 (by decide) ?_
              refine lv_goto (tgt := 88) hx hb dMO_fact_84 rfl ?_
              exact zw_MO_fact_88 hM  l1 l2 l3 l4 3 u303 h ls H locs (lv_sub hl [1, 2, 3, 4, 5] rfl) hP hS
          · have h := h.2 hc
            clear hc
            refine lv_iconst (v := 2) hx hb dMO_fact_72 (by decide) ?_
            refine lv_goto (tgt := 88) hx hb dMO_fact_73 rfl ?_
            exact zw_MO_fact_88 hM  l1 l2 l3 l4 2 u303 h ls H locs (lv_sub hl [1, 2, 3, 4, 5] rfl) hP hS
        · have h := h.2 hc
          clear hc
          exact zw_MO_fact_63 hM  l1 l2 l3 l4 u303 h ls H locs (lv_sub hl [1, 2, 3, 4, 5] rfl) hP hS
set_option maxHeartbeats 4000000 in
set_option maxRecDepth 100000 in
theorem zw_MO_fact_28 (hM : zs_M p c cMO_fact 6 s m meth args "ThriftyStoresModel" (some .boolean) g)   {K : Int32 → zs_T → Prop}   (l1 : Int32) (l2 : Int32) (l3 : Int32) (l4 : Int32) (st : zs_T) (h : zf_MO_fact_28 K l1 l2 l3 l4 st) : zs_Go p l e (zs_rm 1 23) s m args below meth c g A (MQ below (zs_Qi g zs_ly zs_N A K) args s 0 0 A) 6 28 [(0, .ref (g.2.1 635)), (1, .int l1), (2, .int l2), (3, .int l3), (4, .int l4)] [] st := by
  obtain ⟨hx, hb, hml, hr, hlk, hts, hown, hK⟩ := id hM
  intro ls H locs hl hP hS
  unfold zf_MO_fact_28 at h
  refine lv_iconst (v := 1) hx hb dMO_fact_28 (by decide) ?_
  refine lv_goto (tgt := 33) hx hb dMO_fact_29 rfl ?_
  exact zw_MO_fact_33 hM  l1 l2 l3 l4 1 st h ls H locs (lv_sub hl [0, 1, 2, 3, 4] rfl) hP hS
set_option maxHeartbeats 4000000 in
set_option maxRecDepth 100000 in
theorem zw_MO_fact_32 (hM : zs_M p c cMO_fact 6 s m meth args "ThriftyStoresModel" (some .boolean) g)   {K : Int32 → zs_T → Prop}   (l1 : Int32) (l2 : Int32) (l3 : Int32) (l4 : Int32) (st : zs_T) (h : zf_MO_fact_32 K l1 l2 l3 l4 st) : zs_Go p l e (zs_rm 1 23) s m args below meth c g A (MQ below (zs_Qi g zs_ly zs_N A K) args s 0 0 A) 6 32 [(0, .ref (g.2.1 635)), (1, .int l1), (2, .int l2), (3, .int l3), (4, .int l4)] [] st := by
  obtain ⟨hx, hb, hml, hr, hlk, hts, hown, hK⟩ := id hM
  intro ls H locs hl hP hS
  unfold zf_MO_fact_32 at h
  refine lv_iconst (v := 0) hx hb dMO_fact_32 (by decide) ?_
  exact zw_MO_fact_33 hM  l1 l2 l3 l4 0 st h ls H locs (lv_sub hl [0, 1, 2, 3, 4] rfl) hP hS
set_option maxHeartbeats 4000000 in
set_option maxRecDepth 100000 in
theorem zw_MO_fact_19 (hM : zs_M p c cMO_fact 6 s m meth args "ThriftyStoresModel" (some .boolean) g)   {K : Int32 → zs_T → Prop}   (l1 : Int32) (l2 : Int32) (l3 : Int32) (l4 : Int32) (st : zs_T) (h : zf_MO_fact_19 K l1 l2 l3 l4 st) : zs_Go p l e (zs_rm 1 23) s m args below meth c g A (MQ below (zs_Qi g zs_ly zs_N A K) args s 0 0 A) 6 19 [(0, .ref (g.2.1 635)), (1, .int l1), (2, .int l2), (3, .int l3), (4, .int l4)] [] st := by
  obtain ⟨hx, hb, hml, hr, hlk, hts, hown, hK⟩ := id hM
  intro ls H locs hl hP hS
  unfold zf_MO_fact_19 at h
  refine lv_iload_n hx hb dMO_fact_19 rfl (lv_at hl 2 rfl) ?_
  refine lv_iconst (v := 2) hx hb dMO_fact_20 (by decide) ?_
  refine lv_icmp_le (tgt := 32) hx hb dMO_fact_21 rfl (fun hc => ?_) (fun hc => ?_)
  · have h := h.1 hc
    clear hc
    exact zw_MO_fact_32 hM  l1 l2 l3 l4 st h ls H locs (lv_sub hl [0, 1, 2, 3, 4] rfl) hP hS
  · have h := h.2 hc
    clear hc
    refine lv_iload_n hx hb dMO_fact_24 rfl (lv_at hl 3 rfl) ?_
    refine lv_if_eq (tgt := 32) hx hb dMO_fact_25 rfl (fun hc => ?_) (fun hc => ?_)
    · have h := h.1 hc
      clear hc
      exact zw_MO_fact_32 hM  l1 l2 l3 l4 st h ls H locs (lv_sub hl [0, 1, 2, 3, 4] rfl) hP hS
    · have h := h.2 hc
      clear hc
      exact zw_MO_fact_28 hM  l1 l2 l3 l4 st h ls H locs (lv_sub hl [0, 1, 2, 3, 4] rfl) hP hS
set_option maxHeartbeats 4000000 in
set_option maxRecDepth 100000 in
theorem zc_MO_fact (l : Launch) (g : zs_G) (A : Nat → Prop) {l1 : Int32} {l2 : Int32} {l3 : Int32} {l4 : Int32}  {st : zs_T} {K : Int32 → zs_T → Prop} (h : zf_MO_fact l1 l2 l3 l4 st K) : Met l yMO_fact (.code yMO_fact cMO_fact 6 (some .boolean) :: zs_tb) (zs_rm 1 23) (zs_Pc zs_nl g zs_ly zs_N A [.ref (g.2.1 635), .int l1, .int l2, .int l3, .int l4] st) (zs_Qi g zs_ly zs_N A K) 0 0 A := by
  refine zs_met (cc := cMO_fact) (maxL := 6) (ret := (some .boolean)) (by decide) (Nat.le_of_ble_eq_true rfl) (fun p e s m below meth c hM => ?_)
  have hM : zs_M p c cMO_fact 6 s m meth [.ref (g.2.1 635), .int l1, .int l2, .int l3, .int l4].toArray "ThriftyStoresModel" (some .boolean) g := hM
  obtain ⟨hx, hb, hml, hr, hlk, hts, hown, hK⟩ := id hM
  intro ls H locs hl hP hS
  have hl : lv_has ls 6 [(0, .ref (g.2.1 635)), (1, .int l1), (2, .int l2), (3, .int l3), (4, .int l4)] := hl
  unfold zf_MO_fact at h
  refine lv_iload_n hx hb dMO_fact_0 rfl (lv_at hl 2 rfl) ?_
  refine lv_if_lt (tgt := 28) hx hb dMO_fact_1 rfl (fun hc => ?_) (fun hc => ?_)
  · have h := h.1 hc
    clear hc
    exact zw_MO_fact_28 hM  l1 l2 l3 l4 st h ls H locs (lv_sub hl [0, 1, 2, 3, 4] rfl) hP hS
  · have h := h.2 hc
    clear hc
    refine lv_iload_n hx hb dMO_fact_4 rfl (lv_at hl 2 rfl) ?_
    refine lv_iconst (v := 3) hx hb dMO_fact_5 (by decide) ?_
    refine lv_icmp_gt (tgt := 28) hx hb dMO_fact_6 rfl (fun hc => ?_) (fun hc => ?_)
    · have h := h.1 hc
      clear hc
      exact zw_MO_fact_28 hM  l1 l2 l3 l4 st h ls H locs (lv_sub hl [0, 1, 2, 3, 4] rfl) hP hS
    · have h := h.2 hc
      clear hc
      refine lv_iload_n hx hb dMO_fact_9 rfl (lv_at hl 2 rfl) ?_
      refine lv_iconst (v := 1) hx hb dMO_fact_10 (by decide) ?_
      refine lv_icmp_le (tgt := 19) hx hb dMO_fact_11 rfl (fun hc => ?_) (fun hc => ?_)
      · have h := h.1 hc
        clear hc
        exact zw_MO_fact_19 hM  l1 l2 l3 l4 st h ls H locs (lv_sub hl [0, 1, 2, 3, 4] rfl) hP hS
      · have h := h.2 hc
        clear hc
        refine lv_iload hx hb dMO_fact_14 (lv_at hl 4 rfl) ?_
        refine lv_if_ne (tgt := 28) hx hb dMO_fact_16 rfl (fun hc => ?_) (fun hc => ?_)
        · have h := h.1 hc
          clear hc
          exact zw_MO_fact_28 hM  l1 l2 l3 l4 st h ls H locs (lv_sub hl [0, 1, 2, 3, 4] rfl) hP hS
        · have h := h.2 hc
          clear hc
          exact zw_MO_fact_19 hM  l1 l2 l3 l4 st h ls H locs (lv_sub hl [0, 1, 2, 3, 4] rfl) hP hS
set_option maxHeartbeats 4000000 in
set_option maxRecDepth 100000 in
theorem zw_MO_free_36 (hM : zs_M p c cMO_free 3 s m meth args "ThriftyStoresModel" (some .boolean) g)   {K : Int32 → zs_T → Prop}   (l1 : Int32) (l2 : Int32) (s0 : Int32) (st : zs_T) (h : zf_MO_free_36 K l1 l2 s0 st) : zs_Go p l e (zs_rm 1 20) s m args below meth c g A (MQ below (zs_Qi g zs_ly zs_N A K) args s 0 0 A) 3 36 [(0, .ref (g.2.1 635)), (1, .int l1), (2, .int l2)] [.int s0, .ref (g.2.1 635)] st := by
  obtain ⟨hx, hb, hml, hr, hlk, hts, hown, hK⟩ := id hM
  intro ls H locs hl hP hS
  unfold zf_MO_free_36 at h
  refine zr_put hx hb hts zi_MO tyMO tyMO_ok nmMO hown hK.1 hP hS zl_635.1 zl_635.2 rfl 0 (by decide) rfl (hts _ zq_733) rfl rfl rfl dMO_free_36 (fun H locs hP hS => ?_)
  obtain ⟨t201, ez⟩ : ∃ tz : zs_T, tz = zs_i st 635 0 s0 := ⟨_, rfl⟩
  have h := h t201 ez
  have hP : zs_P g zs_ly zs_N A t201 H := by rw [ez]; exact hP
  clear ez
  refine lv_aload_n hx hb dMO_free_39 rfl (lv_at hl 0 rfl) ?_
  refine zr_geti hx hb hts zi_MO hown hK.1 hP zl_635.1 zl_635.2 rfl 0 (by decide) rfl (hts _ zq_733) dMO_free_40 ?_
  refine lv_if_ne (tgt := 73) hx hb dMO_free_43 rfl (fun hc => ?_) (fun hc => ?_)
  · have h := h.1 hc
    clear hc
    refine lv_iconst (v := 0) hx hb dMO_free_73 (by decide) ?_
    exact zr_zret hx hb hr hlk hP hS rfl h dMO_free_74
  · have h := h.2 hc
    clear hc
    refine lv_aload_n hx hb dMO_free_46 rfl (lv_at hl 0 rfl) ?_
    refine zr_getr (b := 643) hx hb hts zi_MO hown hK.1 hP zl_635.1 zl_635.2 rfl 12 (by decide) rfl (hts _ zq_745) dMO_free_47 ?_
    refine lv_iload_n hx hb dMO_free_50 rfl (lv_at hl 1 rfl) ?_
    obtain ⟨hi202, h⟩ := h
    refine zr_zald hx hb hK.1 hP zl_643.1 zl_643.2 hi202 dMO_free_51 ?_
    refine lv_if_eq (tgt := 73) hx hb dMO_free_52 rfl (fun hc => ?_) (fun hc => ?_)
    · have h := h.1 hc
      clear hc
      refine lv_iconst (v := 0) hx hb dMO_free_73 (by decide) ?_
      exact zr_zret hx hb hr hlk hP hS rfl h dMO_free_74
    · have h := h.2 hc
      clear hc
      refine lv_aload_n hx hb dMO_free_55 rfl (lv_at hl 0 rfl) ?_
      refine zr_getr (b := 647) hx hb hts zi_MO hown hK.1 hP zl_635.1 zl_635.2 rfl 16 (by decide) rfl (hts _ zq_749) dMO_free_56 ?_
      refine lv_bipush (v := 16) hx hb dMO_free_59 (by decide) ?_
      refine lv_iload_n hx hb dMO_free_61 rfl (lv_at hl 1 rfl) ?_
      refine lv_imul hx hb dMO_free_62 ?_
      refine lv_iload_n hx hb dMO_free_63 rfl (lv_at hl 2 rfl) ?_
      refine lv_iadd hx hb dMO_free_64 ?_
      obtain ⟨hi203, h⟩ := h
      refine zr_zald hx hb hK.1 hP zl_647.1 zl_647.2 hi203 dMO_free_65 ?_
      refine lv_if_eq (tgt := 73) hx hb dMO_free_66 rfl (fun hc => ?_) (fun hc => ?_)
      · have h := h.1 hc
        clear hc
        refine lv_iconst (v := 0) hx hb dMO_free_73 (by decide) ?_
        exact zr_zret hx hb hr hlk hP hS rfl h dMO_free_74
      · have h := h.2 hc
        clear hc
        refine lv_iconst (v := 1) hx hb dMO_free_69 (by decide) ?_
        refine lv_goto (tgt := 74) hx hb dMO_free_70 rfl ?_
        exact zr_zret hx hb hr hlk hP hS rfl h dMO_free_74
set_option maxHeartbeats 4000000 in
set_option maxRecDepth 100000 in
theorem zw_MO_free_20 (hM : zs_M p c cMO_free 3 s m meth args "ThriftyStoresModel" (some .boolean) g)   {K : Int32 → zs_T → Prop}   (l1 : Int32) (l2 : Int32) (st : zs_T) (h : zf_MO_free_20 K l1 l2 st) : zs_Go p l e (zs_rm 1 20) s m args below meth c g A (MQ below (zs_Qi g zs_ly zs_N A K) args s 0 0 A) 3 20 [(0, .ref (g.2.1 635)), (1, .int l1), (2, .int l2)] [.ref (g.2.1 635)] st := by
  obtain ⟨hx, hb, hml, hr, hlk, hts, hown, hK⟩ := id hM
  intro ls H locs hl hP hS
  unfold zf_MO_free_20 at h
  refine lv_iconst (v := 1) hx hb dMO_free_20 (by decide) ?_
  refine lv_goto (tgt := 36) hx hb dMO_free_21 rfl ?_
  exact zw_MO_free_36 hM  l1 l2 1 st h ls H locs (lv_sub hl [0, 1, 2] rfl) hP hS
set_option maxHeartbeats 4000000 in
set_option maxRecDepth 100000 in
theorem zc_MO_free (l : Launch) (g : zs_G) (A : Nat → Prop) {l1 : Int32} {l2 : Int32}  {st : zs_T} {K : Int32 → zs_T → Prop} (h : zf_MO_free l1 l2 st K) : Met l yMO_free (.code yMO_free cMO_free 3 (some .boolean) :: zs_tb) (zs_rm 1 20) (zs_Pc zs_nl g zs_ly zs_N A [.ref (g.2.1 635), .int l1, .int l2] st) (zs_Qi g zs_ly zs_N A K) 0 0 A := by
  refine zs_met (cc := cMO_free) (maxL := 3) (ret := (some .boolean)) (by decide) (Nat.le_of_ble_eq_true rfl) (fun p e s m below meth c hM => ?_)
  have hM : zs_M p c cMO_free 3 s m meth [.ref (g.2.1 635), .int l1, .int l2].toArray "ThriftyStoresModel" (some .boolean) g := hM
  obtain ⟨hx, hb, hml, hr, hlk, hts, hown, hK⟩ := id hM
  intro ls H locs hl hP hS
  have hl : lv_has ls 3 [(0, .ref (g.2.1 635)), (1, .int l1), (2, .int l2)] := hl
  unfold zf_MO_free at h
  refine lv_aload_n hx hb dMO_free_0 rfl (lv_at hl 0 rfl) ?_
  refine lv_iload_n hx hb dMO_free_1 rfl (lv_at hl 1 rfl) ?_
  refine lv_if_lt (tgt := 20) hx hb dMO_free_2 rfl (fun hc => ?_) (fun hc => ?_)
  · have h := h.1 hc
    clear hc
    exact zw_MO_free_20 hM  l1 l2 st h ls H locs (lv_sub hl [0, 1, 2] rfl) hP hS
  · have h := h.2 hc
    clear hc
    refine lv_iload_n hx hb dMO_free_5 rfl (lv_at hl 1 rfl) ?_
    refine lv_aload_n hx hb dMO_free_6 rfl (lv_at hl 0 rfl) ?_
    refine zr_geti hx hb hts zi_MO hown hK.1 hP zl_635.1 zl_635.2 rfl 5 (by decide) rfl (hts _ zq_738) dMO_free_7 ?_
    refine lv_icmp_gt (tgt := 20) hx hb dMO_free_10 rfl (fun hc => ?_) (fun hc => ?_)
    · have h := h.1 hc
      clear hc
      exact zw_MO_free_20 hM  l1 l2 st h ls H locs (lv_sub hl [0, 1, 2] rfl) hP hS
    · have h := h.2 hc
      clear hc
      refine lv_iload_n hx hb dMO_free_13 rfl (lv_at hl 2 rfl) ?_
      refine zr_calli (va_runS (As := [.int l2]) (rest := [.ref (g.2.1 635)]) ⟨hx, hb, hml, hown, hts⟩ (zc_MO_register l g A  h) (va_cwS 1 hts (zs_gS zq_838 zq_839 zq_8 zq_840) rfl rfl rfl ⟨by decide, by decide, by decide +kernel⟩ ⟨Nat.le_of_ble_eq_true rfl, Nat.le_of_ble_eq_true rfl⟩) (zs_preS zs_nwk hK hP) rfl rfl hl.1 rfl (lv_room (Nat.le_of_ble_eq_true rfl)) dMO_free_14 ⟨Nat.le_refl _, Nat.le_refl _⟩) hS (fun r2 u1 H locs h hP hS => ?_)
      refine lv_if_ne (tgt := 24) hx hb dMO_free_17 rfl (fun hc => ?_) (fun hc => ?_)
      · have h := h.1 hc
        clear hc
        refine lv_aload_n hx hb dMO_free_24 rfl (lv_at hl 0 rfl) ?_
        refine zr_geti hx hb hts zi_MO hown hK.1 hP zl_635.1 zl_635.2 rfl 6 (by decide) rfl (hts _ zq_739) dMO_free_25 ?_
        refine lv_if_ne (tgt := 35) hx hb dMO_free_28 rfl (fun hc => ?_) (fun hc => ?_)
        · have h := h.1 hc
          clear hc
          refine lv_iconst (v := 0) hx hb dMO_free_35 (by decide) ?_
          exact zw_MO_free_36 hM  l1 l2 0 u1 h ls H locs (lv_sub hl [0, 1, 2] rfl) hP hS
        · have h := h.2 hc
          clear hc
          refine lv_iconst (v := 2) hx hb dMO_free_31 (by decide) ?_
          refine lv_goto (tgt := 36) hx hb dMO_free_32 rfl ?_
          exact zw_MO_free_36 hM  l1 l2 2 u1 h ls H locs (lv_sub hl [0, 1, 2] rfl) hP hS
      · have h := h.2 hc
        clear hc
        exact zw_MO_free_20 hM  l1 l2 u1 h ls H locs (lv_sub hl [0, 1, 2] rfl) hP hS
set_option maxHeartbeats 4000000 in
set_option maxRecDepth 100000 in
theorem zc_MO_steps (l : Launch) (g : zs_G) (A : Nat → Prop)   {st : zs_T} {K : Int32 → zs_T → Prop} (h : zf_MO_steps  st K) : Met l yMO_steps (.code yMO_steps cMO_steps 1 (some .int) :: zs_tb) (zs_rm 0 0) (zs_Pc zs_nl g zs_ly zs_N A [.ref (g.2.1 635)] st) (zs_Qi g zs_ly zs_N A K) 0 0 A := by
  refine zs_met (cc := cMO_steps) (maxL := 1) (ret := (some .int)) (by decide) (Nat.le_of_ble_eq_true rfl) (fun p e s m below meth c hM => ?_)
  have hM : zs_M p c cMO_steps 1 s m meth [.ref (g.2.1 635)].toArray "ThriftyStoresModel" (some .int) g := hM
  obtain ⟨hx, hb, hml, hr, hlk, hts, hown, hK⟩ := id hM
  intro ls H locs hl hP hS
  have hl : lv_has ls 1 [(0, .ref (g.2.1 635))] := hl
  unfold zf_MO_steps at h
  refine lv_aload_n hx hb dMO_steps_0 rfl (lv_at hl 0 rfl) ?_
  refine lv_iconst (v := 0) hx hb dMO_steps_1 (by decide) ?_
  refine zr_put hx hb hts zi_MO tyMO tyMO_ok nmMO hown hK.1 hP hS zl_635.1 zl_635.2 rfl 0 (by decide) rfl (hts _ zq_733) rfl rfl rfl dMO_steps_2 (fun H locs hP hS => ?_)
  obtain ⟨t1, ez⟩ : ∃ tz : zs_T, tz = zs_i st 635 0 0 := ⟨_, rfl⟩
  have h := h t1 ez
  have hP : zs_P g zs_ly zs_N A t1 H := by rw [ez]; exact hP
  clear ez
  refine lv_aload_n hx hb dMO_steps_5 rfl (lv_at hl 0 rfl) ?_
  refine zr_geti hx hb hts zi_MO hown hK.1 hP zl_635.1 zl_635.2 rfl 29 (by decide) rfl (hts _ zq_762) dMO_steps_6 ?_
  exact zr_iret hx hb hr hlk hP hS h dMO_steps_9
set_option maxHeartbeats 4000000 in
set_option maxRecDepth 100000 in
theorem zc_MO_printed (l : Launch) (g : zs_G) (A : Nat → Prop)   {st : zs_T} {K : Int32 → zs_T → Prop} (h : zf_MO_printed  st K) : Met l yMO_printed (.code yMO_printed cMO_printed 1 (some .int) :: zs_tb) (zs_rm 0 0) (zs_Pc zs_nl g zs_ly zs_N A [.ref (g.2.1 635)] st) (zs_Qi g zs_ly zs_N A K) 0 0 A := by
  refine zs_met (cc := cMO_printed) (maxL := 1) (ret := (some .int)) (by decide) (Nat.le_of_ble_eq_true rfl) (fun p e s m below meth c hM => ?_)
  have hM : zs_M p c cMO_printed 1 s m meth [.ref (g.2.1 635)].toArray "ThriftyStoresModel" (some .int) g := hM
  obtain ⟨hx, hb, hml, hr, hlk, hts, hown, hK⟩ := id hM
  intro ls H locs hl hP hS
  have hl : lv_has ls 1 [(0, .ref (g.2.1 635))] := hl
  unfold zf_MO_printed at h
  refine lv_aload_n hx hb dMO_printed_0 rfl (lv_at hl 0 rfl) ?_
  refine lv_iconst (v := 0) hx hb dMO_printed_1 (by decide) ?_
  refine zr_put hx hb hts zi_MO tyMO tyMO_ok nmMO hown hK.1 hP hS zl_635.1 zl_635.2 rfl 0 (by decide) rfl (hts _ zq_733) rfl rfl rfl dMO_printed_2 (fun H locs hP hS => ?_)
  obtain ⟨t1, ez⟩ : ∃ tz : zs_T, tz = zs_i st 635 0 0 := ⟨_, rfl⟩
  have h := h t1 ez
  have hP : zs_P g zs_ly zs_N A t1 H := by rw [ez]; exact hP
  clear ez
  refine lv_aload_n hx hb dMO_printed_5 rfl (lv_at hl 0 rfl) ?_
  refine zr_geti hx hb hts zi_MO hown hK.1 hP zl_635.1 zl_635.2 rfl 28 (by decide) rfl (hts _ zq_761) dMO_printed_6 ?_
  exact zr_iret hx hb hr hlk hP hS h dMO_printed_9
set_option maxHeartbeats 4000000 in
set_option maxRecDepth 100000 in
theorem zw_MO_print_18 (hM : zs_M p c cMO_print 2 s m meth args "ThriftyStoresModel" (some .int) g)   {K : Int32 → zs_T → Prop}   (l1 : Int32) (s0 : Int32) (st : zs_T) (h : zf_MO_print_18 K l1 s0 st) : zs_Go p l e (zs_rm 0 0) s m args below meth c g A (MQ below (zs_Qi g zs_ly zs_N A K) args s 0 0 A) 2 18 [(0, .ref (g.2.1 635)), (1, .int l1)] [.int s0, .ref (g.2.1 635)] st := by
  obtain ⟨hx, hb, hml, hr, hlk, hts, hown, hK⟩ := id hM
  intro ls H locs hl hP hS
  unfold zf_MO_print_18 at h
  refine zr_put hx hb hts zi_MO tyMO tyMO_ok nmMO hown hK.1 hP hS zl_635.1 zl_635.2 rfl 0 (by decide) rfl (hts _ zq_733) rfl rfl rfl dMO_print_18 (fun H locs hP hS => ?_)
  obtain ⟨t201, ez⟩ : ∃ tz : zs_T, tz = zs_i st 635 0 s0 := ⟨_, rfl⟩
  have h := h t201 ez
  have hP : zs_P g zs_ly zs_N A t201 H := by rw [ez]; exact hP
  clear ez
  refine lv_aload_n hx hb dMO_print_21 rfl (lv_at hl 0 rfl) ?_
  refine zr_geti hx hb hts zi_MO hown hK.1 hP zl_635.1 zl_635.2 rfl 0 (by decide) rfl (hts _ zq_733) dMO_print_22 ?_
  refine lv_if_le (tgt := 32) hx hb dMO_print_25 rfl (fun hc => ?_) (fun hc => ?_)
  · have h := h.1 hc
    clear hc
    refine lv_aload_n hx hb dMO_print_32 rfl (lv_at hl 0 rfl) ?_
    refine zr_getr (b := 657) hx hb hts zi_MO hown hK.1 hP zl_635.1 zl_635.2 rfl 27 (by decide) rfl (hts _ zq_760) dMO_print_33 ?_
    refine lv_iload_n hx hb dMO_print_36 rfl (lv_at hl 1 rfl) ?_
    obtain ⟨hi202, h⟩ := h
    refine zr_iald hx hb hK.1 hP zl_657.1 zl_657.2 hi202 dMO_print_37 ?_
    exact zr_iret hx hb hr hlk hP hS h dMO_print_38
  · have h := h.2 hc
    clear hc
    refine lv_iconst (v := 0) hx hb dMO_print_28 (by decide) ?_
    refine lv_goto (tgt := 38) hx hb dMO_print_29 rfl ?_
    exact zr_iret hx hb hr hlk hP hS h dMO_print_38
set_option maxHeartbeats 4000000 in
set_option maxRecDepth 100000 in
theorem zw_MO_print_13 (hM : zs_M p c cMO_print 2 s m meth args "ThriftyStoresModel" (some .int) g)   {K : Int32 → zs_T → Prop}   (l1 : Int32) (st : zs_T) (h : zf_MO_print_13 K l1 st) : zs_Go p l e (zs_rm 0 0) s m args below meth c g A (MQ below (zs_Qi g zs_ly zs_N A K) args s 0 0 A) 2 13 [(0, .ref (g.2.1 635)), (1, .int l1)] [.ref (g.2.1 635)] st := by
  obtain ⟨hx, hb, hml, hr, hlk, hts, hown, hK⟩ := id hM
  intro ls H locs hl hP hS
  unfold zf_MO_print_13 at h
  refine lv_iconst (v := 1) hx hb dMO_print_13 (by decide) ?_
  refine lv_goto (tgt := 18) hx hb dMO_print_14 rfl ?_
  exact zw_MO_print_18 hM  l1 1 st h ls H locs (lv_sub hl [0, 1] rfl) hP hS
set_option maxHeartbeats 4000000 in
set_option maxRecDepth 100000 in
theorem zc_MO_print (l : Launch) (g : zs_G) (A : Nat → Prop) {l1 : Int32}  {st : zs_T} {K : Int32 → zs_T → Prop} (h : zf_MO_print l1 st K) : Met l yMO_print (.code yMO_print cMO_print 2 (some .int) :: zs_tb) (zs_rm 0 0) (zs_Pc zs_nl g zs_ly zs_N A [.ref (g.2.1 635), .int l1] st) (zs_Qi g zs_ly zs_N A K) 0 0 A := by
  refine zs_met (cc := cMO_print) (maxL := 2) (ret := (some .int)) (by decide) (Nat.le_of_ble_eq_true rfl) (fun p e s m below meth c hM => ?_)
  have hM : zs_M p c cMO_print 2 s m meth [.ref (g.2.1 635), .int l1].toArray "ThriftyStoresModel" (some .int) g := hM
  obtain ⟨hx, hb, hml, hr, hlk, hts, hown, hK⟩ := id hM
  intro ls H locs hl hP hS
  have hl : lv_has ls 2 [(0, .ref (g.2.1 635)), (1, .int l1)] := hl
  unfold zf_MO_print at h
  refine lv_aload_n hx hb dMO_print_0 rfl (lv_at hl 0 rfl) ?_
  refine lv_iload_n hx hb dMO_print_1 rfl (lv_at hl 1 rfl) ?_
  refine lv_if_lt (tgt := 13) hx hb dMO_print_2 rfl (fun hc => ?_) (fun hc => ?_)
  · have h := h.1 hc
    clear hc
    exact zw_MO_print_13 hM  l1 st h ls H locs (lv_sub hl [0, 1] rfl) hP hS
  · have h := h.2 hc
    clear hc
    refine lv_iload_n hx hb dMO_print_5 rfl (lv_at hl 1 rfl) ?_
    refine lv_aload_n hx hb dMO_print_6 rfl (lv_at hl 0 rfl) ?_
    refine zr_geti hx hb hts zi_MO hown hK.1 hP zl_635.1 zl_635.2 rfl 28 (by decide) rfl (hts _ zq_761) dMO_print_7 ?_
    refine lv_icmp_lt (tgt := 17) hx hb dMO_print_10 rfl (fun hc => ?_) (fun hc => ?_)
    · have h := h.1 hc
      clear hc
      refine lv_iconst (v := 0) hx hb dMO_print_17 (by decide) ?_
      exact zw_MO_print_18 hM  l1 0 st h ls H locs (lv_sub hl [0, 1] rfl) hP hS
    · have h := h.2 hc
      clear hc
      exact zw_MO_print_13 hM  l1 st h ls H locs (lv_sub hl [0, 1] rfl) hP hS
set_option maxHeartbeats 4000000 in
set_option maxRecDepth 100000 in
theorem zw_MO_kept_40 (hM : zs_M p c cMO_kept 3 s m meth args "ThriftyStoresModel" (some .int) g)   {K : Int32 → zs_T → Prop} {B9 : Int32 → Int32 → zs_T → Prop} (hB9 : ∀ (l1 : Int32) (l2 : Int32) (st : zs_T), B9 l1 l2 st → zs_Go p l e (zs_rm 0 0) s m args below meth c g A (MQ below (zs_Qi g zs_ly zs_N A K) args s 0 0 A) 3 9 [(0, .ref (g.2.1 635)), (1, .int l1), (2, .int l2)] [] st) (l2 : Int32) (s0 : Int32) (st : zs_T) (h : zf_MO_kept_40 K B9 l2 s0 st) : zs_Go p l e (zs_rm 0 0) s m args below meth c g A (MQ below (zs_Qi g zs_ly zs_N A K) args s 0 0 A) 3 40 [(0, .ref (g.2.1 635)), (2, .int l2)] [.int s0] st := by
  obtain ⟨hx, hb, hml, hr, hlk, hts, hown, hK⟩ := id hM
  intro ls H locs hl hP hS
  unfold zf_MO_kept_40 at h
  refine lv_istore_n hx hb dMO_kept_40 rfl hl (by decide) rfl (fun ls hl => ?_)
  have hl : lv_has ls 3 [(1, .int s0), (0, .ref (g.2.1 635)), (2, .int l2)] := hl
  refine lv_iinc (k := 2) (v := l2 + 1) hx hb dMO_kept_41 hl rfl (by rw [show Int32.ofInt (1) = 1 from by decide]) (by decide) rfl (fun ls hl => ?_)
  have hl : lv_has ls 3 [(2, .int (l2 + 1)), (1, .int s0), (0, .ref (g.2.1 635))] := hl
  refine lv_goto (tgt := 9) hx hb dMO_kept_44 rfl ?_
  exact hB9 s0 (l2 + 1) st h ls H locs (lv_sub hl [2, 1, 0] rfl) hP hS
set_option maxHeartbeats 4000000 in
set_option maxRecDepth 100000 in
theorem zw_MO_kept_9_s (hM : zs_M p c cMO_kept 3 s m meth args "ThriftyStoresModel" (some .int) g)   {K : Int32 → zs_T → Prop}  {B9 : Int32 → Int32 → zs_T → Prop}  (hB9 : ∀ (l1 : Int32) (l2 : Int32) (st : zs_T), B9 l1 l2 st → zs_Go p l e (zs_rm 0 0) s m args below meth c g A (MQ below (zs_Qi g zs_ly zs_N A K) args s 0 0 A) 3 9 [(0, .ref (g.2.1 635)), (1, .int l1), (2, .int l2)] [] st) (l1 : Int32) (l2 : Int32) (st : zs_T) (h : zf_MO_kept_9_s K B9 l1 l2 st) : zs_Go p l e (zs_rm 0 0) s m args below meth c g A (MQ below (zs_Qi g zs_ly zs_N A K) args s 0 0 A) 3 9 [(0, .ref (g.2.1 635)), (1, .int l1), (2, .int l2)] [] st := by
  obtain ⟨hx, hb, hml, hr, hlk, hts, hown, hK⟩ := id hM
  intro ls H locs hl hP hS
  unfold zf_MO_kept_9_s at h
  refine lv_iload_n hx hb dMO_kept_9 rfl (lv_at hl 2 rfl) ?_
  refine lv_aload_n hx hb dMO_kept_10 rfl (lv_at hl 0 rfl) ?_
  refine zr_geti hx hb hts zi_MO hown hK.1 hP zl_635.1 zl_635.2 rfl 26 (by decide) rfl (hts _ zq_759) dMO_kept_11 ?_
  refine lv_icmp_ge (tgt := 47) hx hb dMO_kept_14 rfl (fun hc => ?_) (fun hc => ?_)
  · have h := h.1 hc
    clear hc
    refine lv_iload_n hx hb dMO_kept_47 rfl (lv_at hl 1 rfl) ?_
    exact zr_iret hx hb hr hlk hP hS h dMO_kept_48
  · have h := h.2 hc
    clear hc
    refine lv_aload_n hx hb dMO_kept_17 rfl (lv_at hl 0 rfl) ?_
    refine zr_geti hx hb hts zi_MO hown hK.1 hP zl_635.1 zl_635.2 rfl 30 (by decide) rfl (hts _ zq_763) dMO_kept_18 ?_
    refine lv_if_ne (tgt := 47) hx hb dMO_kept_21 rfl (fun hc => ?_) (fun hc => ?_)
    · have h := h.1 hc
      clear hc
      refine lv_iload_n hx hb dMO_kept_47 rfl (lv_at hl 1 rfl) ?_
      exact zr_iret hx hb hr hlk hP hS h dMO_kept_48
    · have h := h.2 hc
      clear hc
      refine lv_aload_n hx hb dMO_kept_24 rfl (lv_at hl 0 rfl) ?_
      refine zr_getr (b := 656) hx hb hts zi_MO hown hK.1 hP zl_635.1 zl_635.2 rfl 25 (by decide) rfl (hts _ zq_758) dMO_kept_25 ?_
      refine lv_iload_n hx hb dMO_kept_28 rfl (lv_at hl 2 rfl) ?_
      obtain ⟨hi101, h⟩ := h
      refine zr_zald hx hb hK.1 hP zl_656.1 zl_656.2 hi101 dMO_kept_29 ?_
      refine lv_if_eq (tgt := 39) hx hb dMO_kept_30 rfl (fun hc => ?_) (fun hc => ?_)
      · have h := h.1 hc
        clear hc
        refine lv_iload_n hx hb dMO_kept_39 rfl (lv_at hl 1 rfl) ?_
        exact zw_MO_kept_40 hM hB9 l2 l1 st h ls H locs (lv_sub hl [0, 2] rfl) hP hS
      · have h := h.2 hc
        clear hc
        refine lv_iload_n hx hb dMO_kept_33 rfl (lv_at hl 1 rfl) ?_
        refine lv_iconst (v := 1) hx hb dMO_kept_34 (by decide) ?_
        refine lv_iadd hx hb dMO_kept_35 ?_
        refine lv_goto (tgt := 40) hx hb dMO_kept_36 rfl ?_
        exact zw_MO_kept_40 hM hB9 l2 (l1 + 1) st h ls H locs (lv_sub hl [0, 2] rfl) hP hS
theorem zw_MO_kept_9 (hM : zs_M p c cMO_kept 3 s m meth args "ThriftyStoresModel" (some .int) g)   {K : Int32 → zs_T → Prop}   : ∀ (n : Nat) (l1 : Int32) (l2 : Int32) (st : zs_T), zf_MO_kept_9 K n l1 l2 st → zs_Go p l e (zs_rm 0 0) s m args below meth c g A (MQ below (zs_Qi g zs_ly zs_N A K) args s 0 0 A) 3 9 [(0, .ref (g.2.1 635)), (1, .int l1), (2, .int l2)] [] st := by
  intro n
  induction n with
  | zero => intro l1 l2 st h; exact False.elim h
  | succ n ih => intro l1 l2 st h; exact zw_MO_kept_9_s hM  ih l1 l2 st h
set_option maxHeartbeats 4000000 in
set_option maxRecDepth 100000 in
theorem zc_MO_kept (l : Launch) (g : zs_G) (A : Nat → Prop)   {st : zs_T} {K : Int32 → zs_T → Prop} (h : zf_MO_kept  st K) : Met l yMO_kept (.code yMO_kept cMO_kept 3 (some .int) :: zs_tb) (zs_rm 0 0) (zs_Pc zs_nl g zs_ly zs_N A [.ref (g.2.1 635)] st) (zs_Qi g zs_ly zs_N A K) 0 0 A := by
  refine zs_met (cc := cMO_kept) (maxL := 3) (ret := (some .int)) (by decide) (Nat.le_of_ble_eq_true rfl) (fun p e s m below meth c hM => ?_)
  have hM : zs_M p c cMO_kept 3 s m meth [.ref (g.2.1 635)].toArray "ThriftyStoresModel" (some .int) g := hM
  obtain ⟨hx, hb, hml, hr, hlk, hts, hown, hK⟩ := id hM
  intro ls H locs hl hP hS
  have hl : lv_has ls 3 [(0, .ref (g.2.1 635))] := hl
  unfold zf_MO_kept at h
  refine lv_aload_n hx hb dMO_kept_0 rfl (lv_at hl 0 rfl) ?_
  refine lv_iconst (v := 0) hx hb dMO_kept_1 (by decide) ?_
  refine zr_put hx hb hts zi_MO tyMO tyMO_ok nmMO hown hK.1 hP hS zl_635.1 zl_635.2 rfl 0 (by decide) rfl (hts _ zq_733) rfl rfl rfl dMO_kept_2 (fun H locs hP hS => ?_)
  obtain ⟨t1, ez⟩ : ∃ tz : zs_T, tz = zs_i st 635 0 0 := ⟨_, rfl⟩
  have h := h t1 ez
  have hP : zs_P g zs_ly zs_N A t1 H := by rw [ez]; exact hP
  clear ez
  refine lv_iconst (v := 0) hx hb dMO_kept_5 (by decide) ?_
  refine lv_istore_n hx hb dMO_kept_6 rfl hl (by decide) rfl (fun ls hl => ?_)
  have hl : lv_has ls 3 [(1, .int 0), (0, .ref (g.2.1 635))] := hl
  refine lv_iconst (v := 0) hx hb dMO_kept_7 (by decide) ?_
  refine lv_istore_n hx hb dMO_kept_8 rfl hl (by decide) rfl (fun ls hl => ?_)
  have hl : lv_has ls 3 [(2, .int 0), (1, .int 0), (0, .ref (g.2.1 635))] := hl
  obtain ⟨n, h⟩ := h
  exact zw_MO_kept_9 hM  n 0 0 t1 h ls H locs (lv_sub hl [2, 1, 0] rfl) hP hS
set_option maxHeartbeats 4000000 in
set_option maxRecDepth 100000 in
theorem zw_MO_cell_48 (hM : zs_M p c cMO_cell 8 s m meth args "ThriftyStoresModel" (some .int) g)   {K : Int32 → zs_T → Prop} {B9 : Int32 → Int32 → Int32 → Int32 → Int32 → Int32 → zs_T → Prop} (hB9 : ∀ (l1 : Int32) (l2 : Int32) (l3 : Int32) (l4 : Int32) (l5 : Int32) (l6 : Int32) (st : zs_T), B9 l1 l2 l3 l4 l5 l6 st → zs_Go p l e (zs_rm 0 0) s m args below meth c g A (MQ below (zs_Qi g zs_ly zs_N A K) args s 0 0 A) 8 9 [(0, .ref (g.2.1 635)), (1, .int l1), (2, .int l2), (3, .int l3), (4, .int l4), (5, .int l5), (6, .int l6)] [] st) (l1 : Int32) (l2 : Int32) (l3 : Int32) (l4 : Int32) (l5 : Int32) (l6 : Int32) (st : zs_T) (h : zf_MO_cell_48 K B9 l1 l2 l3 l4 l5 l6 st) : zs_Go p l e (zs_rm 0 0) s m args below meth c g A (MQ below (zs_Qi g zs_ly zs_N A K) args s 0 0 A) 8 48 [(0, .ref (g.2.1 635)), (1, .int l1), (2, .int l2), (3, .int l3), (4, .int l4), (5, .int l5), (6, .int l6)] [] st := by
  obtain ⟨hx, hb, hml, hr, hlk, hts, hown, hK⟩ := id hM
  intro ls H locs hl hP hS
  unfold zf_MO_cell_48 at h
  refine lv_iinc (k := 6) (v := l6 + 1) hx hb dMO_cell_48 hl rfl (by rw [show Int32.ofInt (1) = 1 from by decide]) (by decide) rfl (fun ls hl => ?_)
  have hl : lv_has ls 8 [(6, .int (l6 + 1)), (0, .ref (g.2.1 635)), (1, .int l1), (2, .int l2), (3, .int l3), (4, .int l4), (5, .int l5)] := hl
  refine lv_goto (tgt := 9) hx hb dMO_cell_51 rfl ?_
  exact hB9 l1 l2 l3 l4 l5 (l6 + 1) st h ls H locs (lv_sub hl [1, 2, 3, 4, 5, 6, 0] rfl) hP hS
set_option maxHeartbeats 4000000 in
set_option maxRecDepth 100000 in
theorem zw_MO_cell_135 (hM : zs_M p c cMO_cell 8 s m meth args "ThriftyStoresModel" (some .int) g)   {K : Int32 → zs_T → Prop}   (l3 : Int32) (l6 : Int32) (s0 : Int32) (st : zs_T) (h : zf_MO_cell_135 K l3 l6 s0 st) : zs_Go p l e (zs_rm 0 0) s m args below meth c g A (MQ below (zs_Qi g zs_ly zs_N A K) args s 0 0 A) 8 135 [(0, .ref (g.2.1 635)), (3, .int l3), (6, .int l6)] [.int s0] st := by
  obtain ⟨hx, hb, hml, hr, hlk, hts, hown, hK⟩ := id hM
  intro ls H locs hl hP hS
  unfold zf_MO_cell_135 at h
  refine lv_istore hx hb dMO_cell_135 hl (by decide) rfl (fun ls hl => ?_)
  have hl : lv_has ls 8 [(7, .int s0), (0, .ref (g.2.1 635)), (3, .int l3), (6, .int l6)] := hl
  refine lv_iload_n hx hb dMO_cell_137 rfl (lv_at hl 2 rfl) ?_
  refine lv_if_ne (tgt := 152) hx hb dMO_cell_138 rfl (fun hc => ?_) (fun hc => ?_)
  · have h := h.1 hc
    clear hc
    refine lv_iload_n hx hb dMO_cell_152 rfl (lv_at hl 2 rfl) ?_
    refine lv_iconst (v := 1) hx hb dMO_cell_153 (by decide) ?_
    refine lv_icmp_ne (tgt := 180) hx hb dMO_cell_154 rfl (fun hc => ?_) (fun hc => ?_)
    · have h := h.1 hc
      clear hc
      refine lv_iload hx hb dMO_cell_180 (lv_at hl 0 rfl) ?_
      refine lv_if_eq (tgt := 195) hx hb dMO_cell_182 rfl (fun hc => ?_) (fun hc => ?_)
      · have h := h.1 hc
        clear hc
        refine lv_iconst (v := 0) hx hb dMO_cell_195 (by decide) ?_
        exact zr_iret hx hb hr hlk hP hS h dMO_cell_196
      · have h := h.2 hc
        clear hc
        refine lv_aload_n hx hb dMO_cell_185 rfl (lv_at hl 1 rfl) ?_
        refine zr_getr (b := 654) hx hb hts zi_MO hown hK.1 hP zl_635.1 zl_635.2 rfl 23 (by decide) rfl (hts _ zq_756) dMO_cell_186 ?_
        refine lv_iload hx hb dMO_cell_189 (lv_at hl 3 rfl) ?_
        obtain ⟨hi701, h⟩ := h
        refine zr_iald hx hb hK.1 hP zl_654.1 zl_654.2 hi701 dMO_cell_191 ?_
        refine lv_goto (tgt := 196) hx hb dMO_cell_192 rfl ?_
        exact zr_iret hx hb hr hlk hP hS h dMO_cell_196
    · have h := h.2 hc
      clear hc
      refine lv_iload hx hb dMO_cell_157 (lv_at hl 0 rfl) ?_
      refine lv_if_eq (tgt := 172) hx hb dMO_cell_159 rfl (fun hc => ?_) (fun hc => ?_)
      · have h := h.1 hc
        clear hc
        refine lv_aload_n hx hb dMO_cell_172 rfl (lv_at hl 1 rfl) ?_
        refine zr_getr (b := 654) hx hb hts zi_MO hown hK.1 hP zl_635.1 zl_635.2 rfl 23 (by decide) rfl (hts _ zq_756) dMO_cell_173 ?_
        refine lv_iload hx hb dMO_cell_176 (lv_at hl 3 rfl) ?_
        obtain ⟨hi702, h⟩ := h
        refine zr_iald hx hb hK.1 hP zl_654.1 zl_654.2 hi702 dMO_cell_178 ?_
        exact zr_iret hx hb hr hlk hP hS h dMO_cell_179
      · have h := h.2 hc
        clear hc
        refine lv_aload_n hx hb dMO_cell_162 rfl (lv_at hl 1 rfl) ?_
        refine zr_getr (b := 653) hx hb hts zi_MO hown hK.1 hP zl_635.1 zl_635.2 rfl 22 (by decide) rfl (hts _ zq_755) dMO_cell_163 ?_
        refine lv_iload hx hb dMO_cell_166 (lv_at hl 3 rfl) ?_
        obtain ⟨hi703, h⟩ := h
        refine zr_iald hx hb hK.1 hP zl_653.1 zl_653.2 hi703 dMO_cell_168 ?_
        refine lv_goto (tgt := 179) hx hb dMO_cell_169 rfl ?_
        exact zr_iret hx hb hr hlk hP hS h dMO_cell_179
  · have h := h.2 hc
    clear hc
    refine lv_iload hx hb dMO_cell_141 (lv_at hl 0 rfl) ?_
    refine lv_if_eq (tgt := 150) hx hb dMO_cell_143 rfl (fun hc => ?_) (fun hc => ?_)
    · have h := h.1 hc
      clear hc
      refine lv_iconst (v := 0) hx hb dMO_cell_150 (by decide) ?_
      exact zr_iret hx hb hr hlk hP hS h dMO_cell_151
    · have h := h.2 hc
      clear hc
      refine lv_iconst (v := 1) hx hb dMO_cell_146 (by decide) ?_
      refine lv_goto (tgt := 151) hx hb dMO_cell_147 rfl ?_
      exact zr_iret hx hb hr hlk hP hS h dMO_cell_151
set_option maxHeartbeats 4000000 in
set_option maxRecDepth 100000 in
theorem zw_MO_cell_98 (hM : zs_M p c cMO_cell 8 s m meth args "ThriftyStoresModel" (some .int) g)   {K : Int32 → zs_T → Prop}   (l2 : Int32) (l3 : Int32) (l4 : Int32) (s0 : Int32) (st : zs_T) (h : zf_MO_cell_98 K l2 l3 l4 s0 st) : zs_Go p l e (zs_rm 0 0) s m args below meth c g A (MQ below (zs_Qi g zs_ly zs_N A K) args s 0 0 A) 8 98 [(0, .ref (g.2.1 635)), (2, .int l2), (3, .int l3), (4, .int l4)] [.int s0, .ref (g.2.1 635)] st := by
  obtain ⟨hx, hb, hml, hr, hlk, hts, hown, hK⟩ := id hM
  intro ls H locs hl hP hS
  unfold zf_MO_cell_98 at h
  refine zr_put hx hb hts zi_MO tyMO tyMO_ok nmMO hown hK.1 hP hS zl_635.1 zl_635.2 rfl 0 (by decide) rfl (hts _ zq_733) rfl rfl rfl dMO_cell_98 (fun H locs hP hS => ?_)
  obtain ⟨t601, ez⟩ : ∃ tz : zs_T, tz = zs_i st 635 0 s0 := ⟨_, rfl⟩
  have h := h t601 ez
  have hP : zs_P g zs_ly zs_N A t601 H := by rw [ez]; exact hP
  clear ez
  refine lv_aload_n hx hb dMO_cell_101 rfl (lv_at hl 0 rfl) ?_
  refine zr_geti hx hb hts zi_MO hown hK.1 hP zl_635.1 zl_635.2 rfl 0 (by decide) rfl (hts _ zq_733) dMO_cell_102 ?_
  refine lv_if_le (tgt := 110) hx hb dMO_cell_105 rfl (fun hc => ?_) (fun hc => ?_)
  · have h := h.1 hc
    clear hc
    refine lv_bipush (v := 16) hx hb dMO_cell_110 (by decide) ?_
    refine lv_iload hx hb dMO_cell_112 (lv_at hl 3 rfl) ?_
    refine lv_imul hx hb dMO_cell_114 ?_
    refine lv_iload_n hx hb dMO_cell_115 rfl (lv_at hl 1 rfl) ?_
    refine lv_iadd hx hb dMO_cell_116 ?_
    refine lv_istore hx hb dMO_cell_117 hl (by decide) rfl (fun ls hl => ?_)
    have hl : lv_has ls 8 [(6, .int ((16 * l4) + l2)), (0, .ref (g.2.1 635)), (2, .int l2), (3, .int l3), (4, .int l4)] := hl
    refine lv_aload_n hx hb dMO_cell_119 rfl (lv_at hl 1 rfl) ?_
    refine zr_getr (b := 653) hx hb hts zi_MO hown hK.1 hP zl_635.1 zl_635.2 rfl 22 (by decide) rfl (hts _ zq_755) dMO_cell_120 ?_
    refine lv_iload hx hb dMO_cell_123 (lv_at hl 0 rfl) ?_
    obtain ⟨hi602, h⟩ := h
    refine zr_iald hx hb hK.1 hP zl_653.1 zl_653.2 hi602 dMO_cell_125 ?_
    refine lv_iconst (v := (-1)) hx hb dMO_cell_126 (by decide) ?_
    refine lv_icmp_eq (tgt := 134) hx hb dMO_cell_127 rfl (fun hc => ?_) (fun hc => ?_)
    · have h := h.1 hc
      clear hc
      refine lv_iconst (v := 0) hx hb dMO_cell_134 (by decide) ?_
      exact zw_MO_cell_135 hM  l3 ((16 * l4) + l2) 0 t601 h ls H locs (lv_sub hl [1, 3, 0] rfl) hP hS
    · have h := h.2 hc
      clear hc
      refine lv_iconst (v := 1) hx hb dMO_cell_130 (by decide) ?_
      refine lv_goto (tgt := 135) hx hb dMO_cell_131 rfl ?_
      exact zw_MO_cell_135 hM  l3 ((16 * l4) + l2) 1 t601 h ls H locs (lv_sub hl [1, 3, 0] rfl) hP hS
  · have h := h.2 hc
    clear hc
    refine lv_iconst (v := 0) hx hb dMO_cell_108 (by decide) ?_
    exact zr_iret hx hb hr hlk hP hS h dMO_cell_109
set_option maxHeartbeats 4000000 in
set_option maxRecDepth 100000 in
theorem zw_MO_cell_80 (hM : zs_M p c cMO_cell 8 s m meth args "ThriftyStoresModel" (some .int) g)   {K : Int32 → zs_T → Prop}   (l2 : Int32) (l3 : Int32) (l4 : Int32) (st : zs_T) (h : zf_MO_cell_80 K l2 l3 l4 st) : zs_Go p l e (zs_rm 0 0) s m args below meth c g A (MQ below (zs_Qi g zs_ly zs_N A K) args s 0 0 A) 8 80 [(0, .ref (g.2.1 635)), (2, .int l2), (3, .int l3), (4, .int l4)] [.ref (g.2.1 635)] st := by
  obtain ⟨hx, hb, hml, hr, hlk, hts, hown, hK⟩ := id hM
  intro ls H locs hl hP hS
  unfold zf_MO_cell_80 at h
  refine lv_iconst (v := 1) hx hb dMO_cell_80 (by decide) ?_
  refine lv_goto (tgt := 98) hx hb dMO_cell_81 rfl ?_
  exact zw_MO_cell_98 hM  l2 l3 l4 1 st h ls H locs (lv_sub hl [0, 1, 2, 3] rfl) hP hS
set_option maxHeartbeats 4000000 in
set_option maxRecDepth 100000 in
theorem zw_MO_cell_93 (hM : zs_M p c cMO_cell 8 s m meth args "ThriftyStoresModel" (some .int) g)   {K : Int32 → zs_T → Prop}   (l2 : Int32) (l3 : Int32) (l4 : Int32) (st : zs_T) (h : zf_MO_cell_93 K l2 l3 l4 st) : zs_Go p l e (zs_rm 0 0) s m args below meth c g A (MQ below (zs_Qi g zs_ly zs_N A K) args s 0 0 A) 8 93 [(0, .ref (g.2.1 635)), (2, .int l2), (3, .int l3), (4, .int l4)] [.ref (g.2.1 635)] st := by
  obtain ⟨hx, hb, hml, hr, hlk, hts, hown, hK⟩ := id hM
  intro ls H locs hl hP hS
  unfold zf_MO_cell_93 at h
  refine lv_iconst (v := 2) hx hb dMO_cell_93 (by decide) ?_
  refine lv_goto (tgt := 98) hx hb dMO_cell_94 rfl ?_
  exact zw_MO_cell_98 hM  l2 l3 l4 2 st h ls H locs (lv_sub hl [0, 1, 2, 3] rfl) hP hS
set_option maxHeartbeats 4000000 in
set_option maxRecDepth 100000 in
theorem zw_MO_cell_54 (hM : zs_M p c cMO_cell 8 s m meth args "ThriftyStoresModel" (some .int) g)   {K : Int32 → zs_T → Prop}   (l1 : Int32) (l2 : Int32) (l3 : Int32) (l4 : Int32) (l5 : Int32) (st : zs_T) (h : zf_MO_cell_54 K l1 l2 l3 l4 l5 st) : zs_Go p l e (zs_rm 0 0) s m args below meth c g A (MQ below (zs_Qi g zs_ly zs_N A K) args s 0 0 A) 8 54 [(0, .ref (g.2.1 635)), (1, .int l1), (2, .int l2), (3, .int l3), (4, .int l4), (5, .int l5)] [] st := by
  obtain ⟨hx, hb, hml, hr, hlk, hts, hown, hK⟩ := id hM
  intro ls H locs hl hP hS
  unfold zf_MO_cell_54 at h
  refine lv_aload_n hx hb dMO_cell_54 rfl (lv_at hl 0 rfl) ?_
  refine lv_iload_n hx hb dMO_cell_55 rfl (lv_at hl 1 rfl) ?_
  refine lv_if_lt (tgt := 80) hx hb dMO_cell_56 rfl (fun hc => ?_) (fun hc => ?_)
  · have h := h.1 hc
    clear hc
    exact zw_MO_cell_80 hM  l2 l3 l4 st h ls H locs (lv_sub hl [0, 2, 3, 4] rfl) hP hS
  · have h := h.2 hc
    clear hc
    refine lv_iload hx hb dMO_cell_59 (lv_at hl 5 rfl) ?_
    refine lv_iload_n hx hb dMO_cell_61 rfl (lv_at hl 1 rfl) ?_
    refine lv_icmp_lt (tgt := 80) hx hb dMO_cell_62 rfl (fun hc => ?_) (fun hc => ?_)
    · have h := h.1 hc
      clear hc
      exact zw_MO_cell_80 hM  l2 l3 l4 st h ls H locs (lv_sub hl [0, 2, 3, 4] rfl) hP hS
    · have h := h.2 hc
      clear hc
      refine lv_iload_n hx hb dMO_cell_65 rfl (lv_at hl 2 rfl) ?_
      refine lv_if_lt (tgt := 80) hx hb dMO_cell_66 rfl (fun hc => ?_) (fun hc => ?_)
      · have h := h.1 hc
        clear hc
        exact zw_MO_cell_80 hM  l2 l3 l4 st h ls H locs (lv_sub hl [0, 2, 3, 4] rfl) hP hS
      · have h := h.2 hc
        clear hc
        refine lv_iload_n hx hb dMO_cell_69 rfl (lv_at hl 2 rfl) ?_
        refine lv_aload_n hx hb dMO_cell_70 rfl (lv_at hl 0 rfl) ?_
        refine zr_getr (b := 655) hx hb hts zi_MO hown hK.1 hP zl_635.1 zl_635.2 rfl 24 (by decide) rfl (hts _ zq_757) dMO_cell_71 ?_
        refine lv_iload hx hb dMO_cell_74 (lv_at hl 4 rfl) ?_
        obtain ⟨hi201, h⟩ := h
        refine zr_iald hx hb hK.1 hP zl_655.1 zl_655.2 hi201 dMO_cell_76 ?_
        refine lv_icmp_lt (tgt := 84) hx hb dMO_cell_77 rfl (fun hc => ?_) (fun hc => ?_)
        · have h := h.1 hc
          clear hc
          refine lv_iload_n hx hb dMO_cell_84 rfl (lv_at hl 3 rfl) ?_
          refine lv_if_lt (tgt := 93) hx hb dMO_cell_85 rfl (fun hc => ?_) (fun hc => ?_)
          · have h := h.1 hc
            clear hc
            exact zw_MO_cell_93 hM  l2 l3 l4 st h ls H locs (lv_sub hl [0, 2, 3, 4] rfl) hP hS
          · have h := h.2 hc
            clear hc
            refine lv_iload_n hx hb dMO_cell_88 rfl (lv_at hl 3 rfl) ?_
            refine lv_iconst (v := 2) hx hb dMO_cell_89 (by decide) ?_
            refine lv_icmp_le (tgt := 97) hx hb dMO_cell_90 rfl (fun hc => ?_) (fun hc => ?_)
            · have h := h.1 hc
              clear hc
              refine lv_iconst (v := 0) hx hb dMO_cell_97 (by decide) ?_
              exact zw_MO_cell_98 hM  l2 l3 l4 0 st h ls H locs (lv_sub hl [0, 2, 3, 4] rfl) hP hS
            · have h := h.2 hc
              clear hc
              exact zw_MO_cell_93 hM  l2 l3 l4 st h ls H locs (lv_sub hl [0, 2, 3, 4] rfl) hP hS
        · have h := h.2 hc
          clear hc
          exact zw_MO_cell_80 hM  l2 l3 l4 st h ls H locs (lv_sub hl [0, 2, 3, 4] rfl) hP hS
set_option maxHeartbeats 4000000 in
set_option maxRecDepth 100000 in
theorem zw_MO_cell_9_s (hM : zs_M p c cMO_cell 8 s m meth args "ThriftyStoresModel" (some .int) g)   {K : Int32 → zs_T → Prop}  {B9 : Int32 → Int32 → Int32 → Int32 → Int32 → Int32 → zs_T → Prop}  (hB9 : ∀ (l1 : Int32) (l2 : Int32) (l3 : Int32) (l4 : Int32) (l5 : Int32) (l6 : Int32) (st : zs_T), B9 l1 l2 l3 l4 l5 l6 st → zs_Go p l e (zs_rm 0 0) s m args below meth c g A (MQ below (zs_Qi g zs_ly zs_N A K) args s 0 0 A) 8 9 [(0, .ref (g.2.1 635)), (1, .int l1), (2, .int l2), (3, .int l3), (4, .int l4), (5, .int l5), (6, .int l6)] [] st) (l1 : Int32) (l2 : Int32) (l3 : Int32) (l4 : Int32) (l5 : Int32) (l6 : Int32) (st : zs_T) (h : zf_MO_cell_9_s K B9 l1 l2 l3 l4 l5 l6 st) : zs_Go p l e (zs_rm 0 0) s m args below meth c g A (MQ below (zs_Qi g zs_ly zs_N A K) args s 0 0 A) 8 9 [(0, .ref (g.2.1 635)), (1, .int l1), (2, .int l2), (3, .int l3), (4, .int l4), (5, .int l5), (6, .int l6)] [] st := by
  obtain ⟨hx, hb, hml, hr, hlk, hts, hown, hK⟩ := id hM
  intro ls H locs hl hP hS
  unfold zf_MO_cell_9_s at h
  refine lv_iload hx hb dMO_cell_9 (lv_at hl 6 rfl) ?_
  refine lv_aload_n hx hb dMO_cell_11 rfl (lv_at hl 0 rfl) ?_
  refine zr_geti hx hb hts zi_MO hown hK.1 hP zl_635.1 zl_635.2 rfl 26 (by decide) rfl (hts _ zq_759) dMO_cell_12 ?_
  refine lv_icmp_ge (tgt := 54) hx hb dMO_cell_15 rfl (fun hc => ?_) (fun hc => ?_)
  · have h := h.1 hc
    clear hc
    exact zw_MO_cell_54 hM  l1 l2 l3 l4 l5 st h ls H locs (lv_sub hl [0, 1, 2, 3, 4, 5] rfl) hP hS
  · have h := h.2 hc
    clear hc
    refine lv_aload_n hx hb dMO_cell_18 rfl (lv_at hl 0 rfl) ?_
    refine zr_geti hx hb hts zi_MO hown hK.1 hP zl_635.1 zl_635.2 rfl 30 (by decide) rfl (hts _ zq_763) dMO_cell_19 ?_
    refine lv_if_ne (tgt := 54) hx hb dMO_cell_22 rfl (fun hc => ?_) (fun hc => ?_)
    · have h := h.1 hc
      clear hc
      exact zw_MO_cell_54 hM  l1 l2 l3 l4 l5 st h ls H locs (lv_sub hl [0, 1, 2, 3, 4, 5] rfl) hP hS
    · have h := h.2 hc
      clear hc
      refine lv_iload hx hb dMO_cell_25 (lv_at hl 5 rfl) ?_
      refine lv_iload_n hx hb dMO_cell_27 rfl (lv_at hl 1 rfl) ?_
      refine lv_icmp_ge (tgt := 54) hx hb dMO_cell_28 rfl (fun hc => ?_) (fun hc => ?_)
      · have h := h.1 hc
        clear hc
        exact zw_MO_cell_54 hM  l1 l2 l3 l4 l5 st h ls H locs (lv_sub hl [0, 1, 2, 3, 4, 5] rfl) hP hS
      · have h := h.2 hc
        clear hc
        refine lv_aload_n hx hb dMO_cell_31 rfl (lv_at hl 0 rfl) ?_
        refine zr_getr (b := 656) hx hb hts zi_MO hown hK.1 hP zl_635.1 zl_635.2 rfl 25 (by decide) rfl (hts _ zq_758) dMO_cell_32 ?_
        refine lv_iload hx hb dMO_cell_35 (lv_at hl 6 rfl) ?_
        obtain ⟨hi101, h⟩ := h
        refine zr_zald hx hb hK.1 hP zl_656.1 zl_656.2 hi101 dMO_cell_37 ?_
        refine lv_if_eq (tgt := 48) hx hb dMO_cell_38 rfl (fun hc => ?_) (fun hc => ?_)
        · have h := h.1 hc
          clear hc
          exact zw_MO_cell_48 hM hB9 l1 l2 l3 l4 l5 l6 st h ls H locs (lv_sub hl [0, 1, 2, 3, 4, 5, 6] rfl) hP hS
        · have h := h.2 hc
          clear hc
          refine lv_iinc (k := 5) (v := l5 + 1) hx hb dMO_cell_41 hl rfl (by rw [show Int32.ofInt (1) = 1 from by decide]) (by decide) rfl (fun ls hl => ?_)
          have hl : lv_has ls 8 [(5, .int (l5 + 1)), (0, .ref (g.2.1 635)), (1, .int l1), (2, .int l2), (3, .int l3), (4, .int l4), (6, .int l6)] := hl
          refine lv_iload hx hb dMO_cell_44 (lv_at hl 6 rfl) ?_
          refine lv_istore hx hb dMO_cell_46 hl (by decide) rfl (fun ls hl => ?_)
          have hl : lv_has ls 8 [(4, .int l6), (5, .int (l5 + 1)), (0, .ref (g.2.1 635)), (1, .int l1), (2, .int l2), (3, .int l3), (6, .int l6)] := hl
          exact zw_MO_cell_48 hM hB9 l1 l2 l3 l6 (l5 + 1) l6 st h ls H locs (lv_sub hl [2, 3, 4, 5, 0, 1, 6] rfl) hP hS
theorem zw_MO_cell_9 (hM : zs_M p c cMO_cell 8 s m meth args "ThriftyStoresModel" (some .int) g)   {K : Int32 → zs_T → Prop}   : ∀ (n : Nat) (l1 : Int32) (l2 : Int32) (l3 : Int32) (l4 : Int32) (l5 : Int32) (l6 : Int32) (st : zs_T), zf_MO_cell_9 K n l1 l2 l3 l4 l5 l6 st → zs_Go p l e (zs_rm 0 0) s m args below meth c g A (MQ below (zs_Qi g zs_ly zs_N A K) args s 0 0 A) 8 9 [(0, .ref (g.2.1 635)), (1, .int l1), (2, .int l2), (3, .int l3), (4, .int l4), (5, .int l5), (6, .int l6)] [] st := by
  intro n
  induction n with
  | zero => intro l1 l2 l3 l4 l5 l6 st h; exact False.elim h
  | succ n ih => intro l1 l2 l3 l4 l5 l6 st h; exact zw_MO_cell_9_s hM  ih l1 l2 l3 l4 l5 l6 st h
set_option maxHeartbeats 4000000 in
set_option maxRecDepth 100000 in
theorem zc_MO_cell (l : Launch) (g : zs_G) (A : Nat → Prop) {l1 : Int32} {l2 : Int32} {l3 : Int32}  {st : zs_T} {K : Int32 → zs_T → Prop} (h : zf_MO_cell l1 l2 l3 st K) : Met l yMO_cell (.code yMO_cell cMO_cell 8 (some .int) :: zs_tb) (zs_rm 0 0) (zs_Pc zs_nl g zs_ly zs_N A [.ref (g.2.1 635), .int l1, .int l2, .int l3] st) (zs_Qi g zs_ly zs_N A K) 0 0 A := by
  refine zs_met (cc := cMO_cell) (maxL := 8) (ret := (some .int)) (by decide) (Nat.le_of_ble_eq_true rfl) (fun p e s m below meth c hM => ?_)
  have hM : zs_M p c cMO_cell 8 s m meth [.ref (g.2.1 635), .int l1, .int l2, .int l3].toArray "ThriftyStoresModel" (some .int) g := hM
  obtain ⟨hx, hb, hml, hr, hlk, hts, hown, hK⟩ := id hM
  intro ls H locs hl hP hS
  have hl : lv_has ls 8 [(0, .ref (g.2.1 635)), (1, .int l1), (2, .int l2), (3, .int l3)] := hl
  unfold zf_MO_cell at h
  refine lv_iconst (v := (-1)) hx hb dMO_cell_0 (by decide) ?_
  refine lv_istore hx hb dMO_cell_1 hl (by decide) rfl (fun ls hl => ?_)
  have hl : lv_has ls 8 [(4, .int (-1)), (0, .ref (g.2.1 635)), (1, .int l1), (2, .int l2), (3, .int l3)] := hl
  refine lv_iconst (v := (-1)) hx hb dMO_cell_3 (by decide) ?_
  refine lv_istore hx hb dMO_cell_4 hl (by decide) rfl (fun ls hl => ?_)
  have hl : lv_has ls 8 [(5, .int (-1)), (4, .int (-1)), (0, .ref (g.2.1 635)), (1, .int l1), (2, .int l2), (3, .int l3)] := hl
  refine lv_iconst (v := 0) hx hb dMO_cell_6 (by decide) ?_
  refine lv_istore hx hb dMO_cell_7 hl (by decide) rfl (fun ls hl => ?_)
  have hl : lv_has ls 8 [(6, .int 0), (5, .int (-1)), (4, .int (-1)), (0, .ref (g.2.1 635)), (1, .int l1), (2, .int l2), (3, .int l3)] := hl
  obtain ⟨n, h⟩ := h
  exact zw_MO_cell_9 hM  n l1 l2 l3 (-1) (-1) 0 st h ls H locs (lv_sub hl [3, 4, 5, 6, 2, 1, 0] rfl) hP hS
end ZW
