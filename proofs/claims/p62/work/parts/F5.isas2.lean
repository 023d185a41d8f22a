/-! THE LAW compares: everything -/
/-- a chamber and its Own, T minutes old at the most -/
def GD (S s ω : Mem) (T : Int) : Prop := wfC S s ∧ own S s ω ∧ zro S s ∧ lim S s (4 * T) ∧ 0 ≤ s 0 5 ∧ s 0 5 ≤ T
theorem GD_mono {S s ω : Mem} {T T' : Int} (h : GD S s ω T) (hT : T ≤ T') : GD S s ω T' := by
  obtain ⟨a, b, c, d, e, f⟩ := h
  exact ⟨a, b, c, fun m hm => ⟨(d m hm).1, by have := (d m hm).2; omega⟩, e, by omega⟩
def LV (T : Int) (μ : Mem) : Prop := wfS (su μ) ∧ GD (su μ) (vw 20 μ) (vw 276 μ) T
theorem fsl_some {S s : Mem} {rk : Int} (h : 0 < s 11 0) : ∃ i : Nat, fsl S s rk = i ∧ (i : Int) < s 11 0 := by
  rcases fsl_sel S s rk with ⟨-, g⟩ | ⟨i, g1, -, g2, -⟩
  · exact absurd trivial (g 0 (Nat.le_refl _) (by omega))
  · exact ⟨i, g1, by omega⟩
set_option maxRecDepth 8000 in
set_option maxHeartbeats 4000000 in
theorem l_isAs {μ : Mem} {T : Int} (hV : LV T μ) (hT : T ≤ 250000) {Q : Option Value → Mem → Prop} {X : String → Mem → Prop} (K : Q (some (.int (iI 1))) μ) : mt 293 9 0 0 mL_isAs [.ref 0, .ref 276] Q X μ := by
  show go 293 9 0 0 mL_isAs Q X 0 [.ref 0, .ref 276, .null, .null] [] _
  obtain ⟨hS, hC, hR, hZ, hL, -, -⟩ := hV
  have hN : 4 * T ≤ 1000010 := by omega
  have n1 := wf_n hS
  have r1 := wf_r hS hC
  have e0 : μ 276 0 = su μ 0 0 := hR.1.1
  have e7 : μ 276 7 = (vw 20 μ) 0 5 := hR.1.2.2.2.2.2.2.2.1
  have e8 : μ 276 8 = su μ 0 7 := hR.1.2.2.2.2.2.2.2.2.1
  have e9 : μ 276 9 = (vw 20 μ) 5 0 := hR.1.2.2.2.2.2.2.2.2.2.1
  have e10 : μ 276 10 = (vw 20 μ) 0 6 := hR.1.2.2.2.2.2.2.2.2.2.2.1
  have e11 : μ 276 11 = (vw 20 μ) 0 7 := hR.1.2.2.2.2.2.2.2.2.2.2.2.1
  have e12 : μ 276 12 = (vw 20 μ) 0 8 := hR.1.2.2.2.2.2.2.2.2.2.2.2.2.1
  have e13 : μ 276 13 = (vw 20 μ) 0 9 := hR.1.2.2.2.2.2.2.2.2.2.2.2.2.2
  have hrk := hC.1.2.2.2.2.1
  have hrk2 := hC.1.2.2.2.2.2.1
  have hmr := hC.1.2.2.2.2.2.2
  have hmm := mrs_4 (vw 20 μ)
  have x0 := hC.2.2.2.2.2 0 (by decide)
  have x1 := hC.2.2.2.2.2 1 (by decide)
  have x2 := hC.2.2.2.2.2 2 (by decide)
  have x3 := hC.2.2.2.2.2 3 (by decide)
  have hs1 := hS.2.2.1
  have hs1b := hS.2.2.2.1
  have hfr : frm (su μ) (vw 20 μ) = su μ 0 1 - mrs (vw 20 μ) := rfl
  have hct := zro_ctr hC hZ
  have last : ∀ (u2 u3 : Value), go 293 9 0 0 mL_isAs Q X 210 [.ref 0, .ref 276, u2, u3] [] μ := by
    intro u2 u3
    refine go_aload_n (y := mL_isAs) (pc := 210) dL_isAs_210 rfl rfl ?_
    refine go_callV0 (y := mL_isAs) (pc := 211) (y' := mX10_memberCount) (kc2 := 0) (ks2 := 0) dL_isAs_211 ml_L_204 ok_X10_memberCount (show shp 0 = _ from rfl) ⟨_, _, rfl⟩ (by decide) trivial (by decide) (Nat.le_of_ble_eq_true rfl) rfl (q_memberCount hS hC ?_)
    refine go_aload_n (y := mL_isAs) (pc := 214) dL_isAs_214 rfl rfl ?_
    refine go_getI (y := mL_isAs) (pc := 215) dL_isAs_215 fl_L_50 rfl rfl (by decide) (fun r215 => ?_)
    refine go_top (b := su μ 0 7) (e8) (fun t215 => ?_)
    refine go_icmp_ne (y := mL_isAs) (pc := 218) (tgt := 291) dL_isAs_218 (by decide) (by omega) (by omega) (fun h218 => ?_) (fun h218 => ?_)
    · skip
      exact absurd rfl h218
    · skip
      refine go_aload_n (y := mL_isAs) (pc := 221) dL_isAs_221 rfl rfl ?_
      refine go_callV0 (y := mL_isAs) (pc := 222) (y' := mX10_motionCount) (kc2 := 0) (ks2 := 0) dL_isAs_222 ml_L_207 ok_X10_motionCount (show shp 0 = _ from rfl) ⟨_, _, rfl⟩ (by decide) trivial (by decide) (Nat.le_of_ble_eq_true rfl) rfl (q_motionCount hS hC ?_)
      refine go_aload_n (y := mL_isAs) (pc := 225) dL_isAs_225 rfl rfl ?_
      refine go_getI (y := mL_isAs) (pc := 226) dL_isAs_226 fl_L_60 rfl rfl (by decide) (fun r226 => ?_)
      refine go_top (b := (vw 20 μ) 5 0) (e9) (fun t226 => ?_)
      refine go_icmp_ne (y := mL_isAs) (pc := 229) (tgt := 291) dL_isAs_229 (by decide) (by omega) (by omega) (fun h229 => ?_) (fun h229 => ?_)
      · skip
        exact absurd rfl h229
      · skip
        refine go_aload_n (y := mL_isAs) (pc := 232) dL_isAs_232 rfl rfl ?_
        refine go_callV0 (y := mL_isAs) (pc := 233) (y' := mX10_chairCount) (kc2 := 0) (ks2 := 0) dL_isAs_233 ml_L_210 ok_X10_chairCount (show shp 0 = _ from rfl) ⟨_, _, rfl⟩ (by decide) trivial (by decide) (Nat.le_of_ble_eq_true rfl) rfl (q_chairCount hS hC ?_)
        refine go_aload_n (y := mL_isAs) (pc := 236) dL_isAs_236 rfl rfl ?_
        refine go_getI (y := mL_isAs) (pc := 237) dL_isAs_237 fl_L_168 rfl rfl (by decide) (fun r237 => ?_)
        refine go_top (b := su μ 0 0) (e0) (fun t237 => ?_)
        refine go_icmp_ne (y := mL_isAs) (pc := 240) (tgt := 291) dL_isAs_240 (by decide) (by omega) (by omega) (fun h240 => ?_) (fun h240 => ?_)
        · skip
          exact absurd rfl h240
        · skip
          refine go_aload_n (y := mL_isAs) (pc := 243) dL_isAs_243 rfl rfl ?_
          refine go_callV0 (y := mL_isAs) (pc := 244) (y' := mX10_minute) (kc2 := 0) (ks2 := 0) dL_isAs_244 ml_L_213 ok_X10_minute (show shp 0 = _ from rfl) ⟨_, _, rfl⟩ (by decide) trivial (by decide) (Nat.le_of_ble_eq_true rfl) rfl (q_minute hS hC ?_)
          refine go_aload_n (y := mL_isAs) (pc := 247) dL_isAs_247 rfl rfl ?_
          refine go_getI (y := mL_isAs) (pc := 248) dL_isAs_248 fl_L_216 rfl rfl (by decide) (fun r248 => ?_)
          refine go_top (b := (vw 20 μ) 0 5) (e7) (fun t248 => ?_)
          refine go_icmp_ne (y := mL_isAs) (pc := 251) (tgt := 291) dL_isAs_251 (by decide) (by rw [← t248]; exact r248) (by rw [← t248]; exact r248) (fun h251 => ?_) (fun h251 => ?_)
          · skip
            exact absurd rfl h251
          · skip
            refine go_aload_n (y := mL_isAs) (pc := 254) dL_isAs_254 rfl rfl ?_
            refine go_callV0 (y := mL_isAs) (pc := 255) (y' := mX10_freeMirrors) (kc2 := 0) (ks2 := 0) dL_isAs_255 ml_L_218 ok_X10_freeMirrors (show shp 0 = _ from rfl) ⟨_, _, rfl⟩ (by decide) trivial (by decide) (Nat.le_of_ble_eq_true rfl) rfl (q_freeMirrors hS hC ?_)
            refine go_aload_n (y := mL_isAs) (pc := 258) dL_isAs_258 rfl rfl ?_
            refine go_callV0 (y := mL_isAs) (pc := 259) (y' := mX11_free) (kc2 := 0) (ks2 := 0) dL_isAs_259 ml_L_221 ok_X11_free (show shp 276 = _ from rfl) ⟨_, _, rfl⟩ (by decide) trivial (by decide) (Nat.le_of_ble_eq_true rfl) rfl (p_free (z := 293) (w := 276) (Or.inl rfl) (by decide) hS hC hR ?_)
            refine go_icmp_ne (y := mL_isAs) (pc := 262) (tgt := 291) dL_isAs_262 (by decide) (by omega) (by omega) (fun h262 => ?_) (fun h262 => ?_)
            · skip
              exact absurd rfl h262
            · skip
              refine go_aload_n (y := mL_isAs) (pc := 265) dL_isAs_265 rfl rfl ?_
              refine go_callV0 (y := mL_isAs) (pc := 266) (y' := mX10_ranking) (kc2 := 0) (ks2 := 0) dL_isAs_266 ml_L_224 ok_X10_ranking (show shp 0 = _ from rfl) ⟨_, _, rfl⟩ (by decide) trivial (by decide) (Nat.le_of_ble_eq_true rfl) rfl (q_ranking hS hC ?_)
              refine go_aload_n (y := mL_isAs) (pc := 269) dL_isAs_269 rfl rfl ?_
              refine go_getI (y := mL_isAs) (pc := 270) dL_isAs_270 fl_L_227 rfl rfl (by decide) (fun r270 => ?_)
              refine go_top (b := (vw 20 μ) 0 6) (e10) (fun t270 => ?_)
              refine go_icmp_ne (y := mL_isAs) (pc := 273) (tgt := 291) dL_isAs_273 (by decide) (by omega) (by omega) (fun h273 => ?_) (fun h273 => ?_)
              · skip
                exact absurd rfl h273
              · skip
                refine go_aload_n (y := mL_isAs) (pc := 276) dL_isAs_276 rfl rfl ?_
                refine go_callV0 (y := mL_isAs) (pc := 277) (y' := mX10_requestCount) (kc2 := 0) (ks2 := 0) dL_isAs_277 ml_L_229 ok_X10_requestCount (show shp 0 = _ from rfl) ⟨_, _, rfl⟩ (by decide) trivial (by decide) (Nat.le_of_ble_eq_true rfl) rfl (q_requestCount hS hC ?_)
                refine go_aload_n (y := mL_isAs) (pc := 280) dL_isAs_280 rfl rfl ?_
                refine go_callV0 (y := mL_isAs) (pc := 281) (y' := mX11_requests) (kc2 := 0) (ks2 := 0) dL_isAs_281 ml_L_197 ok_X11_requests (show shp 276 = _ from rfl) ⟨_, _, rfl⟩ (by decide) trivial (by decide) (Nat.le_of_ble_eq_true rfl) rfl (p_requests (z := 293) (w := 276) (Or.inl rfl) (by decide) hS hC hR ?_)
                refine go_icmp_ne (y := mL_isAs) (pc := 284) (tgt := 291) dL_isAs_284 (by decide) (by omega) (by omega) (fun h284 => ?_) (fun h284 => ?_)
                · skip
                  exact absurd rfl h284
                · skip
                  refine go_iconst (y := mL_isAs) (pc := 287) dL_isAs_287 ?_
                  refine go_goto (y := mL_isAs) (pc := 288) (tgt := 292) dL_isAs_288 (by decide) ?_
                  refine go_istore_n (y := mL_isAs) (pc := 292) dL_isAs_292 rfl (by decide) ?_
                  refine go_iload_n (y := mL_isAs) (pc := 293) dL_isAs_293 rfl rfl ?_
                  refine go_if_eq (y := mL_isAs) (pc := 294) (tgt := 341) dL_isAs_294 (by decide) (by omega) (fun h294 => ?_) (fun h294 => ?_)
                  · skip
                    exact absurd h294 (by decide)
                  · skip
                    refine go_aload_n (y := mL_isAs) (pc := 297) dL_isAs_297 rfl rfl ?_
                    refine go_callV0 (y := mL_isAs) (pc := 298) (y' := mX10_tips) (kc2 := 0) (ks2 := 0) dL_isAs_298 ml_L_232 ok_X10_tips (show shp 0 = _ from rfl) ⟨_, _, rfl⟩ (by decide) trivial (by decide) (Nat.le_of_ble_eq_true rfl) rfl (q_tips hS hC ?_)
                    refine go_aload_n (y := mL_isAs) (pc := 301) dL_isAs_301 rfl rfl ?_
                    refine go_getI (y := mL_isAs) (pc := 302) dL_isAs_302 fl_L_235 rfl rfl (by decide) (fun r302 => ?_)
                    refine go_top (b := (vw 20 μ) 0 7) (e11) (fun t302 => ?_)
                    refine go_icmp_ne (y := mL_isAs) (pc := 305) (tgt := 341) dL_isAs_305 (by decide) (by rw [← t302]; exact r302) (by rw [← t302]; exact r302) (fun h305 => ?_) (fun h305 => ?_)
                    · skip
                      exact absurd rfl h305
                    · skip
                      refine go_aload_n (y := mL_isAs) (pc := 308) dL_isAs_308 rfl rfl ?_
                      refine go_callV0 (y := mL_isAs) (pc := 309) (y' := mX10_voteCount) (kc2 := 0) (ks2 := 0) dL_isAs_309 ml_L_237 ok_X10_voteCount (show shp 0 = _ from rfl) ⟨_, _, rfl⟩ (by decide) trivial (by decide) (Nat.le_of_ble_eq_true rfl) rfl (q_voteCount hS hC ?_)
                      refine go_aload_n (y := mL_isAs) (pc := 312) dL_isAs_312 rfl rfl ?_
                      refine go_getI (y := mL_isAs) (pc := 313) dL_isAs_313 fl_L_240 rfl rfl (by decide) (fun r313 => ?_)
                      refine go_top (b := (vw 20 μ) 0 8) (e12) (fun t313 => ?_)
                      refine go_icmp_ne (y := mL_isAs) (pc := 316) (tgt := 341) dL_isAs_316 (by decide) (by rw [← t313]; exact r313) (by rw [← t313]; exact r313) (fun h316 => ?_) (fun h316 => ?_)
                      · skip
                        exact absurd rfl h316
                      · skip
                        refine go_aload_n (y := mL_isAs) (pc := 319) dL_isAs_319 rfl rfl ?_
                        refine go_callV0 (y := mL_isAs) (pc := 320) (y' := mX10_rebuttalCount) (kc2 := 0) (ks2 := 0) dL_isAs_320 ml_L_243 ok_X10_rebuttalCount (show shp 0 = _ from rfl) ⟨_, _, rfl⟩ (by decide) trivial (by decide) (Nat.le_of_ble_eq_true rfl) rfl (q_rebuttalCount hS hC ?_)
                        refine go_aload_n (y := mL_isAs) (pc := 323) dL_isAs_323 rfl rfl ?_
                        refine go_getI (y := mL_isAs) (pc := 324) dL_isAs_324 fl_L_246 rfl rfl (by decide) (fun r324 => ?_)
                        refine go_top (b := (vw 20 μ) 0 9) (e13) (fun t324 => ?_)
                        refine go_icmp_ne (y := mL_isAs) (pc := 327) (tgt := 341) dL_isAs_327 (by decide) (by rw [← t324]; exact r324) (by rw [← t324]; exact r324) (fun h327 => ?_) (fun h327 => ?_)
                        · skip
                          exact absurd rfl h327
                        · skip
                          refine go_aload_n (y := mL_isAs) (pc := 330) dL_isAs_330 rfl rfl ?_
                          refine go_callV0 (y := mL_isAs) (pc := 331) (y' := mX10_contradictions) (kc2 := 0) (ks2 := 0) dL_isAs_331 ml_L_249 ok_X10_contradictions (show shp 0 = _ from rfl) ⟨_, _, rfl⟩ (by decide) trivial (by decide) (Nat.le_of_ble_eq_true rfl) rfl (q_contradictions hS hC ?_)
                          refine go_top (b := 0) (hct) (fun t331 => ?_)
                          refine go_if_ne (y := mL_isAs) (pc := 334) (tgt := 341) dL_isAs_334 (by decide) (by omega) (fun h334 => ?_) (fun h334 => ?_)
                          · skip
                            exact absurd rfl h334
                          · skip
                            refine go_iconst (y := mL_isAs) (pc := 337) dL_isAs_337 ?_
                            refine go_goto (y := mL_isAs) (pc := 338) (tgt := 342) dL_isAs_338 (by decide) ?_
                            refine go_zreturn (y := mL_isAs) (pc := 342) dL_isAs_342 rfl (by omega) ?_
                            exact K
  have loop4 : ∀ (n k : Nat) (u3 : Value), k + n = 4 → go 293 9 0 0 mL_isAs Q X 169 [.ref 0, .ref 276, .int (iI (k : Nat)), u3] [] μ := by
    intro n
    induction n using Nat.strongRecOn with
    | _ n ih =>
      intro k u3 hk
      have ih' := ih (n - 1)
      by_cases hk4 : k = 4
      · subst hk4
        refine go_iload_n (y := mL_isAs) (pc := 169) dL_isAs_169 rfl rfl ?_
        refine go_iconst (y := mL_isAs) (pc := 170) dL_isAs_170 ?_
        refine go_icmp_ge (y := mL_isAs) (pc := 171) (tgt := 210) dL_isAs_171 (by decide) (by omega) (by omega) (fun h171 => ?_) (fun h171 => ?_)
        · skip
          exact last _ _
        · skip
          exact absurd h171 (by omega)
      · by_cases h0 : (vw 20 μ) 11 0 = 0
        · have hf : fsl (su μ) (vw 20 μ) k = -1 := by
            unfold fsl
            rw [h0]
            rfl
          refine go_iload_n (y := mL_isAs) (pc := 169) dL_isAs_169 rfl rfl ?_
          refine go_iconst (y := mL_isAs) (pc := 170) dL_isAs_170 ?_
          refine go_icmp_ge (y := mL_isAs) (pc := 171) (tgt := 210) dL_isAs_171 (by decide) (by omega) (by omega) (fun h171 => ?_) (fun h171 => ?_)
          · skip
            exact absurd h171 (by omega)
          · skip
            refine go_aload_n (y := mL_isAs) (pc := 174) dL_isAs_174 rfl rfl ?_
            refine go_iload_n (y := mL_isAs) (pc := 175) dL_isAs_175 rfl rfl ?_
            refine go_callV1 (y := mL_isAs) (pc := 176) (y' := mX10_firstBy) (kc2 := 0) (ks2 := 0) dL_isAs_176 ml_L_194 ok_X10_firstBy (show shp 0 = _ from rfl) ⟨_, _, rfl⟩ (by decide) rfl (by decide) (Nat.le_of_ble_eq_true rfl) rfl (q_firstBy hS hC (k := k) (by omega) ?_)
            refine go_top (b := -1) (if_pos hf) (fun t176 => ?_)
            refine go_aload_n (y := mL_isAs) (pc := 179) dL_isAs_179 rfl rfl ?_
            refine go_callV0 (y := mL_isAs) (pc := 180) (y' := mX11_requests) (kc2 := 0) (ks2 := 0) dL_isAs_180 ml_L_197 ok_X11_requests (show shp 276 = _ from rfl) ⟨_, _, rfl⟩ (by decide) trivial (by decide) (Nat.le_of_ble_eq_true rfl) rfl (p_requests (z := 293) (w := 276) (Or.inl rfl) (by decide) hS hC hR ?_)
            refine go_top (b := 0) (h0) (fun t180 => ?_)
            refine go_if_ne (y := mL_isAs) (pc := 183) (tgt := 190) dL_isAs_183 (by decide) (by omega) (fun h183 => ?_) (fun h183 => ?_)
            · skip
              exact absurd rfl h183
            · skip
              refine go_iconst (y := mL_isAs) (pc := 186) dL_isAs_186 ?_
              refine go_goto (y := mL_isAs) (pc := 187) (tgt := 199) dL_isAs_187 (by decide) ?_
              refine go_icmp_eq (y := mL_isAs) (pc := 199) (tgt := 204) dL_isAs_199 (by decide) (by omega) (by omega) (fun h199 => ?_) (fun h199 => ?_)
              · skip
                refine go_iinc (y := mL_isAs) (pc := 204) dL_isAs_204 rfl (by decide) ?_
                refine go_goto (y := mL_isAs) (pc := 207) (tgt := 169) dL_isAs_207 (by decide) ?_
                exact ih' (by omega) (k + 1) u3 (by omega)
              · skip
                exact absurd rfl h199
        · obtain ⟨i, hi, hi2⟩ := fsl_some (S := su μ) (s := vw 20 μ) (rk := (k : Int)) (by omega)
          have hd := hC.2.2.2.1 i hi2
          refine go_iload_n (y := mL_isAs) (pc := 169) dL_isAs_169 rfl rfl ?_
          refine go_iconst (y := mL_isAs) (pc := 170) dL_isAs_170 ?_
          refine go_icmp_ge (y := mL_isAs) (pc := 171) (tgt := 210) dL_isAs_171 (by decide) (by omega) (by omega) (fun h171 => ?_) (fun h171 => ?_)
          · skip
            exact absurd h171 (by omega)
          · skip
            refine go_aload_n (y := mL_isAs) (pc := 174) dL_isAs_174 rfl rfl ?_
            refine go_iload_n (y := mL_isAs) (pc := 175) dL_isAs_175 rfl rfl ?_
            refine go_callV1 (y := mL_isAs) (pc := 176) (y' := mX10_firstBy) (kc2 := 0) (ks2 := 0) dL_isAs_176 ml_L_194 ok_X10_firstBy (show shp 0 = _ from rfl) ⟨_, _, rfl⟩ (by decide) rfl (by decide) (Nat.le_of_ble_eq_true rfl) rfl (q_firstBy hS hC (k := k) (by omega) ?_)
            refine go_top (b := (vw 20 μ) 12 i) ((by rw [hi, if_neg (by omega), Int.toNat_natCast])) (fun t176 => ?_)
            refine go_aload_n (y := mL_isAs) (pc := 179) dL_isAs_179 rfl rfl ?_
            refine go_callV0 (y := mL_isAs) (pc := 180) (y' := mX11_requests) (kc2 := 0) (ks2 := 0) dL_isAs_180 ml_L_197 ok_X11_requests (show shp 276 = _ from rfl) ⟨_, _, rfl⟩ (by decide) trivial (by decide) (Nat.le_of_ble_eq_true rfl) rfl (p_requests (z := 293) (w := 276) (Or.inl rfl) (by decide) hS hC hR ?_)
            refine go_if_ne (y := mL_isAs) (pc := 183) (tgt := 190) dL_isAs_183 (by decide) (by omega) (fun h183 => ?_) (fun h183 => ?_)
            · skip
              refine go_aload_n (y := mL_isAs) (pc := 190) dL_isAs_190 rfl rfl ?_
              refine go_aload_n (y := mL_isAs) (pc := 191) dL_isAs_191 rfl rfl ?_
              refine go_iload_n (y := mL_isAs) (pc := 192) dL_isAs_192 rfl rfl ?_
              refine go_callV1 (y := mL_isAs) (pc := 193) (y' := mX11_firstBy) (kc2 := 0) (ks2 := 0) dL_isAs_193 ml_L_200 ok_X11_firstBy (show shp 276 = _ from rfl) ⟨_, _, rfl⟩ (by decide) rfl (by decide) (Nat.le_of_ble_eq_true rfl) rfl (p_firstBy (z := 293) (w := 276) (Or.inl rfl) (by decide) hS hC hR hL hN (by omega) (fun v193 e193 b193 => ?_))
              refine go_top (b := ((i : Nat) : Int)) ((e193.trans hi)) (fun t193 => ?_)
              refine go_callV1 (y := mL_isAs) (pc := 196) (y' := mX11_who) (kc2 := 0) (ks2 := 0) dL_isAs_196 ml_L_201 ok_X11_who (show shp 276 = _ from rfl) ⟨_, _, rfl⟩ (by decide) rfl (by decide) (Nat.le_of_ble_eq_true rfl) rfl (p_who (z := 293) (w := 276) (Or.inl rfl) (by decide) hS hC hR (r := i) (by omega) ?_)
              refine go_icmp_eq (y := mL_isAs) (pc := 199) (tgt := 204) dL_isAs_199 (by decide) (by omega) (by omega) (fun h199 => ?_) (fun h199 => ?_)
              · skip
                refine go_iinc (y := mL_isAs) (pc := 204) dL_isAs_204 rfl (by decide) ?_
                refine go_goto (y := mL_isAs) (pc := 207) (tgt := 169) dL_isAs_207 (by decide) ?_
                exact ih' (by omega) (k + 1) u3 (by omega)
              · skip
                exact absurd rfl h199
            · skip
              exact absurd h183 h0
  have loop3 : ∀ (n k : Nat) (u3 : Value), (k : Int) + n = su μ 0 0 → go 293 9 0 0 mL_isAs Q X 56 [.ref 0, .ref 276, .int (iI (k : Nat)), u3] [] μ := by
    intro n
    induction n using Nat.strongRecOn with
    | _ n ih =>
      intro k u3 hk
      have ih' := ih (n - 1)
      by_cases hkn : (k : Int) = su μ 0 0
      · skip
        refine go_iload_n (y := mL_isAs) (pc := 56) dL_isAs_56 rfl rfl ?_
        refine go_aload_n (y := mL_isAs) (pc := 57) dL_isAs_57 rfl rfl ?_
        refine go_getI (y := mL_isAs) (pc := 58) dL_isAs_58 fl_L_168 rfl rfl (by decide) (fun r58 => ?_)
        refine go_top (b := su μ 0 0) (e0) (fun t58 => ?_)
        refine go_icmp_ge (y := mL_isAs) (pc := 61) (tgt := 167) dL_isAs_61 (by decide) (by omega) (by omega) (fun h61 => ?_) (fun h61 => ?_)
        · skip
          refine go_iconst (y := mL_isAs) (pc := 167) dL_isAs_167 ?_
          refine go_istore_n (y := mL_isAs) (pc := 168) dL_isAs_168 rfl (by decide) ?_
          exact loop4 4 0 _ (by omega)
        · skip
          exact absurd h61 (by omega)
      · have hk4 : k < 4 := by omega
        have hE := hR.2.2.2.2.1 k hk4
        have c11 : μ 287 k = (vw 20 μ) 16 k := hE.1
        have hX := hC.2.2.2.2.2 k hk4
        by_cases ht : (vw 20 μ) 16 k = -1
        · have x19 : (vw 20 μ) 19 k = 0 := by omega
          have x20 : (vw 20 μ) 20 k = 0 := by omega
          have hb : bI (0 < (vw 20 μ) 20 k) = 0 := bI_f (by omega)
          refine go_iload_n (y := mL_isAs) (pc := 56) dL_isAs_56 rfl rfl ?_
          refine go_aload_n (y := mL_isAs) (pc := 57) dL_isAs_57 rfl rfl ?_
          refine go_getI (y := mL_isAs) (pc := 58) dL_isAs_58 fl_L_168 rfl rfl (by decide) (fun r58 => ?_)
          refine go_top (b := su μ 0 0) (e0) (fun t58 => ?_)
          refine go_icmp_ge (y := mL_isAs) (pc := 61) (tgt := 167) dL_isAs_61 (by decide) (by omega) (by omega) (fun h61 => ?_) (fun h61 => ?_)
          · skip
            exact absurd h61 (by omega)
          · skip
            refine go_aload_n (y := mL_isAs) (pc := 64) dL_isAs_64 rfl rfl ?_
            refine go_getR (y := mL_isAs) (pc := 65) dL_isAs_65 fl_L_171 rfl rfl (by decide) ?_
            refine go_iload_n (y := mL_isAs) (pc := 68) dL_isAs_68 rfl rfl ?_
            refine go_iaload (y := mL_isAs) (pc := 69) (k := k) dL_isAs_69 rfl (by decide) rfl (by omega) (by decide) (fun r69 => ?_)
            refine go_top (b := -1) ((c11.trans ht)) (fun t69 => ?_)
            refine go_if_lt (y := mL_isAs) (pc := 70) (tgt := 77) dL_isAs_70 (by decide) (by omega) (fun h70 => ?_) (fun h70 => ?_)
            · skip
              refine go_iconst (y := mL_isAs) (pc := 77) dL_isAs_77 ?_
              refine go_istore_n (y := mL_isAs) (pc := 78) dL_isAs_78 rfl (by decide) ?_
              refine go_aload_n (y := mL_isAs) (pc := 79) dL_isAs_79 rfl rfl ?_
              refine go_iload_n (y := mL_isAs) (pc := 80) dL_isAs_80 rfl rfl ?_
              refine go_callV1 (y := mL_isAs) (pc := 81) (y' := mX10_speaker) (kc2 := 0) (ks2 := 0) dL_isAs_81 ml_L_174 ok_X10_speaker (show shp 0 = _ from rfl) ⟨_, _, rfl⟩ (by decide) rfl (by decide) (Nat.le_of_ble_eq_true rfl) rfl (q_speaker hS hC (k := k) (by omega) ?_)
              refine go_top (b := -1) (ht) (fun t81 => ?_)
              refine go_aload_n (y := mL_isAs) (pc := 84) dL_isAs_84 rfl rfl ?_
              refine go_getR (y := mL_isAs) (pc := 85) dL_isAs_85 fl_L_171 rfl rfl (by decide) ?_
              refine go_iload_n (y := mL_isAs) (pc := 88) dL_isAs_88 rfl rfl ?_
              refine go_iaload (y := mL_isAs) (pc := 89) (k := k) dL_isAs_89 rfl (by decide) rfl (by omega) (by decide) (fun r89 => ?_)
              refine go_top (b := -1) ((c11.trans ht)) (fun t89 => ?_)
              refine go_icmp_ne (y := mL_isAs) (pc := 90) (tgt := 159) dL_isAs_90 (by decide) (by omega) (by omega) (fun h90 => ?_) (fun h90 => ?_)
              · skip
                exact absurd rfl h90
              · skip
                refine go_aload_n (y := mL_isAs) (pc := 93) dL_isAs_93 rfl rfl ?_
                refine go_iload_n (y := mL_isAs) (pc := 94) dL_isAs_94 rfl rfl ?_
                refine go_callV1 (y := mL_isAs) (pc := 95) (y' := mX10_remainingTime) (kc2 := 0) (ks2 := 0) dL_isAs_95 ml_L_176 ok_X10_remainingTime (show shp 0 = _ from rfl) ⟨_, _, rfl⟩ (by decide) rfl (by decide) (Nat.le_of_ble_eq_true rfl) rfl (q_remainingTime hS hC (k := k) (by omega) ?_)
                refine go_top (b := 0) (x19) (fun t95 => ?_)
                refine go_iload_n (y := mL_isAs) (pc := 98) dL_isAs_98 rfl rfl ?_
                refine go_if_eq (y := mL_isAs) (pc := 99) (tgt := 111) dL_isAs_99 (by decide) (by omega) (fun h99 => ?_) (fun h99 => ?_)
                · skip
                  refine go_iconst (y := mL_isAs) (pc := 111) dL_isAs_111 ?_
                  refine go_icmp_ne (y := mL_isAs) (pc := 112) (tgt := 159) dL_isAs_112 (by decide) (by omega) (by omega) (fun h112 => ?_) (fun h112 => ?_)
                  · skip
                    exact absurd rfl h112
                  · skip
                    refine go_aload_n (y := mL_isAs) (pc := 115) dL_isAs_115 rfl rfl ?_
                    refine go_iload_n (y := mL_isAs) (pc := 116) dL_isAs_116 rfl rfl ?_
                    refine go_callV1 (y := mL_isAs) (pc := 117) (y' := mX10_isRebutted) (kc2 := 0) (ks2 := 0) dL_isAs_117 ml_L_182 ok_X10_isRebutted (show shp 0 = _ from rfl) ⟨_, _, rfl⟩ (by decide) rfl (by decide) (Nat.le_of_ble_eq_true rfl) rfl (q_isRebutted hS hC (k := k) (by omega) ?_)
                    refine go_top (b := 0) (hb) (fun t117 => ?_)
                    refine go_iload_n (y := mL_isAs) (pc := 120) dL_isAs_120 rfl rfl ?_
                    refine go_if_eq (y := mL_isAs) (pc := 121) (tgt := 137) dL_isAs_121 (by decide) (by omega) (fun h121 => ?_) (fun h121 => ?_)
                    · skip
                      refine go_iconst (y := mL_isAs) (pc := 137) dL_isAs_137 ?_
                      refine go_icmp_ne (y := mL_isAs) (pc := 138) (tgt := 159) dL_isAs_138 (by decide) (by omega) (by omega) (fun h138 => ?_) (fun h138 => ?_)
                      · skip
                        exact absurd rfl h138
                      · skip
                        refine go_iload_n (y := mL_isAs) (pc := 141) dL_isAs_141 rfl rfl ?_
                        refine go_if_eq (y := mL_isAs) (pc := 142) (tgt := 161) dL_isAs_142 (by decide) (by omega) (fun h142 => ?_) (fun h142 => ?_)
                        · skip
                          refine go_iinc (y := mL_isAs) (pc := 161) dL_isAs_161 rfl (by decide) ?_
                          refine go_goto (y := mL_isAs) (pc := 164) (tgt := 56) dL_isAs_164 (by decide) ?_
                          exact ih' (by omega) (k + 1) _ (by omega)
                        · skip
                          exact absurd rfl h142
                    · skip
                      exact absurd rfl h121
                · skip
                  exact absurd rfl h99
            · skip
              exact absurd h70 (by decide)
        · have hE2 := hE.2 ht
          have c12 : μ 288 k = (vw 20 μ) 17 k := hE2.1
          have c13 : μ 289 k = (vw 20 μ) 19 k := hE2.2.1
          have c16 : μ 292 k = (vw 20 μ) 20 k := hE2.2.2.2
          have J138 : ∀ v : Int, v = bI (0 < (vw 20 μ) 20 k) → go 293 9 0 0 mL_isAs Q X 138 [.ref 0, .ref 276, .int (iI (k : Nat)), .int (iI 1)] [.int (iI v), .int (iI (bI (0 < (vw 20 μ) 20 k)))] μ := by
            intro v hv
            have hb := bI_01 (0 < (vw 20 μ) 20 k)
            refine go_icmp_ne (y := mL_isAs) (pc := 138) (tgt := 159) dL_isAs_138 (by decide) (by omega) (by omega) (fun h138 => ?_) (fun h138 => ?_)
            · skip
              exact absurd hv.symm h138
            · skip
              refine go_iload_n (y := mL_isAs) (pc := 141) dL_isAs_141 rfl rfl ?_
              refine go_if_eq (y := mL_isAs) (pc := 142) (tgt := 161) dL_isAs_142 (by decide) (by omega) (fun h142 => ?_) (fun h142 => ?_)
              · skip
                exact absurd h142 (by decide)
              · skip
                refine go_aload_n (y := mL_isAs) (pc := 145) dL_isAs_145 rfl rfl ?_
                refine go_iload_n (y := mL_isAs) (pc := 146) dL_isAs_146 rfl rfl ?_
                refine go_callV1 (y := mL_isAs) (pc := 147) (y' := mX10_speechMotion) (kc2 := 0) (ks2 := 0) dL_isAs_147 ml_L_188 ok_X10_speechMotion (show shp 0 = _ from rfl) ⟨_, _, rfl⟩ (by decide) rfl (by decide) (Nat.le_of_ble_eq_true rfl) rfl (q_speechMotion hS hC (k := k) (by omega) (by omega) ?_)
                refine go_aload_n (y := mL_isAs) (pc := 150) dL_isAs_150 rfl rfl ?_
                refine go_getR (y := mL_isAs) (pc := 151) dL_isAs_151 fl_L_191 rfl rfl (by decide) ?_
                refine go_iload_n (y := mL_isAs) (pc := 154) dL_isAs_154 rfl rfl ?_
                refine go_iaload (y := mL_isAs) (pc := 155) (k := k) dL_isAs_155 rfl (by decide) rfl (by omega) (by decide) (fun r155 => ?_)
                refine go_top (b := (vw 20 μ) 17 k) (c12) (fun t155 => ?_)
                refine go_icmp_eq (y := mL_isAs) (pc := 156) (tgt := 161) dL_isAs_156 (by decide) (by omega) (by omega) (fun h156 => ?_) (fun h156 => ?_)
                · skip
                  refine go_iinc (y := mL_isAs) (pc := 161) dL_isAs_161 rfl (by decide) ?_
                  refine go_goto (y := mL_isAs) (pc := 164) (tgt := 56) dL_isAs_164 (by decide) ?_
                  exact ih' (by omega) (k + 1) _ (by omega)
                · skip
                  exact absurd rfl h156
          refine go_iload_n (y := mL_isAs) (pc := 56) dL_isAs_56 rfl rfl ?_
          refine go_aload_n (y := mL_isAs) (pc := 57) dL_isAs_57 rfl rfl ?_
          refine go_getI (y := mL_isAs) (pc := 58) dL_isAs_58 fl_L_168 rfl rfl (by decide) (fun r58 => ?_)
          refine go_top (b := su μ 0 0) (e0) (fun t58 => ?_)
          refine go_icmp_ge (y := mL_isAs) (pc := 61) (tgt := 167) dL_isAs_61 (by decide) (by omega) (by omega) (fun h61 => ?_) (fun h61 => ?_)
          · skip
            exact absurd h61 (by omega)
          · skip
            refine go_aload_n (y := mL_isAs) (pc := 64) dL_isAs_64 rfl rfl ?_
            refine go_getR (y := mL_isAs) (pc := 65) dL_isAs_65 fl_L_171 rfl rfl (by decide) ?_
            refine go_iload_n (y := mL_isAs) (pc := 68) dL_isAs_68 rfl rfl ?_
            refine go_iaload (y := mL_isAs) (pc := 69) (k := k) dL_isAs_69 rfl (by decide) rfl (by omega) (by decide) (fun r69 => ?_)
            refine go_top (b := (vw 20 μ) 16 k) (c11) (fun t69 => ?_)
            refine go_if_lt (y := mL_isAs) (pc := 70) (tgt := 77) dL_isAs_70 (by decide) (by omega) (fun h70 => ?_) (fun h70 => ?_)
            · skip
              exact absurd h70 (by omega)
            · skip
              refine go_iconst (y := mL_isAs) (pc := 73) dL_isAs_73 ?_
              refine go_goto (y := mL_isAs) (pc := 74) (tgt := 78) dL_isAs_74 (by decide) ?_
              refine go_istore_n (y := mL_isAs) (pc := 78) dL_isAs_78 rfl (by decide) ?_
              refine go_aload_n (y := mL_isAs) (pc := 79) dL_isAs_79 rfl rfl ?_
              refine go_iload_n (y := mL_isAs) (pc := 80) dL_isAs_80 rfl rfl ?_
              refine go_callV1 (y := mL_isAs) (pc := 81) (y' := mX10_speaker) (kc2 := 0) (ks2 := 0) dL_isAs_81 ml_L_174 ok_X10_speaker (show shp 0 = _ from rfl) ⟨_, _, rfl⟩ (by decide) rfl (by decide) (Nat.le_of_ble_eq_true rfl) rfl (q_speaker hS hC (k := k) (by omega) ?_)
              refine go_aload_n (y := mL_isAs) (pc := 84) dL_isAs_84 rfl rfl ?_
              refine go_getR (y := mL_isAs) (pc := 85) dL_isAs_85 fl_L_171 rfl rfl (by decide) ?_
              refine go_iload_n (y := mL_isAs) (pc := 88) dL_isAs_88 rfl rfl ?_
              refine go_iaload (y := mL_isAs) (pc := 89) (k := k) dL_isAs_89 rfl (by decide) rfl (by omega) (by decide) (fun r89 => ?_)
              refine go_top (b := (vw 20 μ) 16 k) (c11) (fun t89 => ?_)
              refine go_icmp_ne (y := mL_isAs) (pc := 90) (tgt := 159) dL_isAs_90 (by decide) (by omega) (by omega) (fun h90 => ?_) (fun h90 => ?_)
              · skip
                exact absurd rfl h90
              · skip
                refine go_aload_n (y := mL_isAs) (pc := 93) dL_isAs_93 rfl rfl ?_
                refine go_iload_n (y := mL_isAs) (pc := 94) dL_isAs_94 rfl rfl ?_
                refine go_callV1 (y := mL_isAs) (pc := 95) (y' := mX10_remainingTime) (kc2 := 0) (ks2 := 0) dL_isAs_95 ml_L_176 ok_X10_remainingTime (show shp 0 = _ from rfl) ⟨_, _, rfl⟩ (by decide) rfl (by decide) (Nat.le_of_ble_eq_true rfl) rfl (q_remainingTime hS hC (k := k) (by omega) ?_)
                refine go_iload_n (y := mL_isAs) (pc := 98) dL_isAs_98 rfl rfl ?_
                refine go_if_eq (y := mL_isAs) (pc := 99) (tgt := 111) dL_isAs_99 (by decide) (by omega) (fun h99 => ?_) (fun h99 => ?_)
                · skip
                  exact absurd h99 (by decide)
                · skip
                  refine go_aload_n (y := mL_isAs) (pc := 102) dL_isAs_102 rfl rfl ?_
                  refine go_getR (y := mL_isAs) (pc := 103) dL_isAs_103 fl_L_179 rfl rfl (by decide) ?_
                  refine go_iload_n (y := mL_isAs) (pc := 106) dL_isAs_106 rfl rfl ?_
                  refine go_iaload (y := mL_isAs) (pc := 107) (k := k) dL_isAs_107 rfl (by decide) rfl (by omega) (by decide) (fun r107 => ?_)
                  refine go_top (b := (vw 20 μ) 19 k) (c13) (fun t107 => ?_)
                  refine go_goto (y := mL_isAs) (pc := 108) (tgt := 112) dL_isAs_108 (by decide) ?_
                  refine go_icmp_ne (y := mL_isAs) (pc := 112) (tgt := 159) dL_isAs_112 (by decide) (by omega) (by omega) (fun h112 => ?_) (fun h112 => ?_)
                  · skip
                    exact absurd rfl h112
                  · skip
                    refine go_aload_n (y := mL_isAs) (pc := 115) dL_isAs_115 rfl rfl ?_
                    refine go_iload_n (y := mL_isAs) (pc := 116) dL_isAs_116 rfl rfl ?_
                    refine go_callV1 (y := mL_isAs) (pc := 117) (y' := mX10_isRebutted) (kc2 := 0) (ks2 := 0) dL_isAs_117 ml_L_182 ok_X10_isRebutted (show shp 0 = _ from rfl) ⟨_, _, rfl⟩ (by decide) rfl (by decide) (Nat.le_of_ble_eq_true rfl) rfl (q_isRebutted hS hC (k := k) (by omega) ?_)
                    refine go_iload_n (y := mL_isAs) (pc := 120) dL_isAs_120 rfl rfl ?_
                    refine go_if_eq (y := mL_isAs) (pc := 121) (tgt := 137) dL_isAs_121 (by decide) (by omega) (fun h121 => ?_) (fun h121 => ?_)
                    · skip
                      exact absurd h121 (by decide)
                    · skip
                      refine go_aload_n (y := mL_isAs) (pc := 124) dL_isAs_124 rfl rfl ?_
                      refine go_getR (y := mL_isAs) (pc := 125) dL_isAs_125 fl_L_185 rfl rfl (by decide) ?_
                      refine go_iload_n (y := mL_isAs) (pc := 128) dL_isAs_128 rfl rfl ?_
                      refine go_zaload (y := mL_isAs) (pc := 129) (k := k) dL_isAs_129 rfl (by decide) rfl (by omega) (by decide) (fun r129 => ?_)
                      refine go_top (b := (vw 20 μ) 20 k) (c16) (fun t129 => ?_)
                      refine go_if_eq (y := mL_isAs) (pc := 130) (tgt := 137) dL_isAs_130 (by decide) (by omega) (fun h130 => ?_) (fun h130 => ?_)
                      · skip
                        refine go_iconst (y := mL_isAs) (pc := 137) dL_isAs_137 ?_
                        exact J138 0 (bI_f (by omega)).symm
                      · skip
                        refine go_iconst (y := mL_isAs) (pc := 133) dL_isAs_133 ?_
                        refine go_goto (y := mL_isAs) (pc := 134) (tgt := 138) dL_isAs_134 (by decide) ?_
                        exact J138 1 (bI_t (by omega)).symm
  have loop2 : ∀ (n k : Nat) (u3 : Value), (k : Int) + n = (vw 20 μ) 5 0 → go 293 9 0 0 mL_isAs Q X 29 [.ref 0, .ref 276, .int (iI (k : Nat)), u3] [] μ := by
    intro n
    induction n using Nat.strongRecOn with
    | _ n ih =>
      intro k u3 hk
      have ih' := ih (n - 1)
      by_cases hkn : (k : Int) = (vw 20 μ) 5 0
      · skip
        refine go_iload_n (y := mL_isAs) (pc := 29) dL_isAs_29 rfl rfl ?_
        refine go_aload_n (y := mL_isAs) (pc := 30) dL_isAs_30 rfl rfl ?_
        refine go_getI (y := mL_isAs) (pc := 31) dL_isAs_31 fl_L_60 rfl rfl (by decide) (fun r31 => ?_)
        refine go_top (b := (vw 20 μ) 5 0) (e9) (fun t31 => ?_)
        refine go_icmp_ge (y := mL_isAs) (pc := 34) (tgt := 54) dL_isAs_34 (by decide) (by omega) (by omega) (fun h34 => ?_) (fun h34 => ?_)
        · skip
          refine go_iconst (y := mL_isAs) (pc := 54) dL_isAs_54 ?_
          refine go_istore_n (y := mL_isAs) (pc := 55) dL_isAs_55 rfl (by decide) ?_
          exact loop3 (su μ 0 0).toNat 0 _ (by omega)
        · skip
          exact absurd h34 (by omega)
      · skip
        refine go_iload_n (y := mL_isAs) (pc := 29) dL_isAs_29 rfl rfl ?_
        refine go_aload_n (y := mL_isAs) (pc := 30) dL_isAs_30 rfl rfl ?_
        refine go_getI (y := mL_isAs) (pc := 31) dL_isAs_31 fl_L_60 rfl rfl (by decide) (fun r31 => ?_)
        refine go_top (b := (vw 20 μ) 5 0) (e9) (fun t31 => ?_)
        refine go_icmp_ge (y := mL_isAs) (pc := 34) (tgt := 54) dL_isAs_34 (by decide) (by omega) (by omega) (fun h34 => ?_) (fun h34 => ?_)
        · skip
          exact absurd h34 (by omega)
        · skip
          refine go_aload_n (y := mL_isAs) (pc := 37) dL_isAs_37 rfl rfl ?_
          refine go_aload_n (y := mL_isAs) (pc := 38) dL_isAs_38 rfl rfl ?_
          refine go_iload_n (y := mL_isAs) (pc := 39) dL_isAs_39 rfl rfl ?_
          refine go_callS3 (y := mL_isAs) (pc := 40) (y' := mL_isMotion) (kc2 := 0) (ks2 := 0) dL_isAs_40 ml_L_165 ok_L_isMotion ⟨rfl, rfl, rfl⟩ (by decide) (Nat.le_of_ble_eq_true rfl) rfl (l_isMotion hS hC hR (q := _) (by omega) ?_)
          refine go_if_ne (y := mL_isAs) (pc := 43) (tgt := 48) dL_isAs_43 (by decide) (by omega) (fun h43 => ?_) (fun h43 => ?_)
          · skip
            refine go_iinc (y := mL_isAs) (pc := 48) dL_isAs_48 rfl (by decide) ?_
            refine go_goto (y := mL_isAs) (pc := 51) (tgt := 29) dL_isAs_51 (by decide) ?_
            exact ih' (by omega) (k + 1) _ (by omega)
          · skip
            exact absurd h43 (by decide)
  have loop1 : ∀ (n k : Nat) (u3 : Value), (k : Int) + n = su μ 0 7 → go 293 9 0 0 mL_isAs Q X 2 [.ref 0, .ref 276, .int (iI (k : Nat)), u3] [] μ := by
    intro n
    induction n using Nat.strongRecOn with
    | _ n ih =>
      intro k u3 hk
      have ih' := ih (n - 1)
      by_cases hkn : (k : Int) = su μ 0 7
      · skip
        refine go_iload_n (y := mL_isAs) (pc := 2) dL_isAs_2 rfl rfl ?_
        refine go_aload_n (y := mL_isAs) (pc := 3) dL_isAs_3 rfl rfl ?_
        refine go_getI (y := mL_isAs) (pc := 4) dL_isAs_4 fl_L_50 rfl rfl (by decide) (fun r4 => ?_)
        refine go_top (b := su μ 0 7) (e8) (fun t4 => ?_)
        refine go_icmp_ge (y := mL_isAs) (pc := 7) (tgt := 27) dL_isAs_7 (by decide) (by omega) (by omega) (fun h7 => ?_) (fun h7 => ?_)
        · skip
          refine go_iconst (y := mL_isAs) (pc := 27) dL_isAs_27 ?_
          refine go_istore_n (y := mL_isAs) (pc := 28) dL_isAs_28 rfl (by decide) ?_
          exact loop2 ((vw 20 μ) 5 0).toNat 0 _ (by omega)
        · skip
          exact absurd h7 (by omega)
      · skip
        refine go_iload_n (y := mL_isAs) (pc := 2) dL_isAs_2 rfl rfl ?_
        refine go_aload_n (y := mL_isAs) (pc := 3) dL_isAs_3 rfl rfl ?_
        refine go_getI (y := mL_isAs) (pc := 4) dL_isAs_4 fl_L_50 rfl rfl (by decide) (fun r4 => ?_)
        refine go_top (b := su μ 0 7) (e8) (fun t4 => ?_)
        refine go_icmp_ge (y := mL_isAs) (pc := 7) (tgt := 27) dL_isAs_7 (by decide) (by omega) (by omega) (fun h7 => ?_) (fun h7 => ?_)
        · skip
          exact absurd h7 (by omega)
        · skip
          refine go_aload_n (y := mL_isAs) (pc := 10) dL_isAs_10 rfl rfl ?_
          refine go_aload_n (y := mL_isAs) (pc := 11) dL_isAs_11 rfl rfl ?_
          refine go_iload_n (y := mL_isAs) (pc := 12) dL_isAs_12 rfl rfl ?_
          refine go_callS3 (y := mL_isAs) (pc := 13) (y' := mL_isMember) (kc2 := 0) (ks2 := 0) dL_isAs_13 ml_L_161 ok_L_isMember ⟨rfl, rfl, rfl⟩ (by decide) (Nat.le_of_ble_eq_true rfl) rfl (l_isMember hS hC hR (m := _) (by omega) ?_)
          refine go_if_ne (y := mL_isAs) (pc := 16) (tgt := 21) dL_isAs_16 (by decide) (by omega) (fun h16 => ?_) (fun h16 => ?_)
          · skip
            refine go_iinc (y := mL_isAs) (pc := 21) dL_isAs_21 rfl (by decide) ?_
            refine go_goto (y := mL_isAs) (pc := 24) (tgt := 2) dL_isAs_24 (by decide) ?_
            exact ih' (by omega) (k + 1) _ (by omega)
          · skip
            exact absurd h16 (by decide)
  refine go_iconst (y := mL_isAs) (pc := 0) dL_isAs_0 ?_
  refine go_istore_n (y := mL_isAs) (pc := 1) dL_isAs_1 rfl (by decide) ?_
  exact loop1 (su μ 0 7).toNat 0 _ (by omega)
