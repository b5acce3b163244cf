set_option maxRecDepth 100000 in
set_option maxHeartbeats 1000000 in
theorem lw_0 {xt : Nat × (Nat → Int)} {M : gj_M} {i : Int} (hx : ∀ j, gj_in (xt.2 j)) (hN : xt.1 ≤ 2560) (hi : 0 ≤ i ∧ i + 5 ≤ (xt.1 : Int)) (hR : R_ M M) {Q : Option gj_V → List gj_H → gj_M → Prop} (kk : ∀ M2 : gj_M, R_ M2 M2 → gj_G xt YL_law gS 88 14392 1017 [some (gR 1001), some (gR 0), some (gR 69), some (gI i)] [] M2 Q) : gj_G xt YL_law gS 88 14392 160 [some (gR 1001), some (gR 0), some (gR 69), some (gI i)] [] M Q := by
  have hR1 := hR.k (ck_write M (xt.2 (i + 1).toNat))
  have hq := hR1.write (xt.2 (i + 1).toNat)
  refine gj_aload_n 161 dL_law_160 rfl rfl ?_
  refine gj_aload_n 162 dL_law_161 rfl rfl ?_
  refine gj_iload_n 163 dL_law_162 rfl rfl ?_
  refine gj_iconst 164 dL_law_163 rfl ?_
  refine gj_iadd 165 dL_law_164 rfl ?_
  refine gj_xld 166 dL_law_165 rfl (by omega) (by omega) ?_
  refine gj_fV 169 dL_law_166 rfl ok_7_write ml_L_13 iv_7_write (As := [gI _]) rfl rfl rfl rfl (Nat.le_of_ble_eq_true rfl) ⟨Nat.le_of_ble_eq_true rfl, Nat.le_of_ble_eq_true rfl⟩ (Nat.le_of_ble_eq_true rfl) ⟨rfl, rfl⟩ ⟨Nat.le_of_ble_eq_true rfl, Nat.le_of_ble_eq_true rfl⟩ (s7_write (hx _) hR.t) ?_
  refine gj_aload_n 170 dL_law_169 rfl rfl ?_
  refine gj_aload_n 171 dL_law_170 rfl rfl ?_
  refine gj_iload_n 172 dL_law_171 rfl rfl ?_
  refine gj_iconst 173 dL_law_172 rfl ?_
  refine gj_iadd 174 dL_law_173 rfl ?_
  refine gj_xld 175 dL_law_174 rfl (by omega) (by omega) ?_
  refine gj_fV 178 dL_law_175 rfl ok_8_write ml_L_17 iv_8_write (As := [gI _]) rfl rfl rfl rfl (Nat.le_of_ble_eq_true rfl) ⟨Nat.le_of_ble_eq_true rfl, Nat.le_of_ble_eq_true rfl⟩ (Nat.le_of_ble_eq_true rfl) ⟨rfl, rfl⟩ ⟨Nat.le_of_ble_eq_true rfl, Nat.le_of_ble_eq_true rfl⟩ (s8_write hR1.1 (hx _) hR1.tk) ?_
  refine gj_eqT 1017 181 dL_law_178 (by decide) rfl hq.1 ?_
  exact kk _ (hq.2.c (rk_write _ _))

set_option maxRecDepth 100000 in
set_option maxHeartbeats 1000000 in
theorem lw_1 {xt : Nat × (Nat → Int)} {M : gj_M} {i : Int} (hx : ∀ j, gj_in (xt.2 j)) (hN : xt.1 ≤ 2560) (hi : 0 ≤ i ∧ i + 5 ≤ (xt.1 : Int)) (hR : R_ M M) {Q : Option gj_V → List gj_H → gj_M → Prop} (kk : ∀ M2 : gj_M, R_ M2 M2 → gj_G xt YL_law gS 88 14392 1017 [some (gR 1001), some (gR 0), some (gR 69), some (gI i)] [] M2 Q) : gj_G xt YL_law gS 88 14392 183 [some (gR 1001), some (gR 0), some (gR 69), some (gI i)] [] M Q := by
  have hR1 := hR.k (ck_u (h := 0) (i := 1) (v := 0) (by decide))
  have hq := hR1.wipe
  refine gj_aload_n 184 dL_law_183 rfl rfl ?_
  refine gj_fV 187 dL_law_184 rfl ok_7_wipe ml_L_18 iv_7_wipe (As := []) rfl rfl rfl rfl (Nat.le_of_ble_eq_true rfl) ⟨Nat.le_of_ble_eq_true rfl, Nat.le_of_ble_eq_true rfl⟩ (Nat.le_of_ble_eq_true rfl) ⟨rfl, rfl⟩ ⟨Nat.le_of_ble_eq_true rfl, Nat.le_of_ble_eq_true rfl⟩ (s7_wipe) ?_
  refine gj_aload_n 188 dL_law_187 rfl rfl ?_
  refine gj_fV 191 dL_law_188 rfl ok_8_wipe ml_L_22 iv_8_wipe (As := []) rfl rfl rfl rfl (Nat.le_of_ble_eq_true rfl) ⟨Nat.le_of_ble_eq_true rfl, Nat.le_of_ble_eq_true rfl⟩ (Nat.le_of_ble_eq_true rfl) ⟨rfl, rfl⟩ ⟨Nat.le_of_ble_eq_true rfl, Nat.le_of_ble_eq_true rfl⟩ (s8_wipe hR1.1) ?_
  refine gj_eqT 1017 194 dL_law_191 (by decide) rfl hq.1 ?_
  exact kk _ (hq.2.c (rk_u (by decide)))

set_option maxRecDepth 100000 in
set_option maxHeartbeats 1000000 in
theorem lw_2 {xt : Nat × (Nat → Int)} {M : gj_M} {i : Int} (hx : ∀ j, gj_in (xt.2 j)) (hN : xt.1 ≤ 2560) (hi : 0 ≤ i ∧ i + 5 ≤ (xt.1 : Int)) (hR : R_ M M) {Q : Option gj_V → List gj_H → gj_M → Prop} (kk : ∀ M2 : gj_M, R_ M2 M2 → gj_G xt YL_law gS 88 14392 1017 [some (gR 1001), some (gR 0), some (gR 69), some (gI i)] [] M2 Q) : gj_G xt YL_law gS 88 14392 196 [some (gR 1001), some (gR 0), some (gR 69), some (gI i)] [] M Q := by
  have hR1 := hR.k (ck_fault M)
  refine gj_aload_n 197 dL_law_196 rfl rfl ?_
  refine gj_fV 200 dL_law_197 rfl ok_7_fault ml_L_23 iv_7_fault (As := []) rfl rfl rfl rfl (Nat.le_of_ble_eq_true rfl) ⟨Nat.le_of_ble_eq_true rfl, Nat.le_of_ble_eq_true rfl⟩ (Nat.le_of_ble_eq_true rfl) ⟨rfl, rfl⟩ ⟨Nat.le_of_ble_eq_true rfl, Nat.le_of_ble_eq_true rfl⟩ (s7_fault hR.t hR.tc hR.h5 hR.h6) ?_
  refine gj_aload_n 201 dL_law_200 rfl rfl ?_
  refine gj_callV 204 dL_law_201 rfl ok_8_fault ml_L_26 iv_8_fault (As := []) rfl rfl rfl rfl (Nat.le_of_ble_eq_true rfl) ⟨Nat.le_of_ble_eq_true rfl, Nat.le_of_ble_eq_true rfl⟩ (Nat.le_of_ble_eq_true rfl) ⟨rfl, rfl⟩ ⟨Nat.le_of_ble_eq_true rfl, Nat.le_of_ble_eq_true rfl⟩ (s8_fault hR1.1 (C := M) (t := M 1) (N := (M 0 1).toNat) (v := x_fault M) (by have := hR.t; omega) hR1.tN hR1.tt hR.tcN hR.h5 hR.h6 rfl) (fun r_201 M_201 q_201 => ?_)
  obtain ⟨rfl, hF⟩ := q_201
  show gj_G _ _ gS _ _ 204 _ (gI (x_fault M) :: gI (x_fault M) :: []) M_201 _
  refine gj_eqT 1017 207 dL_law_204 (by decide) rfl rfl ?_
  exact kk _ ((hR1.fault hF).c (rk_F hF))

set_option maxRecDepth 100000 in
set_option maxHeartbeats 1000000 in
theorem lw_3 {xt : Nat × (Nat → Int)} {M : gj_M} {i : Int} (hx : ∀ j, gj_in (xt.2 j)) (hN : xt.1 ≤ 2560) (hi : 0 ≤ i ∧ i + 5 ≤ (xt.1 : Int)) (hR : R_ M M) {Q : Option gj_V → List gj_H → gj_M → Prop} (kk : ∀ M2 : gj_M, R_ M2 M2 → gj_G xt YL_law gS 88 14392 1017 [some (gR 1001), some (gR 0), some (gR 69), some (gI i)] [] M2 Q) : gj_G xt YL_law gS 88 14392 209 [some (gR 1001), some (gR 0), some (gR 69), some (gI i)] [] M Q := by
  have hR1 := hR.k (ck_reel M)
  have hfn := r_fn_B (t := M 1) hR.h5 hR.h6 (M 0 1).toNat 0 (r_in_J hR.2.2.2.1.2.2.1)
  refine gj_aload_n 210 dL_law_209 rfl rfl ?_
  refine gj_fV 213 dL_law_210 rfl ok_7_reel ml_L_27 iv_7_reel (As := []) rfl rfl rfl rfl (Nat.le_of_ble_eq_true rfl) ⟨Nat.le_of_ble_eq_true rfl, Nat.le_of_ble_eq_true rfl⟩ (Nat.le_of_ble_eq_true rfl) ⟨rfl, rfl⟩ ⟨Nat.le_of_ble_eq_true rfl, Nat.le_of_ble_eq_true rfl⟩ (s7_reel hR.t hR.tc hR.h5 hR.h6) ?_
  refine gj_aload_n 214 dL_law_213 rfl rfl ?_
  refine gj_callV 217 dL_law_214 rfl ok_8_reel ml_L_30 iv_8_reel (As := []) rfl rfl rfl rfl (Nat.le_of_ble_eq_true rfl) ⟨Nat.le_of_ble_eq_true rfl, Nat.le_of_ble_eq_true rfl⟩ (Nat.le_of_ble_eq_true rfl) ⟨rfl, rfl⟩ ⟨Nat.le_of_ble_eq_true rfl, Nat.le_of_ble_eq_true rfl⟩ (s8_reel hR1.1 (C := M) (t := M 1) (N := (M 0 1).toNat) (v := x_fault M) (by have := hR.t; omega) hR1.tN hR1.tt hR.tcN hR.h5 hR.h6 rfl) (fun r_214 M_214 q_214 => ?_)
  rcases q_214 with ⟨hv, rfl, hF⟩ | ⟨hv, M3, hB, h9, rfl, rfl⟩
  · have e : m_reel M = m_fault M := if_neg hv
    have ex : x_reel M = -3 := if_neg hv
    refine gj_eqT 1017 220 dL_law_217 (by decide) rfl ex ?_
    exact kk _ ((hR1.fault hF).c (by rw [← e]; exact rk_F hF))
  · have hj := hfn.2 hv
    rw [Nat.zero_add] at hj
    have eA : r_ru M (M 1) (M 0 1).toNat = m_fault M := by unfold m_fault; rw [hj.1]
    have e : m_reel M = w_rl (m_fault M) := if_pos hv
    have ex : x_reel M = M3 69 9 := by rw [h9, eA]; exact if_pos hv
    have hq := hR1.told eA hB h9 hj.2
    rw [eA, ← e] at hq
    refine gj_eqT 1017 220 dL_law_217 (by decide) rfl ex ?_
    exact kk _ (hq.c ((rk_F hB.1).tr (rk_reel M3)))
  done

set_option maxRecDepth 100000 in
set_option maxHeartbeats 1000000 in
theorem lw_4 {xt : Nat × (Nat → Int)} {M : gj_M} {i : Int} (hx : ∀ j, gj_in (xt.2 j)) (hN : xt.1 ≤ 2560) (hi : 0 ≤ i ∧ i + 5 ≤ (xt.1 : Int)) (hR : R_ M M) {Q : Option gj_V → List gj_H → gj_M → Prop} (kk : ∀ M2 : gj_M, R_ M2 M2 → gj_G xt YL_law gS 88 14392 1017 [some (gR 1001), some (gR 0), some (gR 69), some (gI i)] [] M2 Q) : gj_G xt YL_law gS 88 14392 222 [some (gR 1001), some (gR 0), some (gR 69), some (gI i)] [] M Q := by
  refine gj_aload_n 223 dL_law_222 rfl rfl ?_
  refine gj_aload_n 224 dL_law_223 rfl rfl ?_
  refine gj_iload_n 225 dL_law_224 rfl rfl ?_
  refine gj_iconst 226 dL_law_225 rfl ?_
  refine gj_iadd 227 dL_law_226 rfl ?_
  refine gj_xld 228 dL_law_227 rfl (by omega) (by omega) ?_
  refine gj_aload_n 229 dL_law_228 rfl rfl ?_
  refine gj_iload_n 230 dL_law_229 rfl rfl ?_
  refine gj_iconst 231 dL_law_230 rfl ?_
  refine gj_iadd 232 dL_law_231 rfl ?_
  refine gj_xld 233 dL_law_232 rfl (by omega) (by omega) ?_
  refine gj_callV 236 dL_law_233 rfl ok_7_drawing ml_L_31 iv_7_drawing (As := [gI _, gI _]) rfl rfl rfl rfl (Nat.le_of_ble_eq_true rfl) ⟨Nat.le_of_ble_eq_true rfl, Nat.le_of_ble_eq_true rfl⟩ (Nat.le_of_ble_eq_true rfl) ⟨rfl, rfl⟩ ⟨Nat.le_of_ble_eq_true rfl, Nat.le_of_ble_eq_true rfl⟩ (s7_drawing hR.I (hx _) (hx _)) (fun r_233 M_233 q_233 => ?_)
  obtain ⟨rfl, hE⟩ := q_233
  have hR1 := hR.k (hE.cK (by decide))
  have hq := hR1.drawing (xt.2 (i + 1).toNat) (xt.2 (i + 2).toNat)
  show gj_G _ _ gS _ _ 236 _ (gI _ :: []) M_233 _
  refine gj_aload_n 237 dL_law_236 rfl rfl ?_
  refine gj_aload_n 238 dL_law_237 rfl rfl ?_
  refine gj_iload_n 239 dL_law_238 rfl rfl ?_
  refine gj_iconst 240 dL_law_239 rfl ?_
  refine gj_iadd 241 dL_law_240 rfl ?_
  refine gj_xld 242 dL_law_241 rfl (by omega) (by omega) ?_
  refine gj_aload_n 243 dL_law_242 rfl rfl ?_
  refine gj_iload_n 244 dL_law_243 rfl rfl ?_
  refine gj_iconst 245 dL_law_244 rfl ?_
  refine gj_iadd 246 dL_law_245 rfl ?_
  refine gj_xld 247 dL_law_246 rfl (by omega) (by omega) ?_
  refine gj_fV 250 dL_law_247 rfl ok_8_drawing ml_L_35 iv_8_drawing (As := [gI _, gI _]) rfl rfl rfl rfl (Nat.le_of_ble_eq_true rfl) ⟨Nat.le_of_ble_eq_true rfl, Nat.le_of_ble_eq_true rfl⟩ (Nat.le_of_ble_eq_true rfl) ⟨rfl, rfl⟩ ⟨Nat.le_of_ble_eq_true rfl, Nat.le_of_ble_eq_true rfl⟩ (s8_drawing hR1.1 hR1.yI (hx _) (hx _)) ?_
  refine gj_eqT 1017 253 dL_law_250 (by decide) rfl hq ?_
  exact kk _ (hR1.cE hE (by decide))

set_option maxRecDepth 100000 in
set_option maxHeartbeats 1000000 in
theorem lw_5 {xt : Nat × (Nat → Int)} {M : gj_M} {i : Int} (hx : ∀ j, gj_in (xt.2 j)) (hN : xt.1 ≤ 2560) (hi : 0 ≤ i ∧ i + 5 ≤ (xt.1 : Int)) (hR : R_ M M) {Q : Option gj_V → List gj_H → gj_M → Prop} (kk : ∀ M2 : gj_M, R_ M2 M2 → gj_G xt YL_law gS 88 14392 1017 [some (gR 1001), some (gR 0), some (gR 69), some (gI i)] [] M2 Q) : gj_G xt YL_law gS 88 14392 255 [some (gR 1001), some (gR 0), some (gR 69), some (gI i)] [] M Q := by
  refine gj_aload_n 256 dL_law_255 rfl rfl ?_
  refine gj_aload_n 257 dL_law_256 rfl rfl ?_
  refine gj_iload_n 258 dL_law_257 rfl rfl ?_
  refine gj_iconst 259 dL_law_258 rfl ?_
  refine gj_iadd 260 dL_law_259 rfl ?_
  refine gj_xld 261 dL_law_260 rfl (by omega) (by omega) ?_
  refine gj_aload_n 262 dL_law_261 rfl rfl ?_
  refine gj_iload_n 263 dL_law_262 rfl rfl ?_
  refine gj_iconst 264 dL_law_263 rfl ?_
  refine gj_iadd 265 dL_law_264 rfl ?_
  refine gj_xld 266 dL_law_265 rfl (by omega) (by omega) ?_
  refine gj_callV 269 dL_law_266 rfl ok_7_level ml_L_36 iv_7_level (As := [gI _, gI _]) rfl rfl rfl rfl (Nat.le_of_ble_eq_true rfl) ⟨Nat.le_of_ble_eq_true rfl, Nat.le_of_ble_eq_true rfl⟩ (Nat.le_of_ble_eq_true rfl) ⟨rfl, rfl⟩ ⟨Nat.le_of_ble_eq_true rfl, Nat.le_of_ble_eq_true rfl⟩ (s7_level hR.I (hx _) (hx _) (fun a b => hR.2.2.2.2.2.2.2.1 _ a b)) (fun r_266 M_266 q_266 => ?_)
  obtain ⟨v1, rfl, hv1, hE, h31⟩ := q_266
  have hR1 := hR.k (hE.cK (by decide))
  show gj_G _ _ gS _ _ 269 _ (gI v1 :: []) M_266 _
  refine gj_aload_n 270 dL_law_269 rfl rfl ?_
  refine gj_aload_n 271 dL_law_270 rfl rfl ?_
  refine gj_iload_n 272 dL_law_271 rfl rfl ?_
  refine gj_iconst 273 dL_law_272 rfl ?_
  refine gj_iadd 274 dL_law_273 rfl ?_
  refine gj_xld 275 dL_law_274 rfl (by omega) (by omega) ?_
  refine gj_aload_n 276 dL_law_275 rfl rfl ?_
  refine gj_iload_n 277 dL_law_276 rfl rfl ?_
  refine gj_iconst 278 dL_law_277 rfl ?_
  refine gj_iadd 279 dL_law_278 rfl ?_
  refine gj_xld 280 dL_law_279 rfl (by omega) (by omega) ?_
  refine gj_callV 283 dL_law_280 rfl ok_8_level ml_L_39 iv_8_level (As := [gI _, gI _]) rfl rfl rfl rfl (Nat.le_of_ble_eq_true rfl) ⟨Nat.le_of_ble_eq_true rfl, Nat.le_of_ble_eq_true rfl⟩ (Nat.le_of_ble_eq_true rfl) ⟨rfl, rfl⟩ ⟨Nat.le_of_ble_eq_true rfl, Nat.le_of_ble_eq_true rfl⟩ (s8_level hR1.1 hR1.yI (hx _) (hx _)) (fun r_280 M_280 q_280 => ?_)
  obtain ⟨v2, rfl, hv2, hE2⟩ := q_280
  have hq := hR1.level hv1 hE h31 hv2 hE2
  show gj_G _ _ gS _ _ 283 _ (gI v2 :: gI v1 :: []) M_280 _
  refine gj_eqT 1017 286 dL_law_283 (by decide) rfl hq.1 ?_
  exact kk _ (hq.2.c (hE2.rK (by decide)))

set_option maxRecDepth 100000 in
set_option maxHeartbeats 1000000 in
theorem lw_6 {xt : Nat × (Nat → Int)} {M : gj_M} {i : Int} (hx : ∀ j, gj_in (xt.2 j)) (hN : xt.1 ≤ 2560) (hi : 0 ≤ i ∧ i + 5 ≤ (xt.1 : Int)) (hR : R_ M M) {Q : Option gj_V → List gj_H → gj_M → Prop} (kk : ∀ M2 : gj_M, R_ M2 M2 → gj_G xt YL_law gS 88 14392 1017 [some (gR 1001), some (gR 0), some (gR 69), some (gI i)] [] M2 Q) : gj_G xt YL_law gS 88 14392 288 [some (gR 1001), some (gR 0), some (gR 69), some (gI i)] [] M Q := by
  have hq := hR.where_ (xt.2 (i + 1).toNat) (xt.2 (i + 2).toNat)
  refine gj_aload_n 289 dL_law_288 rfl rfl ?_
  refine gj_aload_n 290 dL_law_289 rfl rfl ?_
  refine gj_iload_n 291 dL_law_290 rfl rfl ?_
  refine gj_iconst 292 dL_law_291 rfl ?_
  refine gj_iadd 293 dL_law_292 rfl ?_
  refine gj_xld 294 dL_law_293 rfl (by omega) (by omega) ?_
  refine gj_aload_n 295 dL_law_294 rfl rfl ?_
  refine gj_iload_n 296 dL_law_295 rfl rfl ?_
  refine gj_iconst 297 dL_law_296 rfl ?_
  refine gj_iadd 298 dL_law_297 rfl ?_
  refine gj_xld 299 dL_law_298 rfl (by omega) (by omega) ?_
  refine gj_fV 302 dL_law_299 rfl ok_7_where ml_L_40 iv_7_where (As := [gI _, gI _]) rfl rfl rfl rfl (Nat.le_of_ble_eq_true rfl) ⟨Nat.le_of_ble_eq_true rfl, Nat.le_of_ble_eq_true rfl⟩ (Nat.le_of_ble_eq_true rfl) ⟨rfl, rfl⟩ ⟨Nat.le_of_ble_eq_true rfl, Nat.le_of_ble_eq_true rfl⟩ (s7_where hR.I (hx _) (hx _)) ?_
  refine gj_aload_n 303 dL_law_302 rfl rfl ?_
  refine gj_aload_n 304 dL_law_303 rfl rfl ?_
  refine gj_iload_n 305 dL_law_304 rfl rfl ?_
  refine gj_iconst 306 dL_law_305 rfl ?_
  refine gj_iadd 307 dL_law_306 rfl ?_
  refine gj_xld 308 dL_law_307 rfl (by omega) (by omega) ?_
  refine gj_aload_n 309 dL_law_308 rfl rfl ?_
  refine gj_iload_n 310 dL_law_309 rfl rfl ?_
  refine gj_iconst 311 dL_law_310 rfl ?_
  refine gj_iadd 312 dL_law_311 rfl ?_
  refine gj_xld 313 dL_law_312 rfl (by omega) (by omega) ?_
  refine gj_fV 316 dL_law_313 rfl ok_8_where ml_L_43 iv_8_where (As := [gI _, gI _]) rfl rfl rfl rfl (Nat.le_of_ble_eq_true rfl) ⟨Nat.le_of_ble_eq_true rfl, Nat.le_of_ble_eq_true rfl⟩ (Nat.le_of_ble_eq_true rfl) ⟨rfl, rfl⟩ ⟨Nat.le_of_ble_eq_true rfl, Nat.le_of_ble_eq_true rfl⟩ (s8_where hR.1 hR.yI (hx _) (hx _)) ?_
  refine gj_eqT 1017 319 dL_law_316 (by decide) rfl hq ?_
  exact kk _ hR

set_option maxRecDepth 100000 in
set_option maxHeartbeats 1000000 in
theorem lw_7 {xt : Nat × (Nat → Int)} {M : gj_M} {i : Int} (hx : ∀ j, gj_in (xt.2 j)) (hN : xt.1 ≤ 2560) (hi : 0 ≤ i ∧ i + 5 ≤ (xt.1 : Int)) (hR : R_ M M) {Q : Option gj_V → List gj_H → gj_M → Prop} (kk : ∀ M2 : gj_M, R_ M2 M2 → gj_G xt YL_law gS 88 14392 1017 [some (gR 1001), some (gR 0), some (gR 69), some (gI i)] [] M2 Q) : gj_G xt YL_law gS 88 14392 321 [some (gR 1001), some (gR 0), some (gR 69), some (gI i)] [] M Q := by
  have hR1 := hR.k (ck_redraw M (xt.2 (i + 1).toNat) (xt.2 (i + 2).toNat) (xt.2 (i + 3).toNat))
  have hq := hR1.redraw (xt.2 (i + 1).toNat) (xt.2 (i + 2).toNat) (xt.2 (i + 3).toNat)
  refine gj_aload_n 322 dL_law_321 rfl rfl ?_
  refine gj_aload_n 323 dL_law_322 rfl rfl ?_
  refine gj_iload_n 324 dL_law_323 rfl rfl ?_
  refine gj_iconst 325 dL_law_324 rfl ?_
  refine gj_iadd 326 dL_law_325 rfl ?_
  refine gj_xld 327 dL_law_326 rfl (by omega) (by omega) ?_
  refine gj_aload_n 328 dL_law_327 rfl rfl ?_
  refine gj_iload_n 329 dL_law_328 rfl rfl ?_
  refine gj_iconst 330 dL_law_329 rfl ?_
  refine gj_iadd 331 dL_law_330 rfl ?_
  refine gj_xld 332 dL_law_331 rfl (by omega) (by omega) ?_
  refine gj_aload_n 333 dL_law_332 rfl rfl ?_
  refine gj_iload_n 334 dL_law_333 rfl rfl ?_
  refine gj_iconst 335 dL_law_334 rfl ?_
  refine gj_iadd 336 dL_law_335 rfl ?_
  refine gj_xld 337 dL_law_336 rfl (by omega) (by omega) ?_
  refine gj_fV 340 dL_law_337 rfl ok_7_redraw ml_L_44 iv_7_redraw (As := [gI _, gI _, gI _]) rfl rfl rfl rfl (Nat.le_of_ble_eq_true rfl) ⟨Nat.le_of_ble_eq_true rfl, Nat.le_of_ble_eq_true rfl⟩ (Nat.le_of_ble_eq_true rfl) ⟨rfl, rfl⟩ ⟨Nat.le_of_ble_eq_true rfl, Nat.le_of_ble_eq_true rfl⟩ (s7_redraw hR.I hR.n14.1 (hx _) (hx _) (hx _)) ?_
  refine gj_aload_n 341 dL_law_340 rfl rfl ?_
  refine gj_aload_n 342 dL_law_341 rfl rfl ?_
  refine gj_iload_n 343 dL_law_342 rfl rfl ?_
  refine gj_iconst 344 dL_law_343 rfl ?_
  refine gj_iadd 345 dL_law_344 rfl ?_
  refine gj_xld 346 dL_law_345 rfl (by omega) (by omega) ?_
  refine gj_aload_n 347 dL_law_346 rfl rfl ?_
  refine gj_iload_n 348 dL_law_347 rfl rfl ?_
  refine gj_iconst 349 dL_law_348 rfl ?_
  refine gj_iadd 350 dL_law_349 rfl ?_
  refine gj_xld 351 dL_law_350 rfl (by omega) (by omega) ?_
  refine gj_aload_n 352 dL_law_351 rfl rfl ?_
  refine gj_iload_n 353 dL_law_352 rfl rfl ?_
  refine gj_iconst 354 dL_law_353 rfl ?_
  refine gj_iadd 355 dL_law_354 rfl ?_
  refine gj_xld 356 dL_law_355 rfl (by omega) (by omega) ?_
  refine gj_fV 359 dL_law_356 rfl ok_8_redraw ml_L_48 iv_8_redraw (As := [gI _, gI _, gI _]) rfl rfl rfl rfl (Nat.le_of_ble_eq_true rfl) ⟨Nat.le_of_ble_eq_true rfl, Nat.le_of_ble_eq_true rfl⟩ (Nat.le_of_ble_eq_true rfl) ⟨rfl, rfl⟩ ⟨Nat.le_of_ble_eq_true rfl, Nat.le_of_ble_eq_true rfl⟩ (s8_redraw hR1.1 hR1.yI hR1.n14.2 (hx _) (hx _) (hx _)) ?_
  refine gj_eqT 1017 362 dL_law_359 (by decide) rfl hq.1 ?_
  exact kk _ (hq.2.c (rk_redraw _ _ _ _))

set_option maxRecDepth 100000 in
set_option maxHeartbeats 1000000 in
theorem lw_8 {xt : Nat × (Nat → Int)} {M : gj_M} {i : Int} (hx : ∀ j, gj_in (xt.2 j)) (hN : xt.1 ≤ 2560) (hi : 0 ≤ i ∧ i + 5 ≤ (xt.1 : Int)) (hR : R_ M M) {Q : Option gj_V → List gj_H → gj_M → Prop} (kk : ∀ M2 : gj_M, R_ M2 M2 → gj_G xt YL_law gS 88 14392 1017 [some (gR 1001), some (gR 0), some (gR 69), some (gI i)] [] M2 Q) : gj_G xt YL_law gS 88 14392 364 [some (gR 1001), some (gR 0), some (gR 69), some (gI i)] [] M Q := by
  have hR1 := hR.k (ck_delay M (xt.2 (i + 1).toNat) (xt.2 (i + 2).toNat))
  have hq := hR1.delay (xt.2 (i + 1).toNat) (xt.2 (i + 2).toNat)
  refine gj_aload_n 365 dL_law_364 rfl rfl ?_
  refine gj_aload_n 366 dL_law_365 rfl rfl ?_
  refine gj_iload_n 367 dL_law_366 rfl rfl ?_
  refine gj_iconst 368 dL_law_367 rfl ?_
  refine gj_iadd 369 dL_law_368 rfl ?_
  refine gj_xld 370 dL_law_369 rfl (by omega) (by omega) ?_
  refine gj_aload_n 371 dL_law_370 rfl rfl ?_
  refine gj_iload_n 372 dL_law_371 rfl rfl ?_
  refine gj_iconst 373 dL_law_372 rfl ?_
  refine gj_iadd 374 dL_law_373 rfl ?_
  refine gj_xld 375 dL_law_374 rfl (by omega) (by omega) ?_
  refine gj_fV 378 dL_law_375 rfl ok_7_delay ml_L_49 iv_7_delay (As := [gI _, gI _]) rfl rfl rfl rfl (Nat.le_of_ble_eq_true rfl) ⟨Nat.le_of_ble_eq_true rfl, Nat.le_of_ble_eq_true rfl⟩ (Nat.le_of_ble_eq_true rfl) ⟨rfl, rfl⟩ ⟨Nat.le_of_ble_eq_true rfl, Nat.le_of_ble_eq_true rfl⟩ (s7_delay hR.I hR.n14.1 (hx _) (hx _)) ?_
  refine gj_aload_n 379 dL_law_378 rfl rfl ?_
  refine gj_aload_n 380 dL_law_379 rfl rfl ?_
  refine gj_iload_n 381 dL_law_380 rfl rfl ?_
  refine gj_iconst 382 dL_law_381 rfl ?_
  refine gj_iadd 383 dL_law_382 rfl ?_
  refine gj_xld 384 dL_law_383 rfl (by omega) (by omega) ?_
  refine gj_aload_n 385 dL_law_384 rfl rfl ?_
  refine gj_iload_n 386 dL_law_385 rfl rfl ?_
  refine gj_iconst 387 dL_law_386 rfl ?_
  refine gj_iadd 388 dL_law_387 rfl ?_
  refine gj_xld 389 dL_law_388 rfl (by omega) (by omega) ?_
  refine gj_fV 392 dL_law_389 rfl ok_8_delay ml_L_52 iv_8_delay (As := [gI _, gI _]) rfl rfl rfl rfl (Nat.le_of_ble_eq_true rfl) ⟨Nat.le_of_ble_eq_true rfl, Nat.le_of_ble_eq_true rfl⟩ (Nat.le_of_ble_eq_true rfl) ⟨rfl, rfl⟩ ⟨Nat.le_of_ble_eq_true rfl, Nat.le_of_ble_eq_true rfl⟩ (s8_delay hR1.1 hR1.yI hR1.n14.2 (hx _) (hx _)) ?_
  refine gj_eqT 1017 395 dL_law_392 (by decide) rfl hq.1 ?_
  exact kk _ (hq.2.c (rk_delay _ _ _))

set_option maxRecDepth 100000 in
set_option maxHeartbeats 1000000 in
theorem lw_9 {xt : Nat × (Nat → Int)} {M : gj_M} {i : Int} (hx : ∀ j, gj_in (xt.2 j)) (hN : xt.1 ≤ 2560) (hi : 0 ≤ i ∧ i + 5 ≤ (xt.1 : Int)) (hR : R_ M M) {Q : Option gj_V → List gj_H → gj_M → Prop} (kk : ∀ M2 : gj_M, R_ M2 M2 → gj_G xt YL_law gS 88 14392 1017 [some (gR 1001), some (gR 0), some (gR 69), some (gI i)] [] M2 Q) : gj_G xt YL_law gS 88 14392 397 [some (gR 1001), some (gR 0), some (gR 69), some (gI i)] [] M Q := by
  have hR1 := hR.k (ck_pan M (xt.2 (i + 1).toNat) (xt.2 (i + 2).toNat) (xt.2 (i + 3).toNat) (xt.2 (i + 4).toNat))
  have hq := hR1.pan (xt.2 (i + 1).toNat) (xt.2 (i + 2).toNat) (xt.2 (i + 3).toNat) (xt.2 (i + 4).toNat)
  refine gj_aload_n 398 dL_law_397 rfl rfl ?_
  refine gj_aload_n 399 dL_law_398 rfl rfl ?_
  refine gj_iload_n 400 dL_law_399 rfl rfl ?_
  refine gj_iconst 401 dL_law_400 rfl ?_
  refine gj_iadd 402 dL_law_401 rfl ?_
  refine gj_xld 403 dL_law_402 rfl (by omega) (by omega) ?_
  refine gj_aload_n 404 dL_law_403 rfl rfl ?_
  refine gj_iload_n 405 dL_law_404 rfl rfl ?_
  refine gj_iconst 406 dL_law_405 rfl ?_
  refine gj_iadd 407 dL_law_406 rfl ?_
  refine gj_xld 408 dL_law_407 rfl (by omega) (by omega) ?_
  refine gj_aload_n 409 dL_law_408 rfl rfl ?_
  refine gj_iload_n 410 dL_law_409 rfl rfl ?_
  refine gj_iconst 411 dL_law_410 rfl ?_
  refine gj_iadd 412 dL_law_411 rfl ?_
  refine gj_xld 413 dL_law_412 rfl (by omega) (by omega) ?_
  refine gj_aload_n 414 dL_law_413 rfl rfl ?_
  refine gj_iload_n 415 dL_law_414 rfl rfl ?_
  refine gj_iconst 416 dL_law_415 rfl ?_
  refine gj_iadd 417 dL_law_416 rfl ?_
  refine gj_xld 418 dL_law_417 rfl (by omega) (by omega) ?_
  refine gj_fV 421 dL_law_418 rfl ok_7_pan ml_L_53 iv_7_pan (As := [gI _, gI _, gI _, gI _]) rfl rfl rfl rfl (Nat.le_of_ble_eq_true rfl) ⟨Nat.le_of_ble_eq_true rfl, Nat.le_of_ble_eq_true rfl⟩ (Nat.le_of_ble_eq_true rfl) ⟨rfl, rfl⟩ ⟨Nat.le_of_ble_eq_true rfl, Nat.le_of_ble_eq_true rfl⟩ (s7_pan hR.I hR.n14.1 (hx _) (hx _) (hx _) (hx _)) ?_
  refine gj_aload_n 422 dL_law_421 rfl rfl ?_
  refine gj_aload_n 423 dL_law_422 rfl rfl ?_
  refine gj_iload_n 424 dL_law_423 rfl rfl ?_
  refine gj_iconst 425 dL_law_424 rfl ?_
  refine gj_iadd 426 dL_law_425 rfl ?_
  refine gj_xld 427 dL_law_426 rfl (by omega) (by omega) ?_
  refine gj_aload_n 428 dL_law_427 rfl rfl ?_
  refine gj_iload_n 429 dL_law_428 rfl rfl ?_
  refine gj_iconst 430 dL_law_429 rfl ?_
  refine gj_iadd 431 dL_law_430 rfl ?_
  refine gj_xld 432 dL_law_431 rfl (by omega) (by omega) ?_
  refine gj_aload_n 433 dL_law_432 rfl rfl ?_
  refine gj_iload_n 434 dL_law_433 rfl rfl ?_
  refine gj_iconst 435 dL_law_434 rfl ?_
  refine gj_iadd 436 dL_law_435 rfl ?_
  refine gj_xld 437 dL_law_436 rfl (by omega) (by omega) ?_
  refine gj_aload_n 438 dL_law_437 rfl rfl ?_
  refine gj_iload_n 439 dL_law_438 rfl rfl ?_
  refine gj_iconst 440 dL_law_439 rfl ?_
  refine gj_iadd 441 dL_law_440 rfl ?_
  refine gj_xld 442 dL_law_441 rfl (by omega) (by omega) ?_
  refine gj_fV 445 dL_law_442 rfl ok_8_pan ml_L_57 iv_8_pan (As := [gI _, gI _, gI _, gI _]) rfl rfl rfl rfl (Nat.le_of_ble_eq_true rfl) ⟨Nat.le_of_ble_eq_true rfl, Nat.le_of_ble_eq_true rfl⟩ (Nat.le_of_ble_eq_true rfl) ⟨rfl, rfl⟩ ⟨Nat.le_of_ble_eq_true rfl, Nat.le_of_ble_eq_true rfl⟩ (s8_pan hR1.1 hR1.yI hR1.n14.2 (hx _) (hx _) (hx _) (hx _)) ?_
  refine gj_eqT 1017 448 dL_law_445 (by decide) rfl hq.1 ?_
  exact kk _ (hq.2.c (rk_pan _ _ _ _ _))

set_option maxRecDepth 100000 in
set_option maxHeartbeats 1000000 in
theorem lw_10 {xt : Nat × (Nat → Int)} {M : gj_M} {i : Int} (hx : ∀ j, gj_in (xt.2 j)) (hN : xt.1 ≤ 2560) (hi : 0 ≤ i ∧ i + 5 ≤ (xt.1 : Int)) (hR : R_ M M) {Q : Option gj_V → List gj_H → gj_M → Prop} (kk : ∀ M2 : gj_M, R_ M2 M2 → gj_G xt YL_law gS 88 14392 1017 [some (gR 1001), some (gR 0), some (gR 69), some (gI i)] [] M2 Q) : gj_G xt YL_law gS 88 14392 450 [some (gR 1001), some (gR 0), some (gR 69), some (gI i)] [] M Q := by
  have hR1 := hR.k (ck_swap M (xt.2 (i + 1).toNat) (xt.2 (i + 2).toNat))
  have hq := hR1.swap (xt.2 (i + 1).toNat) (xt.2 (i + 2).toNat)
  refine gj_aload_n 451 dL_law_450 rfl rfl ?_
  refine gj_aload_n 452 dL_law_451 rfl rfl ?_
  refine gj_iload_n 453 dL_law_452 rfl rfl ?_
  refine gj_iconst 454 dL_law_453 rfl ?_
  refine gj_iadd 455 dL_law_454 rfl ?_
  refine gj_xld 456 dL_law_455 rfl (by omega) (by omega) ?_
  refine gj_aload_n 457 dL_law_456 rfl rfl ?_
  refine gj_iload_n 458 dL_law_457 rfl rfl ?_
  refine gj_iconst 459 dL_law_458 rfl ?_
  refine gj_iadd 460 dL_law_459 rfl ?_
  refine gj_xld 461 dL_law_460 rfl (by omega) (by omega) ?_
  refine gj_fV 464 dL_law_461 rfl ok_7_swap ml_L_58 iv_7_swap (As := [gI _, gI _]) rfl rfl rfl rfl (Nat.le_of_ble_eq_true rfl) ⟨Nat.le_of_ble_eq_true rfl, Nat.le_of_ble_eq_true rfl⟩ (Nat.le_of_ble_eq_true rfl) ⟨rfl, rfl⟩ ⟨Nat.le_of_ble_eq_true rfl, Nat.le_of_ble_eq_true rfl⟩ (s7_swap hR.I hR.n14.1 (hx _) (hx _)) ?_
  refine gj_aload_n 465 dL_law_464 rfl rfl ?_
  refine gj_aload_n 466 dL_law_465 rfl rfl ?_
  refine gj_iload_n 467 dL_law_466 rfl rfl ?_
  refine gj_iconst 468 dL_law_467 rfl ?_
  refine gj_iadd 469 dL_law_468 rfl ?_
  refine gj_xld 470 dL_law_469 rfl (by omega) (by omega) ?_
  refine gj_aload_n 471 dL_law_470 rfl rfl ?_
  refine gj_iload_n 472 dL_law_471 rfl rfl ?_
  refine gj_iconst 473 dL_law_472 rfl ?_
  refine gj_iadd 474 dL_law_473 rfl ?_
  refine gj_xld 475 dL_law_474 rfl (by omega) (by omega) ?_
  refine gj_fV 478 dL_law_475 rfl ok_8_swap ml_L_61 iv_8_swap (As := [gI _, gI _]) rfl rfl rfl rfl (Nat.le_of_ble_eq_true rfl) ⟨Nat.le_of_ble_eq_true rfl, Nat.le_of_ble_eq_true rfl⟩ (Nat.le_of_ble_eq_true rfl) ⟨rfl, rfl⟩ ⟨Nat.le_of_ble_eq_true rfl, Nat.le_of_ble_eq_true rfl⟩ (s8_swap hR1.1 hR1.yI hR1.n14.2 (hx _) (hx _)) ?_
  refine gj_eqT 1017 481 dL_law_478 (by decide) rfl hq.1 ?_
  exact kk _ (hq.2.c (rk_swap _ _ _))

set_option maxRecDepth 100000 in
set_option maxHeartbeats 1000000 in
theorem lw_11 {xt : Nat × (Nat → Int)} {M : gj_M} {i : Int} (hx : ∀ j, gj_in (xt.2 j)) (hN : xt.1 ≤ 2560) (hi : 0 ≤ i ∧ i + 5 ≤ (xt.1 : Int)) (hR : R_ M M) {Q : Option gj_V → List gj_H → gj_M → Prop} (kk : ∀ M2 : gj_M, R_ M2 M2 → gj_G xt YL_law gS 88 14392 1017 [some (gR 1001), some (gR 0), some (gR 69), some (gI i)] [] M2 Q) : gj_G xt YL_law gS 88 14392 483 [some (gR 1001), some (gR 0), some (gR 69), some (gI i)] [] M Q := by
  have hR1 := hR.k (ck_back M)
  have hq := hR1.back
  refine gj_aload_n 484 dL_law_483 rfl rfl ?_
  refine gj_fV 487 dL_law_484 rfl ok_7_back ml_L_62 iv_7_back (As := []) rfl rfl rfl rfl (Nat.le_of_ble_eq_true rfl) ⟨Nat.le_of_ble_eq_true rfl, Nat.le_of_ble_eq_true rfl⟩ (Nat.le_of_ble_eq_true rfl) ⟨rfl, rfl⟩ ⟨Nat.le_of_ble_eq_true rfl, Nat.le_of_ble_eq_true rfl⟩ (s7_back hR.I hR.n14.1) ?_
  refine gj_aload_n 488 dL_law_487 rfl rfl ?_
  refine gj_fV 491 dL_law_488 rfl ok_8_back ml_L_65 iv_8_back (As := []) rfl rfl rfl rfl (Nat.le_of_ble_eq_true rfl) ⟨Nat.le_of_ble_eq_true rfl, Nat.le_of_ble_eq_true rfl⟩ (Nat.le_of_ble_eq_true rfl) ⟨rfl, rfl⟩ ⟨Nat.le_of_ble_eq_true rfl, Nat.le_of_ble_eq_true rfl⟩ (s8_back hR1.1 hR1.yI hR1.n14.2) ?_
  refine gj_eqT 1017 494 dL_law_491 (by decide) rfl hq.1 ?_
  exact kk _ (hq.2.c (rk_back _))

set_option maxRecDepth 100000 in
set_option maxHeartbeats 1000000 in
theorem lw_12 {xt : Nat × (Nat → Int)} {M : gj_M} {i : Int} (hx : ∀ j, gj_in (xt.2 j)) (hN : xt.1 ≤ 2560) (hi : 0 ≤ i ∧ i + 5 ≤ (xt.1 : Int)) (hR : R_ M M) {Q : Option gj_V → List gj_H → gj_M → Prop} (kk : ∀ M2 : gj_M, R_ M2 M2 → gj_G xt YL_law gS 88 14392 1017 [some (gR 1001), some (gR 0), some (gR 69), some (gI i)] [] M2 Q) : gj_G xt YL_law gS 88 14392 496 [some (gR 1001), some (gR 0), some (gR 69), some (gI i)] [] M Q := by
  have hR1 := hR.k (ck_undo M)
  have hq := hR1.undo
  refine gj_aload_n 497 dL_law_496 rfl rfl ?_
  refine gj_fV 500 dL_law_497 rfl ok_7_undo ml_L_66 iv_7_undo (As := []) rfl rfl rfl rfl (Nat.le_of_ble_eq_true rfl) ⟨Nat.le_of_ble_eq_true rfl, Nat.le_of_ble_eq_true rfl⟩ (Nat.le_of_ble_eq_true rfl) ⟨rfl, rfl⟩ ⟨Nat.le_of_ble_eq_true rfl, Nat.le_of_ble_eq_true rfl⟩ (s7_undo hR.n14.1 hq.2.1) ?_
  refine gj_aload_n 501 dL_law_500 rfl rfl ?_
  refine gj_fV 504 dL_law_501 rfl ok_8_undo ml_L_69 iv_8_undo (As := []) rfl rfl rfl rfl (Nat.le_of_ble_eq_true rfl) ⟨Nat.le_of_ble_eq_true rfl, Nat.le_of_ble_eq_true rfl⟩ (Nat.le_of_ble_eq_true rfl) ⟨rfl, rfl⟩ ⟨Nat.le_of_ble_eq_true rfl, Nat.le_of_ble_eq_true rfl⟩ (s8_undo hR1.1 hR1.n14.2) ?_
  refine gj_eqT 1017 507 dL_law_504 (by decide) rfl hq.1 ?_
  exact kk _ (hq.2.2.c (rk_undo _))

set_option maxRecDepth 100000 in
set_option maxHeartbeats 1000000 in
theorem lw_13 {xt : Nat × (Nat → Int)} {M : gj_M} {i : Int} (hx : ∀ j, gj_in (xt.2 j)) (hN : xt.1 ≤ 2560) (hi : 0 ≤ i ∧ i + 5 ≤ (xt.1 : Int)) (hR : R_ M M) {Q : Option gj_V → List gj_H → gj_M → Prop} (kk : ∀ M2 : gj_M, R_ M2 M2 → gj_G xt YL_law gS 88 14392 1017 [some (gR 1001), some (gR 0), some (gR 69), some (gI i)] [] M2 Q) : gj_G xt YL_law gS 88 14392 509 [some (gR 1001), some (gR 0), some (gR 69), some (gI i)] [] M Q := by
  have hq := hR.exposed (xt.2 (i + 1).toNat) (xt.2 (i + 2).toNat)
  refine gj_aload_n 510 dL_law_509 rfl rfl ?_
  refine gj_aload_n 511 dL_law_510 rfl rfl ?_
  refine gj_iload_n 512 dL_law_511 rfl rfl ?_
  refine gj_iconst 513 dL_law_512 rfl ?_
  refine gj_iadd 514 dL_law_513 rfl ?_
  refine gj_xld 515 dL_law_514 rfl (by omega) (by omega) ?_
  refine gj_aload_n 516 dL_law_515 rfl rfl ?_
  refine gj_iload_n 517 dL_law_516 rfl rfl ?_
  refine gj_iconst 518 dL_law_517 rfl ?_
  refine gj_iadd 519 dL_law_518 rfl ?_
  refine gj_xld 520 dL_law_519 rfl (by omega) (by omega) ?_
  refine gj_fV 523 dL_law_520 rfl ok_7_exposed ml_L_70 iv_7_exposed (As := [gI _, gI _]) rfl rfl rfl rfl (Nat.le_of_ble_eq_true rfl) ⟨Nat.le_of_ble_eq_true rfl, Nat.le_of_ble_eq_true rfl⟩ (Nat.le_of_ble_eq_true rfl) ⟨rfl, rfl⟩ ⟨Nat.le_of_ble_eq_true rfl, Nat.le_of_ble_eq_true rfl⟩ (s7_exposed hR.I (hx _) (hx _)) ?_
  refine gj_aload_n 524 dL_law_523 rfl rfl ?_
  refine gj_aload_n 525 dL_law_524 rfl rfl ?_
  refine gj_iload_n 526 dL_law_525 rfl rfl ?_
  refine gj_iconst 527 dL_law_526 rfl ?_
  refine gj_iadd 528 dL_law_527 rfl ?_
  refine gj_xld 529 dL_law_528 rfl (by omega) (by omega) ?_
  refine gj_aload_n 530 dL_law_529 rfl rfl ?_
  refine gj_iload_n 531 dL_law_530 rfl rfl ?_
  refine gj_iconst 532 dL_law_531 rfl ?_
  refine gj_iadd 533 dL_law_532 rfl ?_
  refine gj_xld 534 dL_law_533 rfl (by omega) (by omega) ?_
  refine gj_fV 537 dL_law_534 rfl ok_8_exposed ml_L_73 iv_8_exposed (As := [gI _, gI _]) rfl rfl rfl rfl (Nat.le_of_ble_eq_true rfl) ⟨Nat.le_of_ble_eq_true rfl, Nat.le_of_ble_eq_true rfl⟩ (Nat.le_of_ble_eq_true rfl) ⟨rfl, rfl⟩ ⟨Nat.le_of_ble_eq_true rfl, Nat.le_of_ble_eq_true rfl⟩ (s8_exposed hR.1 hR.yI (hx _) (hx _)) ?_
  refine gj_eqT 1017 540 dL_law_537 (by decide) rfl hq ?_
  exact kk _ hR

set_option maxRecDepth 100000 in
set_option maxHeartbeats 1000000 in
theorem lw_14 {xt : Nat × (Nat → Int)} {M : gj_M} {i : Int} (hx : ∀ j, gj_in (xt.2 j)) (hN : xt.1 ≤ 2560) (hi : 0 ≤ i ∧ i + 5 ≤ (xt.1 : Int)) (hR : R_ M M) {Q : Option gj_V → List gj_H → gj_M → Prop} (kk : ∀ M2 : gj_M, R_ M2 M2 → gj_G xt YL_law gS 88 14392 1017 [some (gR 1001), some (gR 0), some (gR 69), some (gI i)] [] M2 Q) : gj_G xt YL_law gS 88 14392 542 [some (gR 1001), some (gR 0), some (gR 69), some (gI i)] [] M Q := by
  have hq := hR.order (xt.2 (i + 1).toNat)
  refine gj_aload_n 543 dL_law_542 rfl rfl ?_
  refine gj_aload_n 544 dL_law_543 rfl rfl ?_
  refine gj_iload_n 545 dL_law_544 rfl rfl ?_
  refine gj_iconst 546 dL_law_545 rfl ?_
  refine gj_iadd 547 dL_law_546 rfl ?_
  refine gj_xld 548 dL_law_547 rfl (by omega) (by omega) ?_
  refine gj_fV 551 dL_law_548 rfl ok_7_order ml_L_74 iv_7_order (As := [gI _]) rfl rfl rfl rfl (Nat.le_of_ble_eq_true rfl) ⟨Nat.le_of_ble_eq_true rfl, Nat.le_of_ble_eq_true rfl⟩ (Nat.le_of_ble_eq_true rfl) ⟨rfl, rfl⟩ ⟨Nat.le_of_ble_eq_true rfl, Nat.le_of_ble_eq_true rfl⟩ (s7_order hR.I (hx _)) ?_
  refine gj_aload_n 552 dL_law_551 rfl rfl ?_
  refine gj_aload_n 553 dL_law_552 rfl rfl ?_
  refine gj_iload_n 554 dL_law_553 rfl rfl ?_
  refine gj_iconst 555 dL_law_554 rfl ?_
  refine gj_iadd 556 dL_law_555 rfl ?_
  refine gj_xld 557 dL_law_556 rfl (by omega) (by omega) ?_
  refine gj_fV 560 dL_law_557 rfl ok_8_order ml_L_77 iv_8_order (As := [gI _]) rfl rfl rfl rfl (Nat.le_of_ble_eq_true rfl) ⟨Nat.le_of_ble_eq_true rfl, Nat.le_of_ble_eq_true rfl⟩ (Nat.le_of_ble_eq_true rfl) ⟨rfl, rfl⟩ ⟨Nat.le_of_ble_eq_true rfl, Nat.le_of_ble_eq_true rfl⟩ (s8_order hR.1 hR.yI (hx _)) ?_
  refine gj_eqT 1017 563 dL_law_560 (by decide) rfl hq ?_
  exact kk _ hR

set_option maxRecDepth 100000 in
set_option maxHeartbeats 1000000 in
theorem lw_15 {xt : Nat × (Nat → Int)} {M : gj_M} {i : Int} (hx : ∀ j, gj_in (xt.2 j)) (hN : xt.1 ≤ 2560) (hi : 0 ≤ i ∧ i + 5 ≤ (xt.1 : Int)) (hR : R_ M M) {Q : Option gj_V → List gj_H → gj_M → Prop} (kk : ∀ M2 : gj_M, R_ M2 M2 → gj_G xt YL_law gS 88 14392 1017 [some (gR 1001), some (gR 0), some (gR 69), some (gI i)] [] M2 Q) : gj_G xt YL_law gS 88 14392 565 [some (gR 1001), some (gR 0), some (gR 69), some (gI i)] [] M Q := by
  have hq := hR.look (xt.2 (i + 1).toNat) (xt.2 (i + 2).toNat)
  refine gj_aload_n 566 dL_law_565 rfl rfl ?_
  refine gj_aload_n 567 dL_law_566 rfl rfl ?_
  refine gj_iload_n 568 dL_law_567 rfl rfl ?_
  refine gj_iconst 569 dL_law_568 rfl ?_
  refine gj_iadd 570 dL_law_569 rfl ?_
  refine gj_xld 571 dL_law_570 rfl (by omega) (by omega) ?_
  refine gj_aload_n 572 dL_law_571 rfl rfl ?_
  refine gj_iload_n 573 dL_law_572 rfl rfl ?_
  refine gj_iconst 574 dL_law_573 rfl ?_
  refine gj_iadd 575 dL_law_574 rfl ?_
  refine gj_xld 576 dL_law_575 rfl (by omega) (by omega) ?_
  refine gj_fV 579 dL_law_576 rfl ok_7_look ml_L_78 iv_7_look (As := [gI _, gI _]) rfl rfl rfl rfl (Nat.le_of_ble_eq_true rfl) ⟨Nat.le_of_ble_eq_true rfl, Nat.le_of_ble_eq_true rfl⟩ (Nat.le_of_ble_eq_true rfl) ⟨rfl, rfl⟩ ⟨Nat.le_of_ble_eq_true rfl, Nat.le_of_ble_eq_true rfl⟩ (s7_look hR.I (hx _) (hx _)) ?_
  refine gj_aload_n 580 dL_law_579 rfl rfl ?_
  refine gj_aload_n 581 dL_law_580 rfl rfl ?_
  refine gj_iload_n 582 dL_law_581 rfl rfl ?_
  refine gj_iconst 583 dL_law_582 rfl ?_
  refine gj_iadd 584 dL_law_583 rfl ?_
  refine gj_xld 585 dL_law_584 rfl (by omega) (by omega) ?_
  refine gj_aload_n 586 dL_law_585 rfl rfl ?_
  refine gj_iload_n 587 dL_law_586 rfl rfl ?_
  refine gj_iconst 588 dL_law_587 rfl ?_
  refine gj_iadd 589 dL_law_588 rfl ?_
  refine gj_xld 590 dL_law_589 rfl (by omega) (by omega) ?_
  refine gj_fV 593 dL_law_590 rfl ok_8_look ml_L_81 iv_8_look (As := [gI _, gI _]) rfl rfl rfl rfl (Nat.le_of_ble_eq_true rfl) ⟨Nat.le_of_ble_eq_true rfl, Nat.le_of_ble_eq_true rfl⟩ (Nat.le_of_ble_eq_true rfl) ⟨rfl, rfl⟩ ⟨Nat.le_of_ble_eq_true rfl, Nat.le_of_ble_eq_true rfl⟩ (s8_lookp hR.1 hR.yI (hx _) (hx _)) ?_
  refine gj_eqT 1017 596 dL_law_593 (by decide) rfl hq ?_
  exact kk _ hR

