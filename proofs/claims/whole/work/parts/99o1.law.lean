theorem md_X7_mark : MD yX7_mark wsX7_mark 3 4 (some .int) := ⟨_, _, rfl, by decide, by decide +kernel, by decide +kernel, by decide +kernel⟩
theorem md_X8_mark : MD yX8_mark wsX8_mark 3 4 (some .int) := ⟨_, _, rfl, by decide, by decide +kernel, by decide +kernel, by decide +kernel⟩
set_option maxHeartbeats 4000000 in
set_option maxRecDepth 100000 in
theorem law_mark {X : CX} {sb L : Nat} {f : Nat → Int32} (C : Cx X cL_law RL wsL_law 16) (hB : LX X sb L f) {ka kb : Nat} (hk : kSA (xA X) ka kb (xs X)) {i : Nat} (hi : i + 7 ≤ L) {S : GS} {b c : B3} {q : SQ} {t : TX} {im : Nat} (hC : LC S b q t im c) (hM : LM S b q t im c) (hO : LO b q t im c) (kk : ∀ (S' : GS) (b' : B3) (q' : SQ) (t' : TX) (im' : Nat) (c' : B3), LC S' b' q' t' im' c' → LM S' b' q' t' im' c' → LO b' q' t' im' c' → Zj X S' [some (.ref sb), some (.ref (ad (xY X) 0)), some (.ref (ad (xY X) 178)), some (.int (nI i))] 1341 []) : Zj X S [some (.ref sb), some (.ref (ad (xY X) 0)), some (.ref (ad (xY X) 178)), some (.int (nI i))] 180 [] := by
  have hL := hB.2.2.2
  refine z_aload1 C dL_law_180 ?_
  refine z_aload0 C dL_law_181 ?_
  refine z_iload3 C dL_law_182 ?_
  refine z_iconstN 1 C dL_law_183 ?_
  refine z_iaddN C dL_law_184 ?_
  refine z_sld C hB dL_law_185 (by omega) ?_
  refine z_aload0 C dL_law_186 ?_
  refine z_iload3 C dL_law_187 ?_
  refine z_iconstN 2 C dL_law_188 ?_
  refine z_iaddN C dL_law_189 ?_
  refine z_sld C hB dL_law_190 (by omega) ?_
  refine z_aload0 C dL_law_191 ?_
  refine z_iload3 C dL_law_192 ?_
  refine z_iconstN 3 C dL_law_193 ?_
  refine z_iaddN C dL_law_194 ?_
  refine z_sld C hB dL_law_195 (by omega) ?_
  refine z_callVP C dL_law_196 (c_X7_mark hC.1 hO.1) gL_law_X7_mark md_X7_mark rfl (by decide) (k_EM _) rfl rfl rfl (Nat.le_of_ble_eq_true rfl) ?_
  rintro _ T ⟨rfl, hI, hf⟩
  have hC := lc_n hC hf hI
  have hM := LM_eq hM hO (eqm_fr hf (fun o z => by omega))
  refine z_aload2 C dL_law_199 ?_
  refine z_aload0 C dL_law_200 ?_
  refine z_iload3 C dL_law_201 ?_
  refine z_iconstN 1 C dL_law_202 ?_
  refine z_iaddN C dL_law_203 ?_
  refine z_sld C hB dL_law_204 (by omega) ?_
  refine z_aload0 C dL_law_205 ?_
  refine z_iload3 C dL_law_206 ?_
  refine z_iconstN 2 C dL_law_207 ?_
  refine z_iaddN C dL_law_208 ?_
  refine z_sld C hB dL_law_209 (by omega) ?_
  refine z_aload0 C dL_law_210 ?_
  refine z_iload3 C dL_law_211 ?_
  refine z_iconstN 3 C dL_law_212 ?_
  refine z_iaddN C dL_law_213 ?_
  refine z_sld C hB dL_law_214 (by omega) ?_
  refine z_callVP C dL_law_215 (c_X8_mark hM.1 hO.1) gL_law_X8_mark md_X8_mark rfl (by decide) (k_Model _) rfl rfl rfl (Nat.le_of_ble_eq_true rfl) ?_
  rintro _ U ⟨rfl, hJ, hf2⟩
  have hM := lm_n hM hO hf2 hJ
  have hC := LC_eq hC (eqc_n hf2)
  refine z_icmp_eq C 1341 dL_law_218 (by decide) (fun c218 => ?_) (fun c218 => ?_)
  · exact kk _ _ _ _ _ _ hC hM ⟨aMark_ok hO.1, hO.2⟩
  · exact absurd rfl c218

theorem md_X7_monk : MD yX7_monk wsX7_monk 2 3 (some .int) := ⟨_, _, rfl, by decide, by decide +kernel, by decide +kernel, by decide +kernel⟩
theorem md_X8_monk : MD yX8_monk wsX8_monk 2 3 (some .int) := ⟨_, _, rfl, by decide, by decide +kernel, by decide +kernel, by decide +kernel⟩
set_option maxHeartbeats 4000000 in
set_option maxRecDepth 100000 in
theorem law_monk {X : CX} {sb L : Nat} {f : Nat → Int32} (C : Cx X cL_law RL wsL_law 16) (hB : LX X sb L f) {ka kb : Nat} (hk : kSA (xA X) ka kb (xs X)) {i : Nat} (hi : i + 7 ≤ L) {S : GS} {b c : B3} {q : SQ} {t : TX} {im : Nat} (hC : LC S b q t im c) (hM : LM S b q t im c) (hO : LO b q t im c) (kk : ∀ (S' : GS) (b' : B3) (q' : SQ) (t' : TX) (im' : Nat) (c' : B3), LC S' b' q' t' im' c' → LM S' b' q' t' im' c' → LO b' q' t' im' c' → Zj X S' [some (.ref sb), some (.ref (ad (xY X) 0)), some (.ref (ad (xY X) 178)), some (.int (nI i))] 1341 []) : Zj X S [some (.ref sb), some (.ref (ad (xY X) 0)), some (.ref (ad (xY X) 178)), some (.int (nI i))] 223 [] := by
  have hL := hB.2.2.2
  refine z_aload1 C dL_law_223 ?_
  refine z_aload0 C dL_law_224 ?_
  refine z_iload3 C dL_law_225 ?_
  refine z_iconstN 1 C dL_law_226 ?_
  refine z_iaddN C dL_law_227 ?_
  refine z_sld C hB dL_law_228 (by omega) ?_
  refine z_aload0 C dL_law_229 ?_
  refine z_iload3 C dL_law_230 ?_
  refine z_iconstN 2 C dL_law_231 ?_
  refine z_iaddN C dL_law_232 ?_
  refine z_sld C hB dL_law_233 (by omega) ?_
  refine z_callVP C dL_law_234 (c_X7_monk hC.1 hO.1) gL_law_X7_monk md_X7_monk rfl (by decide) (k_EM _) rfl rfl rfl (Nat.le_of_ble_eq_true rfl) ?_
  rintro _ T ⟨rfl, hI, hf⟩
  have hC := lc_n hC hf hI
  have hM := LM_eq hM hO (eqm_fr hf (fun o z => by omega))
  refine z_aload2 C dL_law_237 ?_
  refine z_aload0 C dL_law_238 ?_
  refine z_iload3 C dL_law_239 ?_
  refine z_iconstN 1 C dL_law_240 ?_
  refine z_iaddN C dL_law_241 ?_
  refine z_sld C hB dL_law_242 (by omega) ?_
  refine z_aload0 C dL_law_243 ?_
  refine z_iload3 C dL_law_244 ?_
  refine z_iconstN 2 C dL_law_245 ?_
  refine z_iaddN C dL_law_246 ?_
  refine z_sld C hB dL_law_247 (by omega) ?_
  refine z_callVP C dL_law_248 (c_X8_monk hM.1 hO.1) gL_law_X8_monk md_X8_monk rfl (by decide) (k_Model _) rfl rfl rfl (Nat.le_of_ble_eq_true rfl) ?_
  rintro _ U ⟨rfl, hJ, hf2⟩
  have hM := lm_n hM hO hf2 hJ
  have hC := LC_eq hC (eqc_n hf2)
  refine z_icmp_eq C 1341 dL_law_251 (by decide) (fun c251 => ?_) (fun c251 => ?_)
  · exact kk _ _ _ _ _ _ hC hM ⟨aMonk_ok hO.1, hO.2⟩
  · exact absurd rfl c251

theorem md_X7_of : MD yX7_of wsX7_of 2 3 (some .int) := ⟨_, _, rfl, by decide, by decide +kernel, by decide +kernel, by decide +kernel⟩
theorem md_X8_of : MD yX8_of wsX8_of 2 3 (some .int) := ⟨_, _, rfl, by decide, by decide +kernel, by decide +kernel, by decide +kernel⟩
set_option maxHeartbeats 4000000 in
set_option maxRecDepth 100000 in
theorem law_of {X : CX} {sb L : Nat} {f : Nat → Int32} (C : Cx X cL_law RL wsL_law 16) (hB : LX X sb L f) {ka kb : Nat} (hk : kSA (xA X) ka kb (xs X)) {i : Nat} (hi : i + 7 ≤ L) {S : GS} {b c : B3} {q : SQ} {t : TX} {im : Nat} (hC : LC S b q t im c) (hM : LM S b q t im c) (hO : LO b q t im c) (kk : ∀ (S' : GS) (b' : B3) (q' : SQ) (t' : TX) (im' : Nat) (c' : B3), LC S' b' q' t' im' c' → LM S' b' q' t' im' c' → LO b' q' t' im' c' → Zj X S' [some (.ref sb), some (.ref (ad (xY X) 0)), some (.ref (ad (xY X) 178)), some (.int (nI i))] 1341 []) : Zj X S [some (.ref sb), some (.ref (ad (xY X) 0)), some (.ref (ad (xY X) 178)), some (.int (nI i))] 256 [] := by
  have hL := hB.2.2.2
  refine z_aload1 C dL_law_256 ?_
  refine z_aload0 C dL_law_257 ?_
  refine z_iload3 C dL_law_258 ?_
  refine z_iconstN 1 C dL_law_259 ?_
  refine z_iaddN C dL_law_260 ?_
  refine z_sld C hB dL_law_261 (by omega) ?_
  refine z_aload0 C dL_law_262 ?_
  refine z_iload3 C dL_law_263 ?_
  refine z_iconstN 2 C dL_law_264 ?_
  refine z_iaddN C dL_law_265 ?_
  refine z_sld C hB dL_law_266 (by omega) ?_
  refine z_callVP C dL_law_267 (c_X7_of hC.1.1 hO.1.1) gL_law_X7_of md_X7_of rfl (by decide) (k_EM _) rfl rfl rfl (Nat.le_of_ble_eq_true rfl) ?_
  rintro _ T ⟨rfl, hf⟩
  have hC := lc_ro hC hf
  have hM := LM_eq hM hO (eqm_fr hf (fun o z => by omega))
  refine z_aload2 C dL_law_270 ?_
  refine z_aload0 C dL_law_271 ?_
  refine z_iload3 C dL_law_272 ?_
  refine z_iconstN 1 C dL_law_273 ?_
  refine z_iaddN C dL_law_274 ?_
  refine z_sld C hB dL_law_275 (by omega) ?_
  refine z_aload0 C dL_law_276 ?_
  refine z_iload3 C dL_law_277 ?_
  refine z_iconstN 2 C dL_law_278 ?_
  refine z_iaddN C dL_law_279 ?_
  refine z_sld C hB dL_law_280 (by omega) ?_
  refine z_callVP C dL_law_281 (c_X8_of hM.1.1 hO.1.1) gL_law_X8_of md_X8_of rfl (by decide) (k_Model _) rfl rfl rfl (Nat.le_of_ble_eq_true rfl) ?_
  rintro _ U ⟨rfl, hf2⟩
  have hM := lm_ro hM hO hf2
  have hC := LC_eq hC (eqc_m hf2)
  refine z_icmp_eq C 1341 dL_law_284 (by decide) (fun c284 => ?_) (fun c284 => ?_)
  · exact kk _ _ _ _ _ _ hC hM hO
  · exact absurd rfl c284

theorem md_X7_at : MD yX7_at wsX7_at 2 3 (some .int) := ⟨_, _, rfl, by decide, by decide +kernel, by decide +kernel, by decide +kernel⟩
theorem md_X8_at : MD yX8_at wsX8_at 2 3 (some .int) := ⟨_, _, rfl, by decide, by decide +kernel, by decide +kernel, by decide +kernel⟩
set_option maxHeartbeats 4000000 in
set_option maxRecDepth 100000 in
theorem law_at {X : CX} {sb L : Nat} {f : Nat → Int32} (C : Cx X cL_law RL wsL_law 16) (hB : LX X sb L f) {ka kb : Nat} (hk : kSA (xA X) ka kb (xs X)) {i : Nat} (hi : i + 7 ≤ L) {S : GS} {b c : B3} {q : SQ} {t : TX} {im : Nat} (hC : LC S b q t im c) (hM : LM S b q t im c) (hO : LO b q t im c) (kk : ∀ (S' : GS) (b' : B3) (q' : SQ) (t' : TX) (im' : Nat) (c' : B3), LC S' b' q' t' im' c' → LM S' b' q' t' im' c' → LO b' q' t' im' c' → Zj X S' [some (.ref sb), some (.ref (ad (xY X) 0)), some (.ref (ad (xY X) 178)), some (.int (nI i))] 1341 []) : Zj X S [some (.ref sb), some (.ref (ad (xY X) 0)), some (.ref (ad (xY X) 178)), some (.int (nI i))] 289 [] := by
  have hL := hB.2.2.2
  refine z_aload1 C dL_law_289 ?_
  refine z_aload0 C dL_law_290 ?_
  refine z_iload3 C dL_law_291 ?_
  refine z_iconstN 1 C dL_law_292 ?_
  refine z_iaddN C dL_law_293 ?_
  refine z_sld C hB dL_law_294 (by omega) ?_
  refine z_aload0 C dL_law_295 ?_
  refine z_iload3 C dL_law_296 ?_
  refine z_iconstN 2 C dL_law_297 ?_
  refine z_iaddN C dL_law_298 ?_
  refine z_sld C hB dL_law_299 (by omega) ?_
  refine z_callVP C dL_law_300 (c_X7_at hC.1.1 hO.1.1) gL_law_X7_at md_X7_at rfl (by decide) (k_EM _) rfl rfl rfl (Nat.le_of_ble_eq_true rfl) ?_
  rintro _ T ⟨rfl, hf⟩
  have hC := lc_ro hC hf
  have hM := LM_eq hM hO (eqm_fr hf (fun o z => by omega))
  refine z_aload2 C dL_law_303 ?_
  refine z_aload0 C dL_law_304 ?_
  refine z_iload3 C dL_law_305 ?_
  refine z_iconstN 1 C dL_law_306 ?_
  refine z_iaddN C dL_law_307 ?_
  refine z_sld C hB dL_law_308 (by omega) ?_
  refine z_aload0 C dL_law_309 ?_
  refine z_iload3 C dL_law_310 ?_
  refine z_iconstN 2 C dL_law_311 ?_
  refine z_iaddN C dL_law_312 ?_
  refine z_sld C hB dL_law_313 (by omega) ?_
  refine z_callVP C dL_law_314 (c_X8_at hM.1.1 hO.1.1) gL_law_X8_at md_X8_at rfl (by decide) (k_Model _) rfl rfl rfl (Nat.le_of_ble_eq_true rfl) ?_
  rintro _ U ⟨rfl, hf2⟩
  have hM := lm_ro hM hO hf2
  have hC := LC_eq hC (eqc_m hf2)
  refine z_icmp_eq C 1341 dL_law_317 (by decide) (fun c317 => ?_) (fun c317 => ?_)
  · exact kk _ _ _ _ _ _ hC hM hO
  · exact absurd rfl c317

theorem md_X7_type : MD yX7_type wsX7_type 1 2 (some .int) := ⟨_, _, rfl, by decide, by decide +kernel, by decide +kernel, by decide +kernel⟩
theorem md_X8_type : MD yX8_type wsX8_type 1 2 (some .int) := ⟨_, _, rfl, by decide, by decide +kernel, by decide +kernel, by decide +kernel⟩
set_option maxHeartbeats 4000000 in
set_option maxRecDepth 100000 in
theorem law_type {X : CX} {sb L : Nat} {f : Nat → Int32} (C : Cx X cL_law RL wsL_law 16) (hB : LX X sb L f) {ka kb : Nat} (hk : kSA (xA X) ka kb (xs X)) {i : Nat} (hi : i + 7 ≤ L) {S : GS} {b c : B3} {q : SQ} {t : TX} {im : Nat} (hC : LC S b q t im c) (hM : LM S b q t im c) (hO : LO b q t im c) (kk : ∀ (S' : GS) (b' : B3) (q' : SQ) (t' : TX) (im' : Nat) (c' : B3), LC S' b' q' t' im' c' → LM S' b' q' t' im' c' → LO b' q' t' im' c' → Zj X S' [some (.ref sb), some (.ref (ad (xY X) 0)), some (.ref (ad (xY X) 178)), some (.int (nI i))] 1341 []) : Zj X S [some (.ref sb), some (.ref (ad (xY X) 0)), some (.ref (ad (xY X) 178)), some (.int (nI i))] 322 [] := by
  have hL := hB.2.2.2
  refine z_aload1 C dL_law_322 ?_
  refine z_aload0 C dL_law_323 ?_
  refine z_iload3 C dL_law_324 ?_
  refine z_iconstN 1 C dL_law_325 ?_
  refine z_iaddN C dL_law_326 ?_
  refine z_sld C hB dL_law_327 (by omega) ?_
  refine z_callVP C dL_law_328 (c_X7_type hC.2.2.1 hO.2.2.1) gL_law_X7_type md_X7_type rfl (by decide) (k_EM _) rfl rfl rfl (Nat.le_of_ble_eq_true rfl) ?_
  rintro _ T ⟨rfl, hX, hf⟩
  have hC := lc_t hC hf hX
  have hM := LM_eq hM hO (eqm_fr hf (fun o z => by omega))
  refine z_aload2 C dL_law_331 ?_
  refine z_aload0 C dL_law_332 ?_
  refine z_iload3 C dL_law_333 ?_
  refine z_iconstN 1 C dL_law_334 ?_
  refine z_iaddN C dL_law_335 ?_
  refine z_sld C hB dL_law_336 (by omega) ?_
  refine z_callVP C dL_law_337 (c_X8_type hM.2.2.1 hO.2.2.1) gL_law_X8_type md_X8_type rfl (by decide) (k_Model _) rfl rfl rfl (Nat.le_of_ble_eq_true rfl) ?_
  rintro _ U ⟨rfl, hX2, hf2⟩
  have hM := lm_t hM hO hf2 hX2
  have hC := LC_eq hC (eqc_x hf2)
  refine z_icmp_eq C 1341 dL_law_340 (by decide) (fun c340 => ?_) (fun c340 => ?_)
  · exact kk _ _ _ _ _ _ hC hM ⟨hO.1, hO.2.1, aType_ok hO.2.2.1, hO.2.2.2⟩
  · exact absurd rfl c340

theorem md_X7_rock : MD yX7_rock wsX7_rock 0 2 (some .int) := ⟨_, _, rfl, by decide, by decide +kernel, by decide +kernel, by decide +kernel⟩
theorem md_X8_rock : MD yX8_rock wsX8_rock 0 2 (some .int) := ⟨_, _, rfl, by decide, by decide +kernel, by decide +kernel, by decide +kernel⟩
set_option maxHeartbeats 4000000 in
set_option maxRecDepth 100000 in
theorem law_rock {X : CX} {sb L : Nat} {f : Nat → Int32} (C : Cx X cL_law RL wsL_law 16) (hB : LX X sb L f) {ka kb : Nat} (hk : kSA (xA X) ka kb (xs X)) {i : Nat} (hi : i + 7 ≤ L) {S : GS} {b c : B3} {q : SQ} {t : TX} {im : Nat} (hC : LC S b q t im c) (hM : LM S b q t im c) (hO : LO b q t im c) (kk : ∀ (S' : GS) (b' : B3) (q' : SQ) (t' : TX) (im' : Nat) (c' : B3), LC S' b' q' t' im' c' → LM S' b' q' t' im' c' → LO b' q' t' im' c' → Zj X S' [some (.ref sb), some (.ref (ad (xY X) 0)), some (.ref (ad (xY X) 178)), some (.int (nI i))] 1341 []) : Zj X S [some (.ref sb), some (.ref (ad (xY X) 0)), some (.ref (ad (xY X) 178)), some (.int (nI i))] 345 [] := by
  have hL := hB.2.2.2
  refine z_aload1 C dL_law_345 ?_
  refine z_callVPL C hk dL_law_346 (c_X7_rock hC.1 hO.1 hC.2.2.1 hO.2.2.1) gL_law_X7_rock md_X7_rock rfl (by decide) (k_EM _) rfl rfl rfl (Nat.le_of_ble_eq_true rfl) ?_
  rintro _ T ⟨rfl, hI, h11, hf⟩
  have hC := lc_r hC hf hI h11
  have hM := LM_eq hM hO (eqm_fr hf (fun o z => by omega))
  refine z_aload2 C dL_law_349 ?_
  refine z_callVP C dL_law_350 (c_X8_rock hM.1 hO.1 hM.2.2.1 hO.2.2.1) gL_law_X8_rock md_X8_rock rfl (by decide) (k_Model _) rfl rfl rfl (Nat.le_of_ble_eq_true rfl) ?_
  rintro _ U ⟨rfl, hJ, h3, hf2⟩
  have hM := lm_r hM hO hf2 hJ h3
  have hC := LC_eq hC (eqc_k hf2)
  refine z_icmp_eq C 1341 dL_law_353 (by decide) (fun c353 => ?_) (fun c353 => ?_)
  · exact kk _ _ _ _ _ _ hC hM ⟨aRock_ok hO.1, hO.2.1, ⟨Nat.zero_le _, fun i hi => absurd hi (Nat.not_lt_zero _)⟩, hO.2.2.2⟩
  · exact absurd rfl c353

theorem md_X7_count : MD yX7_count wsX7_count 1 2 (some .int) := ⟨_, _, rfl, by decide, by decide +kernel, by decide +kernel, by decide +kernel⟩
theorem md_X8_count : MD yX8_count wsX8_count 1 2 (some .int) := ⟨_, _, rfl, by decide, by decide +kernel, by decide +kernel, by decide +kernel⟩
set_option maxHeartbeats 4000000 in
set_option maxRecDepth 100000 in
theorem law_count {X : CX} {sb L : Nat} {f : Nat → Int32} (C : Cx X cL_law RL wsL_law 16) (hB : LX X sb L f) {ka kb : Nat} (hk : kSA (xA X) ka kb (xs X)) {i : Nat} (hi : i + 7 ≤ L) {S : GS} {b c : B3} {q : SQ} {t : TX} {im : Nat} (hC : LC S b q t im c) (hM : LM S b q t im c) (hO : LO b q t im c) (kk : ∀ (S' : GS) (b' : B3) (q' : SQ) (t' : TX) (im' : Nat) (c' : B3), LC S' b' q' t' im' c' → LM S' b' q' t' im' c' → LO b' q' t' im' c' → Zj X S' [some (.ref sb), some (.ref (ad (xY X) 0)), some (.ref (ad (xY X) 178)), some (.int (nI i))] 1341 []) : Zj X S [some (.ref sb), some (.ref (ad (xY X) 0)), some (.ref (ad (xY X) 178)), some (.int (nI i))] 358 [] := by
  have hL := hB.2.2.2
  refine z_aload1 C dL_law_358 ?_
  refine z_aload0 C dL_law_359 ?_
  refine z_iload3 C dL_law_360 ?_
  refine z_iconstN 1 C dL_law_361 ?_
  refine z_iaddN C dL_law_362 ?_
  refine z_sld C hB dL_law_363 (by omega) ?_
  refine z_callVP C dL_law_364 (c_X7_count hC.1 hO.1) gL_law_X7_count md_X7_count rfl (by decide) (k_EM _) rfl rfl rfl (Nat.le_of_ble_eq_true rfl) ?_
  rintro _ T ⟨rfl, hf⟩
  have hC := lc_ro hC hf
  have hM := LM_eq hM hO (eqm_fr hf (fun o z => by omega))
  refine z_aload2 C dL_law_367 ?_
  refine z_aload0 C dL_law_368 ?_
  refine z_iload3 C dL_law_369 ?_
  refine z_iconstN 1 C dL_law_370 ?_
  refine z_iaddN C dL_law_371 ?_
  refine z_sld C hB dL_law_372 (by omega) ?_
  refine z_callVP C dL_law_373 (c_X8_count hM.1 hO.1) gL_law_X8_count md_X8_count rfl (by decide) (k_Model _) rfl rfl rfl (Nat.le_of_ble_eq_true rfl) ?_
  rintro _ U ⟨rfl, hf2⟩
  have hM := lm_ro hM hO hf2
  have hC := LC_eq hC (eqc_m hf2)
  refine z_icmp_eq C 1341 dL_law_376 (by decide) (fun c376 => ?_) (fun c376 => ?_)
  · exact kk _ _ _ _ _ _ hC hM hO
  · exact absurd rfl c376

theorem md_X7_days : MD yX7_days wsX7_days 1 2 (some .int) := ⟨_, _, rfl, by decide, by decide +kernel, by decide +kernel, by decide +kernel⟩
theorem md_X8_days : MD yX8_days wsX8_days 1 3 (some .int) := ⟨_, _, rfl, by decide, by decide +kernel, by decide +kernel, by decide +kernel⟩
set_option maxHeartbeats 4000000 in
set_option maxRecDepth 100000 in
theorem law_days {X : CX} {sb L : Nat} {f : Nat → Int32} (C : Cx X cL_law RL wsL_law 16) (hB : LX X sb L f) {ka kb : Nat} (hk : kSA (xA X) ka kb (xs X)) {i : Nat} (hi : i + 7 ≤ L) {S : GS} {b c : B3} {q : SQ} {t : TX} {im : Nat} (hC : LC S b q t im c) (hM : LM S b q t im c) (hO : LO b q t im c) (kk : ∀ (S' : GS) (b' : B3) (q' : SQ) (t' : TX) (im' : Nat) (c' : B3), LC S' b' q' t' im' c' → LM S' b' q' t' im' c' → LO b' q' t' im' c' → Zj X S' [some (.ref sb), some (.ref (ad (xY X) 0)), some (.ref (ad (xY X) 178)), some (.int (nI i))] 1341 []) : Zj X S [some (.ref sb), some (.ref (ad (xY X) 0)), some (.ref (ad (xY X) 178)), some (.int (nI i))] 381 [] := by
  have hL := hB.2.2.2
  refine z_aload1 C dL_law_381 ?_
  refine z_aload0 C dL_law_382 ?_
  refine z_iload3 C dL_law_383 ?_
  refine z_iconstN 1 C dL_law_384 ?_
  refine z_iaddN C dL_law_385 ?_
  refine z_sld C hB dL_law_386 (by omega) ?_
  refine z_callVP C dL_law_387 (c_X7_days hC.1 hO.1) gL_law_X7_days md_X7_days rfl (by decide) (k_EM _) rfl rfl rfl (Nat.le_of_ble_eq_true rfl) ?_
  rintro _ T ⟨rfl, hI, hf⟩
  have hC := lc_n hC hf hI
  have hM := LM_eq hM hO (eqm_fr hf (fun o z => by omega))
  refine z_aload2 C dL_law_390 ?_
  refine z_aload0 C dL_law_391 ?_
  refine z_iload3 C dL_law_392 ?_
  refine z_iconstN 1 C dL_law_393 ?_
  refine z_iaddN C dL_law_394 ?_
  refine z_sld C hB dL_law_395 (by omega) ?_
  refine z_callVP C dL_law_396 (c_X8_days hM.1 hO.1) gL_law_X8_days md_X8_days rfl (by decide) (k_Model _) rfl rfl rfl (Nat.le_of_ble_eq_true rfl) ?_
  rintro _ U ⟨rfl, hJ, hf2⟩
  have hM := lm_n hM hO hf2 hJ
  have hC := LC_eq hC (eqc_n hf2)
  refine z_icmp_eq C 1341 dL_law_399 (by decide) (fun c399 => ?_) (fun c399 => ?_)
  · exact kk _ _ _ _ _ _ hC hM ⟨aDays_ok gOk_id hO.1, hO.2⟩
  · exact absurd rfl c399

theorem md_X7_send : MD yX7_send wsX7_send 2 4 (some .int) := ⟨_, _, rfl, by decide, by decide +kernel, by decide +kernel, by decide +kernel⟩
theorem md_X8_send : MD yX8_send wsX8_send 2 4 (some .int) := ⟨_, _, rfl, by decide, by decide +kernel, by decide +kernel, by decide +kernel⟩
set_option maxHeartbeats 4000000 in
set_option maxRecDepth 100000 in
theorem law_send {X : CX} {sb L : Nat} {f : Nat → Int32} (C : Cx X cL_law RL wsL_law 16) (hB : LX X sb L f) {ka kb : Nat} (hk : kSA (xA X) ka kb (xs X)) {i : Nat} (hi : i + 7 ≤ L) {S : GS} {b c : B3} {q : SQ} {t : TX} {im : Nat} (hC : LC S b q t im c) (hM : LM S b q t im c) (hO : LO b q t im c) (kk : ∀ (S' : GS) (b' : B3) (q' : SQ) (t' : TX) (im' : Nat) (c' : B3), LC S' b' q' t' im' c' → LM S' b' q' t' im' c' → LO b' q' t' im' c' → Zj X S' [some (.ref sb), some (.ref (ad (xY X) 0)), some (.ref (ad (xY X) 178)), some (.int (nI i))] 1341 []) : Zj X S [some (.ref sb), some (.ref (ad (xY X) 0)), some (.ref (ad (xY X) 178)), some (.int (nI i))] 404 [] := by
  have hL := hB.2.2.2
  refine z_aload1 C dL_law_404 ?_
  refine z_aload0 C dL_law_405 ?_
  refine z_iload3 C dL_law_406 ?_
  refine z_iconstN 1 C dL_law_407 ?_
  refine z_iaddN C dL_law_408 ?_
  refine z_sld C hB dL_law_409 (by omega) ?_
  refine z_aload0 C dL_law_410 ?_
  refine z_iload3 C dL_law_411 ?_
  refine z_iconstN 2 C dL_law_412 ?_
  refine z_iaddN C dL_law_413 ?_
  refine z_sld C hB dL_law_414 (by omega) ?_
  refine z_callVP C dL_law_415 (c_X7_send hC.1 hO.1) gL_law_X7_send md_X7_send rfl (by decide) (k_EM _) rfl rfl rfl (Nat.le_of_ble_eq_true rfl) ?_
  rintro _ T ⟨rfl, hI, hf⟩
  have hC := lc_n hC hf hI
  have hM := LM_eq hM hO (eqm_fr hf (fun o z => by omega))
  refine z_aload2 C dL_law_418 ?_
  refine z_aload0 C dL_law_419 ?_
  refine z_iload3 C dL_law_420 ?_
  refine z_iconstN 1 C dL_law_421 ?_
  refine z_iaddN C dL_law_422 ?_
  refine z_sld C hB dL_law_423 (by omega) ?_
  refine z_aload0 C dL_law_424 ?_
  refine z_iload3 C dL_law_425 ?_
  refine z_iconstN 2 C dL_law_426 ?_
  refine z_iaddN C dL_law_427 ?_
  refine z_sld C hB dL_law_428 (by omega) ?_
  refine z_callVP C dL_law_429 (c_X8_send hM.1 hO.1) gL_law_X8_send md_X8_send rfl (by decide) (k_Model _) rfl rfl rfl (Nat.le_of_ble_eq_true rfl) ?_
  rintro _ U ⟨rfl, hJ, hf2⟩
  have hM := lm_n hM hO hf2 hJ
  have hC := LC_eq hC (eqc_n hf2)
  refine z_icmp_eq C 1341 dL_law_432 (by decide) (fun c432 => ?_) (fun c432 => ?_)
  · exact kk _ _ _ _ _ _ hC hM ⟨aSend_ok hO.1, hO.2⟩
  · exact absurd rfl c432
