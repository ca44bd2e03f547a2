theorem md_X7_press : MD yX7_press wsX7_press 3 4 (some .int) := ⟨_, _, rfl, by decide, by decide +kernel, by decide +kernel, by decide +kernel⟩
theorem md_X8_press : MD yX8_press wsX8_press 3 5 (some .int) := ⟨_, _, rfl, by decide, by decide +kernel, by decide +kernel, by decide +kernel⟩
set_option maxHeartbeats 4000000 in
set_option maxRecDepth 100000 in
theorem law_press {X : CX} {sb L : Nat} {f : Nat → Int32} (C : Cx X cL_law RL wsL_law 16) (hB : LX X sb L f) {ka kb : Nat} (hk : kSA (xA X) ka kb (xs X)) {i : Nat} (hi : i + 7 ≤ L) {S : GS} {b c : B3} {q : SQ} {t : TX} {im : Nat} (hC : LC S b q t im c) (hM : LM S b q t im c) (hO : LO b q t im c) (kk : ∀ (S' : GS) (b' : B3) (q' : SQ) (t' : TX) (im' : Nat) (c' : B3), LC S' b' q' t' im' c' → LM S' b' q' t' im' c' → LO b' q' t' im' c' → Zj X S' [some (.ref sb), some (.ref (ad (xY X) 0)), some (.ref (ad (xY X) 178)), some (.int (nI i))] 1341 []) : Zj X S [some (.ref sb), some (.ref (ad (xY X) 0)), some (.ref (ad (xY X) 178)), some (.int (nI i))] 437 [] := by
  have hL := hB.2.2.2
  refine z_aload1 C dL_law_437 ?_
  refine z_aload0 C dL_law_438 ?_
  refine z_iload3 C dL_law_439 ?_
  refine z_iconstN 1 C dL_law_440 ?_
  refine z_iaddN C dL_law_441 ?_
  refine z_sld C hB dL_law_442 (by omega) ?_
  refine z_aload0 C dL_law_443 ?_
  refine z_iload3 C dL_law_444 ?_
  refine z_iconstN 2 C dL_law_445 ?_
  refine z_iaddN C dL_law_446 ?_
  refine z_sld C hB dL_law_447 (by omega) ?_
  refine z_aload0 C dL_law_448 ?_
  refine z_iload3 C dL_law_449 ?_
  refine z_iconstN 3 C dL_law_450 ?_
  refine z_iaddN C dL_law_451 ?_
  refine z_sld C hB dL_law_452 (by omega) ?_
  refine z_callVP C dL_law_453 (c_X7_press hC.1 hO.1) gL_law_X7_press md_X7_press rfl (by decide) (k_EM _) rfl rfl rfl (Nat.le_of_ble_eq_true rfl) ?_
  rintro _ T ⟨rfl, hI, hf⟩
  have hC := lc_n hC hf hI
  have hM := LM_eq hM hO (eqm_fr hf (fun o z => by omega))
  refine z_aload2 C dL_law_456 ?_
  refine z_aload0 C dL_law_457 ?_
  refine z_iload3 C dL_law_458 ?_
  refine z_iconstN 1 C dL_law_459 ?_
  refine z_iaddN C dL_law_460 ?_
  refine z_sld C hB dL_law_461 (by omega) ?_
  refine z_aload0 C dL_law_462 ?_
  refine z_iload3 C dL_law_463 ?_
  refine z_iconstN 2 C dL_law_464 ?_
  refine z_iaddN C dL_law_465 ?_
  refine z_sld C hB dL_law_466 (by omega) ?_
  refine z_aload0 C dL_law_467 ?_
  refine z_iload3 C dL_law_468 ?_
  refine z_iconstN 3 C dL_law_469 ?_
  refine z_iaddN C dL_law_470 ?_
  refine z_sld C hB dL_law_471 (by omega) ?_
  refine z_callVP C dL_law_472 (c_X8_press hM.1 hO.1) gL_law_X8_press md_X8_press rfl (by decide) (k_Model _) rfl rfl rfl (Nat.le_of_ble_eq_true rfl) ?_
  rintro _ U ⟨rfl, hJ, hf2⟩
  have hM := lm_n hM hO hf2 hJ
  have hC := LC_eq hC (eqc_n hf2)
  refine z_icmp_eq C 1341 dL_law_475 (by decide) (fun c475 => ?_) (fun c475 => ?_)
  · exact kk _ _ _ _ _ _ hC hM ⟨aPress_ok hO.1, hO.2⟩
  · exact absurd rfl c475

theorem md_X7_ink : MD yX7_ink wsX7_ink 2 3 (some .int) := ⟨_, _, rfl, by decide, by decide +kernel, by decide +kernel, by decide +kernel⟩
theorem md_X8_ink : MD yX8_ink wsX8_ink 2 3 (some .int) := ⟨_, _, rfl, by decide, by decide +kernel, by decide +kernel, by decide +kernel⟩
set_option maxHeartbeats 4000000 in
set_option maxRecDepth 100000 in
theorem law_ink {X : CX} {sb L : Nat} {f : Nat → Int32} (C : Cx X cL_law RL wsL_law 16) (hB : LX X sb L f) {ka kb : Nat} (hk : kSA (xA X) ka kb (xs X)) {i : Nat} (hi : i + 7 ≤ L) {S : GS} {b c : B3} {q : SQ} {t : TX} {im : Nat} (hC : LC S b q t im c) (hM : LM S b q t im c) (hO : LO b q t im c) (kk : ∀ (S' : GS) (b' : B3) (q' : SQ) (t' : TX) (im' : Nat) (c' : B3), LC S' b' q' t' im' c' → LM S' b' q' t' im' c' → LO b' q' t' im' c' → Zj X S' [some (.ref sb), some (.ref (ad (xY X) 0)), some (.ref (ad (xY X) 178)), some (.int (nI i))] 1341 []) : Zj X S [some (.ref sb), some (.ref (ad (xY X) 0)), some (.ref (ad (xY X) 178)), some (.int (nI i))] 480 [] := by
  have hL := hB.2.2.2
  refine z_aload1 C dL_law_480 ?_
  refine z_aload0 C dL_law_481 ?_
  refine z_iload3 C dL_law_482 ?_
  refine z_iconstN 1 C dL_law_483 ?_
  refine z_iaddN C dL_law_484 ?_
  refine z_sld C hB dL_law_485 (by omega) ?_
  refine z_aload0 C dL_law_486 ?_
  refine z_iload3 C dL_law_487 ?_
  refine z_iconstN 2 C dL_law_488 ?_
  refine z_iaddN C dL_law_489 ?_
  refine z_sld C hB dL_law_490 (by omega) ?_
  refine z_callVP C dL_law_491 (c_X7_ink hC.1 hO.1) gL_law_X7_ink md_X7_ink rfl (by decide) (k_EM _) rfl rfl rfl (Nat.le_of_ble_eq_true rfl) ?_
  rintro _ T ⟨rfl, hI, hf⟩
  have hC := lc_n hC hf hI
  have hM := LM_eq hM hO (eqm_fr hf (fun o z => by omega))
  refine z_aload2 C dL_law_494 ?_
  refine z_aload0 C dL_law_495 ?_
  refine z_iload3 C dL_law_496 ?_
  refine z_iconstN 1 C dL_law_497 ?_
  refine z_iaddN C dL_law_498 ?_
  refine z_sld C hB dL_law_499 (by omega) ?_
  refine z_aload0 C dL_law_500 ?_
  refine z_iload3 C dL_law_501 ?_
  refine z_iconstN 2 C dL_law_502 ?_
  refine z_iaddN C dL_law_503 ?_
  refine z_sld C hB dL_law_504 (by omega) ?_
  refine z_callVP C dL_law_505 (c_X8_ink hM.1 hO.1) gL_law_X8_ink md_X8_ink rfl (by decide) (k_Model _) rfl rfl rfl (Nat.le_of_ble_eq_true rfl) ?_
  rintro _ U ⟨rfl, hJ, hf2⟩
  have hM := lm_n hM hO hf2 hJ
  have hC := LC_eq hC (eqc_n hf2)
  refine z_icmp_eq C 1341 dL_law_508 (by decide) (fun c508 => ?_) (fun c508 => ?_)
  · exact kk _ _ _ _ _ _ hC hM ⟨aInk_ok hO.1, hO.2⟩
  · exact absurd rfl c508

theorem md_X7_drift : MD yX7_drift wsX7_drift 1 2 (some .int) := ⟨_, _, rfl, by decide, by decide +kernel, by decide +kernel, by decide +kernel⟩
theorem md_X8_drift : MD yX8_drift wsX8_drift 1 3 (some .int) := ⟨_, _, rfl, by decide, by decide +kernel, by decide +kernel, by decide +kernel⟩
set_option maxHeartbeats 4000000 in
set_option maxRecDepth 100000 in
theorem law_drift {X : CX} {sb L : Nat} {f : Nat → Int32} (C : Cx X cL_law RL wsL_law 16) (hB : LX X sb L f) {ka kb : Nat} (hk : kSA (xA X) ka kb (xs X)) {i : Nat} (hi : i + 7 ≤ L) {S : GS} {b c : B3} {q : SQ} {t : TX} {im : Nat} (hC : LC S b q t im c) (hM : LM S b q t im c) (hO : LO b q t im c) (kk : ∀ (S' : GS) (b' : B3) (q' : SQ) (t' : TX) (im' : Nat) (c' : B3), LC S' b' q' t' im' c' → LM S' b' q' t' im' c' → LO b' q' t' im' c' → Zj X S' [some (.ref sb), some (.ref (ad (xY X) 0)), some (.ref (ad (xY X) 178)), some (.int (nI i))] 1341 []) : Zj X S [some (.ref sb), some (.ref (ad (xY X) 0)), some (.ref (ad (xY X) 178)), some (.int (nI i))] 513 [] := by
  have hL := hB.2.2.2
  refine z_aload1 C dL_law_513 ?_
  refine z_aload0 C dL_law_514 ?_
  refine z_iload3 C dL_law_515 ?_
  refine z_iconstN 1 C dL_law_516 ?_
  refine z_iaddN C dL_law_517 ?_
  refine z_sld C hB dL_law_518 (by omega) ?_
  refine z_callVP C dL_law_519 (c_X7_drift hC.1 hO.1) gL_law_X7_drift md_X7_drift rfl (by decide) (k_EM _) rfl rfl rfl (Nat.le_of_ble_eq_true rfl) ?_
  rintro _ T ⟨rfl, hI, hf⟩
  have hC := lc_n hC hf hI
  have hM := LM_eq hM hO (eqm_fr hf (fun o z => by omega))
  refine z_aload2 C dL_law_522 ?_
  refine z_aload0 C dL_law_523 ?_
  refine z_iload3 C dL_law_524 ?_
  refine z_iconstN 1 C dL_law_525 ?_
  refine z_iaddN C dL_law_526 ?_
  refine z_sld C hB dL_law_527 (by omega) ?_
  refine z_callVP C dL_law_528 (c_X8_drift hM.1 hO.1) gL_law_X8_drift md_X8_drift rfl (by decide) (k_Model _) rfl rfl rfl (Nat.le_of_ble_eq_true rfl) ?_
  rintro _ U ⟨rfl, hJ, hf2⟩
  have hM := lm_n hM hO hf2 hJ
  have hC := LC_eq hC (eqc_n hf2)
  refine z_icmp_eq C 1341 dL_law_531 (by decide) (fun c531 => ?_) (fun c531 => ?_)
  · exact kk _ _ _ _ _ _ hC hM ⟨aDays_ok gOk_dr hO.1, hO.2⟩
  · exact absurd rfl c531

theorem md_X7_undo : MD yX7_undo wsX7_undo 0 1 (some .int) := ⟨_, _, rfl, by decide, by decide +kernel, by decide +kernel, by decide +kernel⟩
theorem md_X8_undo : MD yX8_undo wsX8_undo 0 1 (some .int) := ⟨_, _, rfl, by decide, by decide +kernel, by decide +kernel, by decide +kernel⟩
set_option maxHeartbeats 4000000 in
set_option maxRecDepth 100000 in
theorem law_undo {X : CX} {sb L : Nat} {f : Nat → Int32} (C : Cx X cL_law RL wsL_law 16) (hB : LX X sb L f) {ka kb : Nat} (hk : kSA (xA X) ka kb (xs X)) {i : Nat} (hi : i + 7 ≤ L) {S : GS} {b c : B3} {q : SQ} {t : TX} {im : Nat} (hC : LC S b q t im c) (hM : LM S b q t im c) (hO : LO b q t im c) (kk : ∀ (S' : GS) (b' : B3) (q' : SQ) (t' : TX) (im' : Nat) (c' : B3), LC S' b' q' t' im' c' → LM S' b' q' t' im' c' → LO b' q' t' im' c' → Zj X S' [some (.ref sb), some (.ref (ad (xY X) 0)), some (.ref (ad (xY X) 178)), some (.int (nI i))] 1341 []) : Zj X S [some (.ref sb), some (.ref (ad (xY X) 0)), some (.ref (ad (xY X) 178)), some (.int (nI i))] 536 [] := by
  have hL := hB.2.2.2
  refine z_aload1 C dL_law_536 ?_
  refine z_callVP C dL_law_537 (c_X7_undo hC.1 hO.1) gL_law_X7_undo md_X7_undo rfl (by decide) (k_EM _) rfl rfl rfl (Nat.le_of_ble_eq_true rfl) ?_
  rintro _ T ⟨rfl, hI, hf⟩
  have hC := lc_n hC hf hI
  have hM := LM_eq hM hO (eqm_fr hf (fun o z => by omega))
  refine z_aload2 C dL_law_540 ?_
  refine z_callVP C dL_law_541 (c_X8_undo hM.1 hO.1) gL_law_X8_undo md_X8_undo rfl (by decide) (k_Model _) rfl rfl rfl (Nat.le_of_ble_eq_true rfl) ?_
  rintro _ U ⟨rfl, hJ, hf2⟩
  have hM := lm_n hM hO hf2 hJ
  have hC := LC_eq hC (eqc_n hf2)
  refine z_icmp_eq C 1341 dL_law_544 (by decide) (fun c544 => ?_) (fun c544 => ?_)
  · exact kk _ _ _ _ _ _ hC hM ⟨aUndo_ok hO.1, hO.2⟩
  · exact absurd rfl c544

theorem md_X7_seed : MD yX7_seed wsX7_seed 1 3 (some .int) := ⟨_, _, rfl, by decide, by decide +kernel, by decide +kernel, by decide +kernel⟩
theorem md_X8_seed : MD yX8_seed wsX8_seed 1 3 (some .int) := ⟨_, _, rfl, by decide, by decide +kernel, by decide +kernel, by decide +kernel⟩
set_option maxHeartbeats 4000000 in
set_option maxRecDepth 100000 in
theorem law_seed {X : CX} {sb L : Nat} {f : Nat → Int32} (C : Cx X cL_law RL wsL_law 16) (hB : LX X sb L f) {ka kb : Nat} (hk : kSA (xA X) ka kb (xs X)) {i : Nat} (hi : i + 7 ≤ L) {S : GS} {b c : B3} {q : SQ} {t : TX} {im : Nat} (hC : LC S b q t im c) (hM : LM S b q t im c) (hO : LO b q t im c) (kk : ∀ (S' : GS) (b' : B3) (q' : SQ) (t' : TX) (im' : Nat) (c' : B3), LC S' b' q' t' im' c' → LM S' b' q' t' im' c' → LO b' q' t' im' c' → Zj X S' [some (.ref sb), some (.ref (ad (xY X) 0)), some (.ref (ad (xY X) 178)), some (.int (nI i))] 1341 []) : Zj X S [some (.ref sb), some (.ref (ad (xY X) 0)), some (.ref (ad (xY X) 178)), some (.int (nI i))] 549 [] := by
  have hL := hB.2.2.2
  refine z_aload1 C dL_law_549 ?_
  refine z_aload0 C dL_law_550 ?_
  refine z_iload3 C dL_law_551 ?_
  refine z_iconstN 1 C dL_law_552 ?_
  refine z_iaddN C dL_law_553 ?_
  refine z_sld C hB dL_law_554 (by omega) ?_
  refine z_callVP C dL_law_555 (c_X7_seed hC.1 hO.1) gL_law_X7_seed md_X7_seed rfl (by decide) (k_EM _) rfl rfl rfl (Nat.le_of_ble_eq_true rfl) ?_
  rintro _ T ⟨rfl, hI, hf⟩
  have hC := lc_n hC hf hI
  have hM := LM_eq hM hO (eqm_fr hf (fun o z => by omega))
  refine z_aload2 C dL_law_558 ?_
  refine z_aload0 C dL_law_559 ?_
  refine z_iload3 C dL_law_560 ?_
  refine z_iconstN 1 C dL_law_561 ?_
  refine z_iaddN C dL_law_562 ?_
  refine z_sld C hB dL_law_563 (by omega) ?_
  refine z_callVP C dL_law_564 (c_X8_seed hM.1 hO.1) gL_law_X8_seed md_X8_seed rfl (by decide) (k_Model _) rfl rfl rfl (Nat.le_of_ble_eq_true rfl) ?_
  rintro _ U ⟨rfl, hJ, hf2⟩
  have hM := lm_n hM hO hf2 hJ
  have hC := LC_eq hC (eqc_n hf2)
  refine z_icmp_eq C 1341 dL_law_567 (by decide) (fun c567 => ?_) (fun c567 => ?_)
  · exact kk _ _ _ _ _ _ hC hM ⟨aSeed_ok hO.1, hO.2⟩
  · exact absurd rfl c567

theorem md_X7_dark : MD yX7_dark wsX7_dark 2 3 (some .int) := ⟨_, _, rfl, by decide, by decide +kernel, by decide +kernel, by decide +kernel⟩
theorem md_X8_dark : MD yX8_dark wsX8_dark 2 3 (some .int) := ⟨_, _, rfl, by decide, by decide +kernel, by decide +kernel, by decide +kernel⟩
set_option maxHeartbeats 4000000 in
set_option maxRecDepth 100000 in
theorem law_dark {X : CX} {sb L : Nat} {f : Nat → Int32} (C : Cx X cL_law RL wsL_law 16) (hB : LX X sb L f) {ka kb : Nat} (hk : kSA (xA X) ka kb (xs X)) {i : Nat} (hi : i + 7 ≤ L) {S : GS} {b c : B3} {q : SQ} {t : TX} {im : Nat} (hC : LC S b q t im c) (hM : LM S b q t im c) (hO : LO b q t im c) (kk : ∀ (S' : GS) (b' : B3) (q' : SQ) (t' : TX) (im' : Nat) (c' : B3), LC S' b' q' t' im' c' → LM S' b' q' t' im' c' → LO b' q' t' im' c' → Zj X S' [some (.ref sb), some (.ref (ad (xY X) 0)), some (.ref (ad (xY X) 178)), some (.int (nI i))] 1341 []) : Zj X S [some (.ref sb), some (.ref (ad (xY X) 0)), some (.ref (ad (xY X) 178)), some (.int (nI i))] 572 [] := by
  have hL := hB.2.2.2
  refine z_aload1 C dL_law_572 ?_
  refine z_aload0 C dL_law_573 ?_
  refine z_iload3 C dL_law_574 ?_
  refine z_iconstN 1 C dL_law_575 ?_
  refine z_iaddN C dL_law_576 ?_
  refine z_sld C hB dL_law_577 (by omega) ?_
  refine z_aload0 C dL_law_578 ?_
  refine z_iload3 C dL_law_579 ?_
  refine z_iconstN 2 C dL_law_580 ?_
  refine z_iaddN C dL_law_581 ?_
  refine z_sld C hB dL_law_582 (by omega) ?_
  refine z_callVP C dL_law_583 (c_X7_dark hC.1.1 hO.1.1) gL_law_X7_dark md_X7_dark rfl (by decide) (k_EM _) rfl rfl rfl (Nat.le_of_ble_eq_true rfl) ?_
  rintro _ T ⟨rfl, hf⟩
  have hC := lc_ro hC hf
  have hM := LM_eq hM hO (eqm_fr hf (fun o z => by omega))
  refine z_aload2 C dL_law_586 ?_
  refine z_aload0 C dL_law_587 ?_
  refine z_iload3 C dL_law_588 ?_
  refine z_iconstN 1 C dL_law_589 ?_
  refine z_iaddN C dL_law_590 ?_
  refine z_sld C hB dL_law_591 (by omega) ?_
  refine z_aload0 C dL_law_592 ?_
  refine z_iload3 C dL_law_593 ?_
  refine z_iconstN 2 C dL_law_594 ?_
  refine z_iaddN C dL_law_595 ?_
  refine z_sld C hB dL_law_596 (by omega) ?_
  refine z_callVP C dL_law_597 (c_X8_dark hM.1.1 hO.1.1) gL_law_X8_dark md_X8_dark rfl (by decide) (k_Model _) rfl rfl rfl (Nat.le_of_ble_eq_true rfl) ?_
  rintro _ U ⟨rfl, hf2⟩
  have hM := lm_ro hM hO hf2
  have hC := LC_eq hC (eqc_m hf2)
  refine z_icmp_eq C 1341 dL_law_600 (by decide) (fun c600 => ?_) (fun c600 => ?_)
  · exact kk _ _ _ _ _ _ hC hM hO
  · exact absurd rfl c600

theorem md_X7_size : MD yX7_size wsX7_size 2 3 (some .int) := ⟨_, _, rfl, by decide, by decide +kernel, by decide +kernel, by decide +kernel⟩
theorem md_X8_size : MD yX8_size wsX8_size 2 3 (some .int) := ⟨_, _, rfl, by decide, by decide +kernel, by decide +kernel, by decide +kernel⟩
set_option maxHeartbeats 4000000 in
set_option maxRecDepth 100000 in
theorem law_size {X : CX} {sb L : Nat} {f : Nat → Int32} (C : Cx X cL_law RL wsL_law 16) (hB : LX X sb L f) {ka kb : Nat} (hk : kSA (xA X) ka kb (xs X)) {i : Nat} (hi : i + 7 ≤ L) {S : GS} {b c : B3} {q : SQ} {t : TX} {im : Nat} (hC : LC S b q t im c) (hM : LM S b q t im c) (hO : LO b q t im c) (kk : ∀ (S' : GS) (b' : B3) (q' : SQ) (t' : TX) (im' : Nat) (c' : B3), LC S' b' q' t' im' c' → LM S' b' q' t' im' c' → LO b' q' t' im' c' → Zj X S' [some (.ref sb), some (.ref (ad (xY X) 0)), some (.ref (ad (xY X) 178)), some (.int (nI i))] 1341 []) : Zj X S [some (.ref sb), some (.ref (ad (xY X) 0)), some (.ref (ad (xY X) 178)), some (.int (nI i))] 605 [] := by
  have hL := hB.2.2.2
  refine z_aload1 C dL_law_605 ?_
  refine z_aload0 C dL_law_606 ?_
  refine z_iload3 C dL_law_607 ?_
  refine z_iconstN 1 C dL_law_608 ?_
  refine z_iaddN C dL_law_609 ?_
  refine z_sld C hB dL_law_610 (by omega) ?_
  refine z_aload0 C dL_law_611 ?_
  refine z_iload3 C dL_law_612 ?_
  refine z_iconstN 2 C dL_law_613 ?_
  refine z_iaddN C dL_law_614 ?_
  refine z_sld C hB dL_law_615 (by omega) ?_
  refine z_callVP C dL_law_616 (c_X7_size hC.1.1 hO.1.1) gL_law_X7_size md_X7_size rfl (by decide) (k_EM _) rfl rfl rfl (Nat.le_of_ble_eq_true rfl) ?_
  rintro _ T ⟨rfl, hf⟩
  have hC := lc_ro hC hf
  have hM := LM_eq hM hO (eqm_fr hf (fun o z => by omega))
  refine z_aload2 C dL_law_619 ?_
  refine z_aload0 C dL_law_620 ?_
  refine z_iload3 C dL_law_621 ?_
  refine z_iconstN 1 C dL_law_622 ?_
  refine z_iaddN C dL_law_623 ?_
  refine z_sld C hB dL_law_624 (by omega) ?_
  refine z_aload0 C dL_law_625 ?_
  refine z_iload3 C dL_law_626 ?_
  refine z_iconstN 2 C dL_law_627 ?_
  refine z_iaddN C dL_law_628 ?_
  refine z_sld C hB dL_law_629 (by omega) ?_
  refine z_callVP C dL_law_630 (c_X8_size hM.1.1 hO.1.1) gL_law_X8_size md_X8_size rfl (by decide) (k_Model _) rfl rfl rfl (Nat.le_of_ble_eq_true rfl) ?_
  rintro _ U ⟨rfl, hf2⟩
  have hM := lm_ro hM hO hf2
  have hC := LC_eq hC (eqc_m hf2)
  refine z_icmp_eq C 1341 dL_law_633 (by decide) (fun c633 => ?_) (fun c633 => ?_)
  · exact kk _ _ _ _ _ _ hC hM hO
  · exact absurd rfl c633

theorem md_X7_then : MD yX7_then wsX7_then 2 3 (some .int) := ⟨_, _, rfl, by decide, by decide +kernel, by decide +kernel, by decide +kernel⟩
theorem md_X8_then : MD yX8_then wsX8_then 2 3 (some .int) := ⟨_, _, rfl, by decide, by decide +kernel, by decide +kernel, by decide +kernel⟩
set_option maxHeartbeats 4000000 in
set_option maxRecDepth 100000 in
theorem law_then {X : CX} {sb L : Nat} {f : Nat → Int32} (C : Cx X cL_law RL wsL_law 16) (hB : LX X sb L f) {ka kb : Nat} (hk : kSA (xA X) ka kb (xs X)) {i : Nat} (hi : i + 7 ≤ L) {S : GS} {b c : B3} {q : SQ} {t : TX} {im : Nat} (hC : LC S b q t im c) (hM : LM S b q t im c) (hO : LO b q t im c) (kk : ∀ (S' : GS) (b' : B3) (q' : SQ) (t' : TX) (im' : Nat) (c' : B3), LC S' b' q' t' im' c' → LM S' b' q' t' im' c' → LO b' q' t' im' c' → Zj X S' [some (.ref sb), some (.ref (ad (xY X) 0)), some (.ref (ad (xY X) 178)), some (.int (nI i))] 1341 []) : Zj X S [some (.ref sb), some (.ref (ad (xY X) 0)), some (.ref (ad (xY X) 178)), some (.int (nI i))] 638 [] := by
  have hL := hB.2.2.2
  refine z_aload1 C dL_law_638 ?_
  refine z_aload0 C dL_law_639 ?_
  refine z_iload3 C dL_law_640 ?_
  refine z_iconstN 1 C dL_law_641 ?_
  refine z_iaddN C dL_law_642 ?_
  refine z_sld C hB dL_law_643 (by omega) ?_
  refine z_aload0 C dL_law_644 ?_
  refine z_iload3 C dL_law_645 ?_
  refine z_iconstN 2 C dL_law_646 ?_
  refine z_iaddN C dL_law_647 ?_
  refine z_sld C hB dL_law_648 (by omega) ?_
  refine z_callVP C dL_law_649 (c_X7_then hC.1.1 hO.1.1) gL_law_X7_then md_X7_then rfl (by decide) (k_EM _) rfl rfl rfl (Nat.le_of_ble_eq_true rfl) ?_
  rintro _ T ⟨rfl, hf⟩
  have hC := lc_ro hC hf
  have hM := LM_eq hM hO (eqm_fr hf (fun o z => by omega))
  refine z_aload2 C dL_law_652 ?_
  refine z_aload0 C dL_law_653 ?_
  refine z_iload3 C dL_law_654 ?_
  refine z_iconstN 1 C dL_law_655 ?_
  refine z_iaddN C dL_law_656 ?_
  refine z_sld C hB dL_law_657 (by omega) ?_
  refine z_aload0 C dL_law_658 ?_
  refine z_iload3 C dL_law_659 ?_
  refine z_iconstN 2 C dL_law_660 ?_
  refine z_iaddN C dL_law_661 ?_
  refine z_sld C hB dL_law_662 (by omega) ?_
  refine z_callVP C dL_law_663 (c_X8_then hM.1.1 hO.1.1) gL_law_X8_then md_X8_then rfl (by decide) (k_Model _) rfl rfl rfl (Nat.le_of_ble_eq_true rfl) ?_
  rintro _ U ⟨rfl, hf2⟩
  have hM := lm_ro hM hO hf2
  have hC := LC_eq hC (eqc_m hf2)
  refine z_icmp_eq C 1341 dL_law_666 (by decide) (fun c666 => ?_) (fun c666 => ?_)
  · exact kk _ _ _ _ _ _ hC hM hO
  · exact absurd rfl c666

theorem md_X7_gone : MD yX7_gone wsX7_gone 1 3 (some .int) := ⟨_, _, rfl, by decide, by decide +kernel, by decide +kernel, by decide +kernel⟩
theorem md_X8_gone : MD yX8_gone wsX8_gone 1 3 (some .int) := ⟨_, _, rfl, by decide, by decide +kernel, by decide +kernel, by decide +kernel⟩
set_option maxHeartbeats 4000000 in
set_option maxRecDepth 100000 in
theorem law_gone {X : CX} {sb L : Nat} {f : Nat → Int32} (C : Cx X cL_law RL wsL_law 16) (hB : LX X sb L f) {ka kb : Nat} (hk : kSA (xA X) ka kb (xs X)) {i : Nat} (hi : i + 7 ≤ L) {S : GS} {b c : B3} {q : SQ} {t : TX} {im : Nat} (hC : LC S b q t im c) (hM : LM S b q t im c) (hO : LO b q t im c) (kk : ∀ (S' : GS) (b' : B3) (q' : SQ) (t' : TX) (im' : Nat) (c' : B3), LC S' b' q' t' im' c' → LM S' b' q' t' im' c' → LO b' q' t' im' c' → Zj X S' [some (.ref sb), some (.ref (ad (xY X) 0)), some (.ref (ad (xY X) 178)), some (.int (nI i))] 1341 []) : Zj X S [some (.ref sb), some (.ref (ad (xY X) 0)), some (.ref (ad (xY X) 178)), some (.int (nI i))] 671 [] := by
  have hL := hB.2.2.2
  refine z_aload1 C dL_law_671 ?_
  refine z_aload0 C dL_law_672 ?_
  refine z_iload3 C dL_law_673 ?_
  refine z_iconstN 1 C dL_law_674 ?_
  refine z_iaddN C dL_law_675 ?_
  refine z_sld C hB dL_law_676 (by omega) ?_
  refine z_callVP C dL_law_677 (c_X7_gone hC.1.1 hO.1.1) gL_law_X7_gone md_X7_gone rfl (by decide) (k_EM _) rfl rfl rfl (Nat.le_of_ble_eq_true rfl) ?_
  rintro _ T ⟨rfl, hf⟩
  have hC := lc_ro hC hf
  have hM := LM_eq hM hO (eqm_fr hf (fun o z => by omega))
  refine z_aload2 C dL_law_680 ?_
  refine z_aload0 C dL_law_681 ?_
  refine z_iload3 C dL_law_682 ?_
  refine z_iconstN 1 C dL_law_683 ?_
  refine z_iaddN C dL_law_684 ?_
  refine z_sld C hB dL_law_685 (by omega) ?_
  refine z_callVP C dL_law_686 (c_X8_gone hM.1.1 hO.1.1) gL_law_X8_gone md_X8_gone rfl (by decide) (k_Model _) rfl rfl rfl (Nat.le_of_ble_eq_true rfl) ?_
  rintro _ U ⟨rfl, hf2⟩
  have hM := lm_ro hM hO hf2
  have hC := LC_eq hC (eqc_m hf2)
  refine z_icmp_eq C 1341 dL_law_689 (by decide) (fun c689 => ?_) (fun c689 => ?_)
  · exact kk _ _ _ _ _ _ hC hM hO
  · exact absurd rfl c689
