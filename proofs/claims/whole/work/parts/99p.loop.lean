set_option maxHeartbeats 4000000 in
set_option maxRecDepth 100000 in
theorem law_loop {X : CX} {sb L : Nat} {f : Nat → Int32} (C : Cx X cL_law RL wsL_law 16) (hB : LX X sb L f) {ka kb : Nat} (hk : kSA (xA X) ka kb (xs X)) (hE : LE X sb) : ∀ (n i : Nat) (S : GS) (b c : B3) (q : SQ) (t : TX) (im : Nat), L + 1 ≤ i + n → i ≤ L + 7 → LC S b q t im c → LM S b q t im c → LO b q t im c → Zj X S [some (.ref sb), some (.ref (ad (xY X) 0)), some (.ref (ad (xY X) 178)), some (.int (nI i))] 18 [] := by
  have hL := hB.2.2.2
  intro n
  induction n with
  | zero =>
    intro i S b c q t im hn hi7 hC hM hO
    refine z_iload3 C dL_law_18 ?_
    refine z_aload0 C dL_law_19 ?_
    refine z_slen C hB dL_law_20 ?_
    refine z_bipush (v := nI 7) C dL_law_21 (by decide) ?_
    refine z_isub C dL_law_23 ?_
    refine z_icmp_gt C 1347 dL_law_24 (by decide) (fun c24 => ?_) (fun c24 => ?_)
    · refine z_iconstN 1 C dL_law_1347 ?_
      exact z_lend C hE dL_law_1348
    · exact absurd ((law_cmp hL (by omega)).mpr (by omega)) c24
  | succ n ih =>
    intro i S b c q t im hn hi7 hC hM hO
    refine z_iload3 C dL_law_18 ?_
    refine z_aload0 C dL_law_19 ?_
    refine z_slen C hB dL_law_20 ?_
    refine z_bipush (v := nI 7) C dL_law_21 (by decide) ?_
    refine z_isub C dL_law_23 ?_
    refine z_icmp_gt C 1347 dL_law_24 (by decide) (fun c24 => ?_) (fun c24 => ?_)
    · refine z_iconstN 1 C dL_law_1347 ?_
      exact z_lend C hE dL_law_1348
    · have hi : i + 7 ≤ L := Nat.le_of_not_lt (fun z => c24 ((law_cmp hL (by omega)).mpr z))
      have kk : ∀ (S' : GS) (b' : B3) (q' : SQ) (t' : TX) (im' : Nat) (c' : B3), LC S' b' q' t' im' c' → LM S' b' q' t' im' c' → LO b' q' t' im' c' → Zj X S' [some (.ref sb), some (.ref (ad (xY X) 0)), some (.ref (ad (xY X) 178)), some (.int (nI i))] 1341 [] := by
        intro S' b' q' t' im' c' hC' hM' hO'
        refine z_iinc3 C dL_law_1341 (show nI i + Int32.ofInt 7 = nI (i + 7) by rw [show Int32.ofInt 7 = nI 7 by decide, nI_add]) nl_r ?_
        refine z_goto C 18 dL_law_1344 (by decide) ?_
        exact ih (i + 7) S' b' c' q' t' im' (by omega) (by omega) hC' hM' hO'
      refine z_aload0 C dL_law_27 ?_
      refine z_iload3 C dL_law_28 ?_
      refine z_sld C hB dL_law_29 (by omega) ?_
      refine z_bipush (v := nI 63) C dL_law_30 (by decide) ?_
      refine z_iand C dL_law_32 ?_
      refine z_name (fun x e => ?_)
      rcases sw_all x 0 33 (by decide) with ⟨j, hj, rfl⟩ | o
      · rcases (show j = 0 ∨ j = 1 ∨ j = 2 ∨ j = 3 ∨ j = 4 ∨ j = 5 ∨ j = 6 ∨ j = 7 ∨ j = 8 ∨ j = 9 ∨ j = 10 ∨ j = 11 ∨ j = 12 ∨ j = 13 ∨ j = 14 ∨ j = 15 ∨ j = 16 ∨ j = 17 ∨ j = 18 ∨ j = 19 ∨ j = 20 ∨ j = 21 ∨ j = 22 ∨ j = 23 ∨ j = 24 ∨ j = 25 ∨ j = 26 ∨ j = 27 ∨ j = 28 ∨ j = 29 ∨ j = 30 ∨ j = 31 ∨ j = 32 by omega) with rfl | rfl | rfl | rfl | rfl | rfl | rfl | rfl | rfl | rfl | rfl | rfl | rfl | rfl | rfl | rfl | rfl | rfl | rfl | rfl | rfl | rfl | rfl | rfl | rfl | rfl | rfl | rfl | rfl | rfl | rfl | rfl | rfl
        · refine z_tabIn (off := 147) C 180 dL_law_33 (by decide) (by decide) (by decide) (by decide) ?_
          exact law_mark C hB hk hi hC hM hO kk
        · refine z_tabIn (off := 190) C 223 dL_law_33 (by decide) (by decide) (by decide) (by decide) ?_
          exact law_monk C hB hk hi hC hM hO kk
        · refine z_tabIn (off := 223) C 256 dL_law_33 (by decide) (by decide) (by decide) (by decide) ?_
          exact law_of C hB hk hi hC hM hO kk
        · refine z_tabIn (off := 256) C 289 dL_law_33 (by decide) (by decide) (by decide) (by decide) ?_
          exact law_at C hB hk hi hC hM hO kk
        · refine z_tabIn (off := 289) C 322 dL_law_33 (by decide) (by decide) (by decide) (by decide) ?_
          exact law_type C hB hk hi hC hM hO kk
        · refine z_tabIn (off := 312) C 345 dL_law_33 (by decide) (by decide) (by decide) (by decide) ?_
          exact law_rock C hB hk hi hC hM hO kk
        · refine z_tabIn (off := 325) C 358 dL_law_33 (by decide) (by decide) (by decide) (by decide) ?_
          exact law_count C hB hk hi hC hM hO kk
        · refine z_tabIn (off := 348) C 381 dL_law_33 (by decide) (by decide) (by decide) (by decide) ?_
          exact law_days C hB hk hi hC hM hO kk
        · refine z_tabIn (off := 371) C 404 dL_law_33 (by decide) (by decide) (by decide) (by decide) ?_
          exact law_send C hB hk hi hC hM hO kk
        · refine z_tabIn (off := 404) C 437 dL_law_33 (by decide) (by decide) (by decide) (by decide) ?_
          exact law_press C hB hk hi hC hM hO kk
        · refine z_tabIn (off := 447) C 480 dL_law_33 (by decide) (by decide) (by decide) (by decide) ?_
          exact law_ink C hB hk hi hC hM hO kk
        · refine z_tabIn (off := 480) C 513 dL_law_33 (by decide) (by decide) (by decide) (by decide) ?_
          exact law_drift C hB hk hi hC hM hO kk
        · refine z_tabIn (off := 503) C 536 dL_law_33 (by decide) (by decide) (by decide) (by decide) ?_
          exact law_undo C hB hk hi hC hM hO kk
        · refine z_tabIn (off := 516) C 549 dL_law_33 (by decide) (by decide) (by decide) (by decide) ?_
          exact law_seed C hB hk hi hC hM hO kk
        · refine z_tabIn (off := 539) C 572 dL_law_33 (by decide) (by decide) (by decide) (by decide) ?_
          exact law_dark C hB hk hi hC hM hO kk
        · refine z_tabIn (off := 572) C 605 dL_law_33 (by decide) (by decide) (by decide) (by decide) ?_
          exact law_size C hB hk hi hC hM hO kk
        · refine z_tabIn (off := 605) C 638 dL_law_33 (by decide) (by decide) (by decide) (by decide) ?_
          exact law_then C hB hk hi hC hM hO kk
        · refine z_tabIn (off := 638) C 671 dL_law_33 (by decide) (by decide) (by decide) (by decide) ?_
          exact law_gone C hB hk hi hC hM hO kk
        · refine z_tabIn (off := 661) C 694 dL_law_33 (by decide) (by decide) (by decide) (by decide) ?_
          exact law_needs C hB hk hi hC hM hO kk
        · refine z_tabIn (off := 694) C 727 dL_law_33 (by decide) (by decide) (by decide) (by decide) ?_
          exact law_sends C hB hk hi hC hM hO kk
        · refine z_tabIn (off := 727) C 760 dL_law_33 (by decide) (by decide) (by decide) (by decide) ?_
          exact law_round C hB hk hi hC hM hO kk
        · refine z_tabIn (off := 760) C 793 dL_law_33 (by decide) (by decide) (by decide) (by decide) ?_
          exact law_pair C hB hk hi hC hM hO kk
        · refine z_tabIn (off := 793) C 826 dL_law_33 (by decide) (by decide) (by decide) (by decide) ?_
          exact law_small C hB hk hi hC hM hO kk
        · refine z_tabIn (off := 826) C 859 dL_law_33 (by decide) (by decide) (by decide) (by decide) ?_
          exact law_slip C hB hk hi hC hM hO kk
        · refine z_tabIn (off := 869) C 902 dL_law_33 (by decide) (by decide) (by decide) (by decide) ?_
          exact law_image C hB hk hi hC hM hO kk
        · refine z_tabIn (off := 882) C 915 dL_law_33 (by decide) (by decide) (by decide) (by decide) ?_
          exact law_restore C hB hk hi hC hM hO kk
        · refine z_tabIn (off := 895) C 928 dL_law_33 (by decide) (by decide) (by decide) (by decide) ?_
          exact law_worn C hB hk hi hC hM hO kk
        · refine z_tabIn (off := 970) C 1003 dL_law_33 (by decide) (by decide) (by decide) (by decide) ?_
          exact law_swept C hB hk hi hC hM hO kk
        · refine z_tabIn (off := 1033) C 1066 dL_law_33 (by decide) (by decide) (by decide) (by decide) ?_
          exact law_film C hB hk hi hC hM hO kk
        · refine z_tabIn (off := 1096) C 1129 dL_law_33 (by decide) (by decide) (by decide) (by decide) ?_
          exact law_sheet C hB hk hi hC hM hO kk
        · refine z_tabIn (off := 1139) C 1172 dL_law_33 (by decide) (by decide) (by decide) (by decide) ?_
          exact law_drop C hB hk hi hC hM hO kk
        · refine z_tabIn (off := 1162) C 1195 dL_law_33 (by decide) (by decide) (by decide) (by decide) ?_
          exact law_item C hB hk hi hC hM hO kk
        · refine z_tabIn (off := 1245) C 1278 dL_law_33 (by decide) (by decide) (by decide) (by decide) ?_
          exact law_copy C hB hk hi hC hM hO kk
      · refine z_tabOut C 1341 dL_law_33 (by omega) (by decide) ?_
        exact kk _ _ _ _ _ _ hC hM hO
