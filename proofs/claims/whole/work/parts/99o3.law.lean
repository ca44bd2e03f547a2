theorem md_X7_needs : MD yX7_needs wsX7_needs 2 4 (some .int) := ⟨_, _, rfl, by decide, by decide +kernel, by decide +kernel, by decide +kernel⟩
theorem md_X8_needs : MD yX8_needs wsX8_needs 2 4 (some .int) := ⟨_, _, rfl, by decide, by decide +kernel, by decide +kernel, by decide +kernel⟩
set_option maxHeartbeats 4000000 in
set_option maxRecDepth 100000 in
theorem law_needs {X : CX} {sb L : Nat} {f : Nat → Int32} (C : Cx X cL_law RL wsL_law 16) (hB : LX X sb L f) {ka kb : Nat} (hk : kSA (xA X) ka kb (xs X)) {i : Nat} (hi : i + 7 ≤ L) {S : GS} {b c : B3} {q : SQ} {t : TX} {im : Nat} (hC : LC S b q t im c) (hM : LM S b q t im c) (hO : LO b q t im c) (kk : ∀ (S' : GS) (b' : B3) (q' : SQ) (t' : TX) (im' : Nat) (c' : B3), LC S' b' q' t' im' c' → LM S' b' q' t' im' c' → LO b' q' t' im' c' → Zj X S' [some (.ref sb), some (.ref (ad (xY X) 0)), some (.ref (ad (xY X) 178)), some (.int (nI i))] 1341 []) : Zj X S [some (.ref sb), some (.ref (ad (xY X) 0)), some (.ref (ad (xY X) 178)), some (.int (nI i))] 694 [] := by
  have hL := hB.2.2.2
  refine z_aload1 C dL_law_694 ?_
  refine z_aload0 C dL_law_695 ?_
  refine z_iload3 C dL_law_696 ?_
  refine z_iconstN 1 C dL_law_697 ?_
  refine z_iaddN C dL_law_698 ?_
  refine z_sld C hB dL_law_699 (by omega) ?_
  refine z_aload0 C dL_law_700 ?_
  refine z_iload3 C dL_law_701 ?_
  refine z_iconstN 2 C dL_law_702 ?_
  refine z_iaddN C dL_law_703 ?_
  refine z_sld C hB dL_law_704 (by omega) ?_
  refine z_callVP C dL_law_705 (c_X7_needs hC.1.1 hO.1.1) gL_law_X7_needs md_X7_needs rfl (by decide) (k_EM _) rfl rfl rfl (Nat.le_of_ble_eq_true rfl) ?_
  rintro _ T ⟨rfl, hf⟩
  have hC := lc_ro hC hf
  have hM := LM_eq hM hO (eqm_fr hf (fun o z => by omega))
  refine z_aload2 C dL_law_708 ?_
  refine z_aload0 C dL_law_709 ?_
  refine z_iload3 C dL_law_710 ?_
  refine z_iconstN 1 C dL_law_711 ?_
  refine z_iaddN C dL_law_712 ?_
  refine z_sld C hB dL_law_713 (by omega) ?_
  refine z_aload0 C dL_law_714 ?_
  refine z_iload3 C dL_law_715 ?_
  refine z_iconstN 2 C dL_law_716 ?_
  refine z_iaddN C dL_law_717 ?_
  refine z_sld C hB dL_law_718 (by omega) ?_
  refine z_callVP C dL_law_719 (c_X8_needs hM.1.1 hO.1.1) gL_law_X8_needs md_X8_needs rfl (by decide) (k_Model _) rfl rfl rfl (Nat.le_of_ble_eq_true rfl) ?_
  rintro _ U ⟨rfl, hf2⟩
  have hM := lm_ro hM hO hf2
  have hC := LC_eq hC (eqc_m hf2)
  refine z_icmp_eq C 1341 dL_law_722 (by decide) (fun c722 => ?_) (fun c722 => ?_)
  · exact kk _ _ _ _ _ _ hC hM hO
  · exact absurd rfl c722

theorem md_X7_sends : MD yX7_sends wsX7_sends 2 3 (some .int) := ⟨_, _, rfl, by decide, by decide +kernel, by decide +kernel, by decide +kernel⟩
theorem md_X8_sends : MD yX8_sends wsX8_sends 2 9 (some .int) := ⟨_, _, rfl, by decide, by decide +kernel, by decide +kernel, by decide +kernel⟩
set_option maxHeartbeats 4000000 in
set_option maxRecDepth 100000 in
theorem law_sends {X : CX} {sb L : Nat} {f : Nat → Int32} (C : Cx X cL_law RL wsL_law 16) (hB : LX X sb L f) {ka kb : Nat} (hk : kSA (xA X) ka kb (xs X)) {i : Nat} (hi : i + 7 ≤ L) {S : GS} {b c : B3} {q : SQ} {t : TX} {im : Nat} (hC : LC S b q t im c) (hM : LM S b q t im c) (hO : LO b q t im c) (kk : ∀ (S' : GS) (b' : B3) (q' : SQ) (t' : TX) (im' : Nat) (c' : B3), LC S' b' q' t' im' c' → LM S' b' q' t' im' c' → LO b' q' t' im' c' → Zj X S' [some (.ref sb), some (.ref (ad (xY X) 0)), some (.ref (ad (xY X) 178)), some (.int (nI i))] 1341 []) : Zj X S [some (.ref sb), some (.ref (ad (xY X) 0)), some (.ref (ad (xY X) 178)), some (.int (nI i))] 727 [] := by
  have hL := hB.2.2.2
  refine z_aload1 C dL_law_727 ?_
  refine z_aload0 C dL_law_728 ?_
  refine z_iload3 C dL_law_729 ?_
  refine z_iconstN 1 C dL_law_730 ?_
  refine z_iaddN C dL_law_731 ?_
  refine z_sld C hB dL_law_732 (by omega) ?_
  refine z_aload0 C dL_law_733 ?_
  refine z_iload3 C dL_law_734 ?_
  refine z_iconstN 2 C dL_law_735 ?_
  refine z_iaddN C dL_law_736 ?_
  refine z_sld C hB dL_law_737 (by omega) ?_
  refine z_callVP C dL_law_738 (c_X7_sends hC.1.1 hO.1.1) gL_law_X7_sends md_X7_sends rfl (by decide) (k_EM _) rfl rfl rfl (Nat.le_of_ble_eq_true rfl) ?_
  rintro _ T ⟨rfl, hf⟩
  have hC := lc_ro hC hf
  have hM := LM_eq hM hO (eqm_fr hf (fun o z => by omega))
  refine z_aload2 C dL_law_741 ?_
  refine z_aload0 C dL_law_742 ?_
  refine z_iload3 C dL_law_743 ?_
  refine z_iconstN 1 C dL_law_744 ?_
  refine z_iaddN C dL_law_745 ?_
  refine z_sld C hB dL_law_746 (by omega) ?_
  refine z_aload0 C dL_law_747 ?_
  refine z_iload3 C dL_law_748 ?_
  refine z_iconstN 2 C dL_law_749 ?_
  refine z_iaddN C dL_law_750 ?_
  refine z_sld C hB dL_law_751 (by omega) ?_
  refine z_callVP C dL_law_752 (c_X8_sends hM.1.1 hO.1.1) gL_law_X8_sends md_X8_sends rfl (by decide) (k_Model _) rfl rfl rfl (Nat.le_of_ble_eq_true rfl) ?_
  rintro _ U ⟨rfl, hf2⟩
  have hM := lm_ro hM hO hf2
  have hC := LC_eq hC (eqc_m hf2)
  refine z_icmp_eq C 1341 dL_law_755 (by decide) (fun c755 => ?_) (fun c755 => ?_)
  · exact kk _ _ _ _ _ _ hC hM hO
  · exact absurd rfl c755

theorem md_X7_round : MD yX7_round wsX7_round 2 3 (some .int) := ⟨_, _, rfl, by decide, by decide +kernel, by decide +kernel, by decide +kernel⟩
theorem md_X8_round : MD yX8_round wsX8_round 2 4 (some .int) := ⟨_, _, rfl, by decide, by decide +kernel, by decide +kernel, by decide +kernel⟩
set_option maxHeartbeats 4000000 in
set_option maxRecDepth 100000 in
theorem law_round {X : CX} {sb L : Nat} {f : Nat → Int32} (C : Cx X cL_law RL wsL_law 16) (hB : LX X sb L f) {ka kb : Nat} (hk : kSA (xA X) ka kb (xs X)) {i : Nat} (hi : i + 7 ≤ L) {S : GS} {b c : B3} {q : SQ} {t : TX} {im : Nat} (hC : LC S b q t im c) (hM : LM S b q t im c) (hO : LO b q t im c) (kk : ∀ (S' : GS) (b' : B3) (q' : SQ) (t' : TX) (im' : Nat) (c' : B3), LC S' b' q' t' im' c' → LM S' b' q' t' im' c' → LO b' q' t' im' c' → Zj X S' [some (.ref sb), some (.ref (ad (xY X) 0)), some (.ref (ad (xY X) 178)), some (.int (nI i))] 1341 []) : Zj X S [some (.ref sb), some (.ref (ad (xY X) 0)), some (.ref (ad (xY X) 178)), some (.int (nI i))] 760 [] := by
  have hL := hB.2.2.2
  refine z_aload1 C dL_law_760 ?_
  refine z_aload0 C dL_law_761 ?_
  refine z_iload3 C dL_law_762 ?_
  refine z_iconstN 1 C dL_law_763 ?_
  refine z_iaddN C dL_law_764 ?_
  refine z_sld C hB dL_law_765 (by omega) ?_
  refine z_aload0 C dL_law_766 ?_
  refine z_iload3 C dL_law_767 ?_
  refine z_iconstN 2 C dL_law_768 ?_
  refine z_iaddN C dL_law_769 ?_
  refine z_sld C hB dL_law_770 (by omega) ?_
  refine z_callVP C dL_law_771 (c_X7_round hC.1.1 hO.1.1) gL_law_X7_round md_X7_round rfl (by decide) (k_EM _) rfl rfl rfl (Nat.le_of_ble_eq_true rfl) ?_
  rintro _ T ⟨rfl, hf⟩
  have hC := lc_ro hC hf
  have hM := LM_eq hM hO (eqm_fr hf (fun o z => by omega))
  refine z_aload2 C dL_law_774 ?_
  refine z_aload0 C dL_law_775 ?_
  refine z_iload3 C dL_law_776 ?_
  refine z_iconstN 1 C dL_law_777 ?_
  refine z_iaddN C dL_law_778 ?_
  refine z_sld C hB dL_law_779 (by omega) ?_
  refine z_aload0 C dL_law_780 ?_
  refine z_iload3 C dL_law_781 ?_
  refine z_iconstN 2 C dL_law_782 ?_
  refine z_iaddN C dL_law_783 ?_
  refine z_sld C hB dL_law_784 (by omega) ?_
  refine z_callVP C dL_law_785 (c_X8_round hM.1.1 hO.1.1) gL_law_X8_round md_X8_round rfl (by decide) (k_Model _) rfl rfl rfl (Nat.le_of_ble_eq_true rfl) ?_
  rintro _ U ⟨rfl, hf2⟩
  have hM := lm_ro hM hO hf2
  have hC := LC_eq hC (eqc_m hf2)
  refine z_icmp_eq C 1341 dL_law_788 (by decide) (fun c788 => ?_) (fun c788 => ?_)
  · exact kk _ _ _ _ _ _ hC hM hO
  · exact absurd rfl c788

theorem md_X7_pair : MD yX7_pair wsX7_pair 2 3 (some .int) := ⟨_, _, rfl, by decide, by decide +kernel, by decide +kernel, by decide +kernel⟩
theorem md_X8_pair : MD yX8_pair wsX8_pair 2 14 (some .int) := ⟨_, _, rfl, by decide, by decide +kernel, by decide +kernel, by decide +kernel⟩
set_option maxHeartbeats 4000000 in
set_option maxRecDepth 100000 in
theorem law_pair {X : CX} {sb L : Nat} {f : Nat → Int32} (C : Cx X cL_law RL wsL_law 16) (hB : LX X sb L f) {ka kb : Nat} (hk : kSA (xA X) ka kb (xs X)) {i : Nat} (hi : i + 7 ≤ L) {S : GS} {b c : B3} {q : SQ} {t : TX} {im : Nat} (hC : LC S b q t im c) (hM : LM S b q t im c) (hO : LO b q t im c) (kk : ∀ (S' : GS) (b' : B3) (q' : SQ) (t' : TX) (im' : Nat) (c' : B3), LC S' b' q' t' im' c' → LM S' b' q' t' im' c' → LO b' q' t' im' c' → Zj X S' [some (.ref sb), some (.ref (ad (xY X) 0)), some (.ref (ad (xY X) 178)), some (.int (nI i))] 1341 []) : Zj X S [some (.ref sb), some (.ref (ad (xY X) 0)), some (.ref (ad (xY X) 178)), some (.int (nI i))] 793 [] := by
  have hL := hB.2.2.2
  refine z_aload1 C dL_law_793 ?_
  refine z_aload0 C dL_law_794 ?_
  refine z_iload3 C dL_law_795 ?_
  refine z_iconstN 1 C dL_law_796 ?_
  refine z_iaddN C dL_law_797 ?_
  refine z_sld C hB dL_law_798 (by omega) ?_
  refine z_aload0 C dL_law_799 ?_
  refine z_iload3 C dL_law_800 ?_
  refine z_iconstN 2 C dL_law_801 ?_
  refine z_iaddN C dL_law_802 ?_
  refine z_sld C hB dL_law_803 (by omega) ?_
  refine z_callVP C dL_law_804 (c_X7_pair hC.1.1 hO.1.1) gL_law_X7_pair md_X7_pair rfl (by decide) (k_EM _) rfl rfl rfl (Nat.le_of_ble_eq_true rfl) ?_
  rintro _ T ⟨rfl, hf⟩
  have hC := lc_ro hC hf
  have hM := LM_eq hM hO (eqm_fr hf (fun o z => by omega))
  refine z_aload2 C dL_law_807 ?_
  refine z_aload0 C dL_law_808 ?_
  refine z_iload3 C dL_law_809 ?_
  refine z_iconstN 1 C dL_law_810 ?_
  refine z_iaddN C dL_law_811 ?_
  refine z_sld C hB dL_law_812 (by omega) ?_
  refine z_aload0 C dL_law_813 ?_
  refine z_iload3 C dL_law_814 ?_
  refine z_iconstN 2 C dL_law_815 ?_
  refine z_iaddN C dL_law_816 ?_
  refine z_sld C hB dL_law_817 (by omega) ?_
  refine z_callVP C dL_law_818 (c_X8_pair hM.1.1 hO.1.1) gL_law_X8_pair md_X8_pair rfl (by decide) (k_Model _) rfl rfl rfl (Nat.le_of_ble_eq_true rfl) ?_
  rintro _ U ⟨rfl, hf2⟩
  have hM := lm_ro hM hO hf2
  have hC := LC_eq hC (eqc_m hf2)
  refine z_icmp_eq C 1341 dL_law_821 (by decide) (fun c821 => ?_) (fun c821 => ?_)
  · exact kk _ _ _ _ _ _ hC hM hO
  · exact absurd rfl c821

theorem md_X7_small : MD yX7_small wsX7_small 2 4 (some .int) := ⟨_, _, rfl, by decide, by decide +kernel, by decide +kernel, by decide +kernel⟩
theorem md_X8_small : MD yX8_small wsX8_small 2 4 (some .int) := ⟨_, _, rfl, by decide, by decide +kernel, by decide +kernel, by decide +kernel⟩
set_option maxHeartbeats 4000000 in
set_option maxRecDepth 100000 in
theorem law_small {X : CX} {sb L : Nat} {f : Nat → Int32} (C : Cx X cL_law RL wsL_law 16) (hB : LX X sb L f) {ka kb : Nat} (hk : kSA (xA X) ka kb (xs X)) {i : Nat} (hi : i + 7 ≤ L) {S : GS} {b c : B3} {q : SQ} {t : TX} {im : Nat} (hC : LC S b q t im c) (hM : LM S b q t im c) (hO : LO b q t im c) (kk : ∀ (S' : GS) (b' : B3) (q' : SQ) (t' : TX) (im' : Nat) (c' : B3), LC S' b' q' t' im' c' → LM S' b' q' t' im' c' → LO b' q' t' im' c' → Zj X S' [some (.ref sb), some (.ref (ad (xY X) 0)), some (.ref (ad (xY X) 178)), some (.int (nI i))] 1341 []) : Zj X S [some (.ref sb), some (.ref (ad (xY X) 0)), some (.ref (ad (xY X) 178)), some (.int (nI i))] 826 [] := by
  have hL := hB.2.2.2
  refine z_aload1 C dL_law_826 ?_
  refine z_aload0 C dL_law_827 ?_
  refine z_iload3 C dL_law_828 ?_
  refine z_iconstN 1 C dL_law_829 ?_
  refine z_iaddN C dL_law_830 ?_
  refine z_sld C hB dL_law_831 (by omega) ?_
  refine z_aload0 C dL_law_832 ?_
  refine z_iload3 C dL_law_833 ?_
  refine z_iconstN 2 C dL_law_834 ?_
  refine z_iaddN C dL_law_835 ?_
  refine z_sld C hB dL_law_836 (by omega) ?_
  refine z_callVP C dL_law_837 (c_X7_small hC.1.1 hO.1.1) gL_law_X7_small md_X7_small rfl (by decide) (k_EM _) rfl rfl rfl (Nat.le_of_ble_eq_true rfl) ?_
  rintro _ T ⟨rfl, hf⟩
  have hC := lc_ro hC hf
  have hM := LM_eq hM hO (eqm_fr hf (fun o z => by omega))
  refine z_aload2 C dL_law_840 ?_
  refine z_aload0 C dL_law_841 ?_
  refine z_iload3 C dL_law_842 ?_
  refine z_iconstN 1 C dL_law_843 ?_
  refine z_iaddN C dL_law_844 ?_
  refine z_sld C hB dL_law_845 (by omega) ?_
  refine z_aload0 C dL_law_846 ?_
  refine z_iload3 C dL_law_847 ?_
  refine z_iconstN 2 C dL_law_848 ?_
  refine z_iaddN C dL_law_849 ?_
  refine z_sld C hB dL_law_850 (by omega) ?_
  refine z_callVP C dL_law_851 (c_X8_small hM.1.1 hO.1.1) gL_law_X8_small md_X8_small rfl (by decide) (k_Model _) rfl rfl rfl (Nat.le_of_ble_eq_true rfl) ?_
  rintro _ U ⟨rfl, hf2⟩
  have hM := lm_ro hM hO hf2
  have hC := LC_eq hC (eqc_m hf2)
  refine z_icmp_eq C 1341 dL_law_854 (by decide) (fun c854 => ?_) (fun c854 => ?_)
  · exact kk _ _ _ _ _ _ hC hM hO
  · exact absurd rfl c854

theorem md_X7_slip : MD yX7_slip wsX7_slip 3 8 (some .int) := ⟨_, _, rfl, by decide, by decide +kernel, by decide +kernel, by decide +kernel⟩
theorem md_X8_slip : MD yX8_slip wsX8_slip 3 9 (some .int) := ⟨_, _, rfl, by decide, by decide +kernel, by decide +kernel, by decide +kernel⟩
set_option maxHeartbeats 4000000 in
set_option maxRecDepth 100000 in
theorem law_slip {X : CX} {sb L : Nat} {f : Nat → Int32} (C : Cx X cL_law RL wsL_law 16) (hB : LX X sb L f) {ka kb : Nat} (hk : kSA (xA X) ka kb (xs X)) {i : Nat} (hi : i + 7 ≤ L) {S : GS} {b c : B3} {q : SQ} {t : TX} {im : Nat} (hC : LC S b q t im c) (hM : LM S b q t im c) (hO : LO b q t im c) (kk : ∀ (S' : GS) (b' : B3) (q' : SQ) (t' : TX) (im' : Nat) (c' : B3), LC S' b' q' t' im' c' → LM S' b' q' t' im' c' → LO b' q' t' im' c' → Zj X S' [some (.ref sb), some (.ref (ad (xY X) 0)), some (.ref (ad (xY X) 178)), some (.int (nI i))] 1341 []) : Zj X S [some (.ref sb), some (.ref (ad (xY X) 0)), some (.ref (ad (xY X) 178)), some (.int (nI i))] 859 [] := by
  have hL := hB.2.2.2
  refine z_aload1 C dL_law_859 ?_
  refine z_aload0 C dL_law_860 ?_
  refine z_iload3 C dL_law_861 ?_
  refine z_iconstN 1 C dL_law_862 ?_
  refine z_iaddN C dL_law_863 ?_
  refine z_sld C hB dL_law_864 (by omega) ?_
  refine z_aload0 C dL_law_865 ?_
  refine z_iload3 C dL_law_866 ?_
  refine z_iconstN 2 C dL_law_867 ?_
  refine z_iaddN C dL_law_868 ?_
  refine z_sld C hB dL_law_869 (by omega) ?_
  refine z_aload0 C dL_law_870 ?_
  refine z_iload3 C dL_law_871 ?_
  refine z_iconstN 3 C dL_law_872 ?_
  refine z_iaddN C dL_law_873 ?_
  refine z_sld C hB dL_law_874 (by omega) ?_
  refine z_callVP C dL_law_875 (c_X7_slip hC.1.1 hO.1.1) gL_law_X7_slip md_X7_slip rfl (by decide) (k_EM _) rfl rfl rfl (Nat.le_of_ble_eq_true rfl) ?_
  rintro _ T ⟨rfl, hf⟩
  have hC := lc_ro hC hf
  have hM := LM_eq hM hO (eqm_fr hf (fun o z => by omega))
  refine z_aload2 C dL_law_878 ?_
  refine z_aload0 C dL_law_879 ?_
  refine z_iload3 C dL_law_880 ?_
  refine z_iconstN 1 C dL_law_881 ?_
  refine z_iaddN C dL_law_882 ?_
  refine z_sld C hB dL_law_883 (by omega) ?_
  refine z_aload0 C dL_law_884 ?_
  refine z_iload3 C dL_law_885 ?_
  refine z_iconstN 2 C dL_law_886 ?_
  refine z_iaddN C dL_law_887 ?_
  refine z_sld C hB dL_law_888 (by omega) ?_
  refine z_aload0 C dL_law_889 ?_
  refine z_iload3 C dL_law_890 ?_
  refine z_iconstN 3 C dL_law_891 ?_
  refine z_iaddN C dL_law_892 ?_
  refine z_sld C hB dL_law_893 (by omega) ?_
  refine z_callVP C dL_law_894 (c_X8_slip hM.1.1 hO.1.1) gL_law_X8_slip md_X8_slip rfl (by decide) (k_Model _) rfl rfl rfl (Nat.le_of_ble_eq_true rfl) ?_
  rintro _ U ⟨rfl, hf2⟩
  have hM := lm_ro hM hO hf2
  have hC := LC_eq hC (eqc_m hf2)
  refine z_icmp_eq C 1341 dL_law_897 (by decide) (fun c897 => ?_) (fun c897 => ?_)
  · exact kk _ _ _ _ _ _ hC hM hO
  · exact absurd rfl c897

theorem md_X7_image : MD yX7_image wsX7_image 0 1 (some .int) := ⟨_, _, rfl, by decide, by decide +kernel, by decide +kernel, by decide +kernel⟩
theorem md_X8_image : MD yX8_image wsX8_image 0 1 (some .int) := ⟨_, _, rfl, by decide, by decide +kernel, by decide +kernel, by decide +kernel⟩
set_option maxHeartbeats 4000000 in
set_option maxRecDepth 100000 in
theorem law_image {X : CX} {sb L : Nat} {f : Nat → Int32} (C : Cx X cL_law RL wsL_law 16) (hB : LX X sb L f) {ka kb : Nat} (hk : kSA (xA X) ka kb (xs X)) {i : Nat} (hi : i + 7 ≤ L) {S : GS} {b c : B3} {q : SQ} {t : TX} {im : Nat} (hC : LC S b q t im c) (hM : LM S b q t im c) (hO : LO b q t im c) (kk : ∀ (S' : GS) (b' : B3) (q' : SQ) (t' : TX) (im' : Nat) (c' : B3), LC S' b' q' t' im' c' → LM S' b' q' t' im' c' → LO b' q' t' im' c' → Zj X S' [some (.ref sb), some (.ref (ad (xY X) 0)), some (.ref (ad (xY X) 178)), some (.int (nI i))] 1341 []) : Zj X S [some (.ref sb), some (.ref (ad (xY X) 0)), some (.ref (ad (xY X) 178)), some (.int (nI i))] 902 [] := by
  have hL := hB.2.2.2
  refine z_aload1 C dL_law_902 ?_
  refine z_callVP C dL_law_903 (c_X7_image hC.1 hO.1) gL_law_X7_image md_X7_image rfl (by decide) (k_EM _) rfl rfl rfl (Nat.le_of_ble_eq_true rfl) ?_
  rintro _ T ⟨rfl, hI, hJ, h4, hf⟩
  have hC := lc_i hC hf hI hJ h4
  have hM := LM_eq hM hO (eqm_fr hf (fun o z => by omega))
  refine z_aload2 C dL_law_906 ?_
  refine z_callVP C dL_law_907 (c_X8_image hM.1 hO.1) gL_law_X8_image md_X8_image rfl (by decide) (k_Model _) rfl rfl rfl (Nat.le_of_ble_eq_true rfl) ?_
  rintro _ U ⟨rfl, hI2, hJ2, h1, hf2⟩
  have hM := lm_i hM hf2 hI2 hJ2 h1
  have hC := LC_eq hC (eqc_i hf2)
  refine z_icmp_eq C 1341 dL_law_910 (by decide) (fun c910 => ?_) (fun c910 => ?_)
  · exact kk _ _ _ _ _ _ hC hM ⟨hO.1, hO.2.1, hO.2.2.1, Nat.le_refl 1, fun _ => hO.1⟩
  · exact absurd rfl c910

theorem md_X7_restore : MD yX7_restore wsX7_restore 0 1 (some .int) := ⟨_, _, rfl, by decide, by decide +kernel, by decide +kernel, by decide +kernel⟩
theorem md_X8_restore : MD yX8_restore wsX8_restore 0 1 (some .int) := ⟨_, _, rfl, by decide, by decide +kernel, by decide +kernel, by decide +kernel⟩
set_option maxHeartbeats 4000000 in
set_option maxRecDepth 100000 in
theorem law_restore {X : CX} {sb L : Nat} {f : Nat → Int32} (C : Cx X cL_law RL wsL_law 16) (hB : LX X sb L f) {ka kb : Nat} (hk : kSA (xA X) ka kb (xs X)) {i : Nat} (hi : i + 7 ≤ L) {S : GS} {b c : B3} {q : SQ} {t : TX} {im : Nat} (hC : LC S b q t im c) (hM : LM S b q t im c) (hO : LO b q t im c) (kk : ∀ (S' : GS) (b' : B3) (q' : SQ) (t' : TX) (im' : Nat) (c' : B3), LC S' b' q' t' im' c' → LM S' b' q' t' im' c' → LO b' q' t' im' c' → Zj X S' [some (.ref sb), some (.ref (ad (xY X) 0)), some (.ref (ad (xY X) 178)), some (.int (nI i))] 1341 []) : Zj X S [some (.ref sb), some (.ref (ad (xY X) 0)), some (.ref (ad (xY X) 178)), some (.int (nI i))] 915 [] := by
  have hL := hB.2.2.2
  refine z_aload1 C dL_law_915 ?_
  refine z_callVP C dL_law_916 (c_X7_restore hO.2.2.2.1 hC.2.2.2.1 (fun z => ⟨hC.2.2.2.2 z, hO.2.2.2.2 z⟩)) gL_law_X7_restore md_X7_restore rfl (by decide) (k_EM _) rfl rfl rfl (Nat.le_of_ble_eq_true rfl) ?_
  rintro r1 T hE
  rcases hE with ⟨rfl, rfl, rfl⟩ | ⟨rfl, rfl, hI, hJ, hf⟩
  · refine z_aload2 C dL_law_919 ?_
    refine z_callVP C dL_law_920 (c_X8_restore hO.2.2.2.1 hM.2.2.2.1 (fun z => ⟨hM.2.2.2.2 z, hO.2.2.2.2 z⟩)) gL_law_X8_restore md_X8_restore rfl (by decide) (k_Model _) rfl rfl rfl (Nat.le_of_ble_eq_true rfl) ?_
    rintro r2 U hE2
    rcases hE2 with ⟨z, rfl, rfl⟩ | ⟨z, rfl, hI2, hJ2, hf2⟩
    · refine z_icmp_eq C 1341 dL_law_923 (by decide) (fun c923 => ?_) (fun c923 => ?_)
      · exact kk _ _ _ _ _ _ hC hM hO
      · exact absurd rfl c923
    · exact absurd z (by decide)
  · have hC := lc_s hC hf hI hJ
    have hM := LM_eq hM hO (eqm_fr hf (fun o z => by omega))
    refine z_aload2 C dL_law_919 ?_
    refine z_callVP C dL_law_920 (c_X8_restore hO.2.2.2.1 hM.2.2.2.1 (fun z => ⟨hM.2.2.2.2 z, hO.2.2.2.2 z⟩)) gL_law_X8_restore md_X8_restore rfl (by decide) (k_Model _) rfl rfl rfl (Nat.le_of_ble_eq_true rfl) ?_
    rintro r2 U hE2
    rcases hE2 with ⟨z, rfl, rfl⟩ | ⟨z, rfl, hI2, hJ2, hf2⟩
    · exact absurd z (by decide)
    · have hM := lm_s hM hf2 hI2 hJ2
      have hC := LC_eq hC (eqc_o hf2)
      refine z_icmp_eq C 1341 dL_law_923 (by decide) (fun c923 => ?_) (fun c923 => ?_)
      · exact kk _ _ _ _ _ _ hC hM ⟨hO.2.2.2.2 rfl, hO.2⟩
      · exact absurd rfl c923
