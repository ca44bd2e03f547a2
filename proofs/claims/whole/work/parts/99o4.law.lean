theorem md_X7_worn : MD yX7_worn wsX7_worn 6 8 (some .int) := ⟨_, _, rfl, by decide, by decide +kernel, by decide +kernel, by decide +kernel⟩
theorem md_X8_worn : MD yX8_worn wsX8_worn 6 12 (some .int) := ⟨_, _, rfl, by decide, by decide +kernel, by decide +kernel, by decide +kernel⟩
set_option maxHeartbeats 4000000 in
set_option maxRecDepth 100000 in
theorem law_worn {X : CX} {sb L : Nat} {f : Nat → Int32} (C : Cx X cL_law RL wsL_law 16) (hB : LX X sb L f) {ka kb : Nat} (hk : kSA (xA X) ka kb (xs X)) {i : Nat} (hi : i + 7 ≤ L) {S : GS} {b c : B3} {q : SQ} {t : TX} {im : Nat} (hC : LC S b q t im c) (hM : LM S b q t im c) (hO : LO b q t im c) (kk : ∀ (S' : GS) (b' : B3) (q' : SQ) (t' : TX) (im' : Nat) (c' : B3), LC S' b' q' t' im' c' → LM S' b' q' t' im' c' → LO b' q' t' im' c' → Zj X S' [some (.ref sb), some (.ref (ad (xY X) 0)), some (.ref (ad (xY X) 178)), some (.int (nI i))] 1341 []) : Zj X S [some (.ref sb), some (.ref (ad (xY X) 0)), some (.ref (ad (xY X) 178)), some (.int (nI i))] 928 [] := by
  have hL := hB.2.2.2
  refine z_aload1 C dL_law_928 ?_
  refine z_aload0 C dL_law_929 ?_
  refine z_iload3 C dL_law_930 ?_
  refine z_iconstN 1 C dL_law_931 ?_
  refine z_iaddN C dL_law_932 ?_
  refine z_sld C hB dL_law_933 (by omega) ?_
  refine z_aload0 C dL_law_934 ?_
  refine z_iload3 C dL_law_935 ?_
  refine z_iconstN 2 C dL_law_936 ?_
  refine z_iaddN C dL_law_937 ?_
  refine z_sld C hB dL_law_938 (by omega) ?_
  refine z_aload0 C dL_law_939 ?_
  refine z_iload3 C dL_law_940 ?_
  refine z_iconstN 3 C dL_law_941 ?_
  refine z_iaddN C dL_law_942 ?_
  refine z_sld C hB dL_law_943 (by omega) ?_
  refine z_aload0 C dL_law_944 ?_
  refine z_iload3 C dL_law_945 ?_
  refine z_iconstN 4 C dL_law_946 ?_
  refine z_iaddN C dL_law_947 ?_
  refine z_sld C hB dL_law_948 (by omega) ?_
  refine z_aload0 C dL_law_949 ?_
  refine z_iload3 C dL_law_950 ?_
  refine z_iconstN 5 C dL_law_951 ?_
  refine z_iaddN C dL_law_952 ?_
  refine z_sld C hB dL_law_953 (by omega) ?_
  refine z_aload0 C dL_law_954 ?_
  refine z_iload3 C dL_law_955 ?_
  refine z_bipush (v := nI 6) C dL_law_956 (by decide) ?_
  refine z_iaddN C dL_law_958 ?_
  refine z_sld C hB dL_law_959 (by omega) ?_
  refine z_callVP C dL_law_960 (c_X7_worn hC.1.1 hO.1.1 hC.2.1 hO.2.1) gL_law_X7_worn md_X7_worn rfl (by decide) (k_EM _) rfl rfl rfl (Nat.le_of_ble_eq_true rfl) ?_
  rintro _ T ⟨rfl, hf⟩
  have hC := lc_ro hC hf
  have hM := LM_eq hM hO (eqm_fr hf (fun o z => by omega))
  refine z_aload2 C dL_law_963 ?_
  refine z_aload0 C dL_law_964 ?_
  refine z_iload3 C dL_law_965 ?_
  refine z_iconstN 1 C dL_law_966 ?_
  refine z_iaddN C dL_law_967 ?_
  refine z_sld C hB dL_law_968 (by omega) ?_
  refine z_aload0 C dL_law_969 ?_
  refine z_iload3 C dL_law_970 ?_
  refine z_iconstN 2 C dL_law_971 ?_
  refine z_iaddN C dL_law_972 ?_
  refine z_sld C hB dL_law_973 (by omega) ?_
  refine z_aload0 C dL_law_974 ?_
  refine z_iload3 C dL_law_975 ?_
  refine z_iconstN 3 C dL_law_976 ?_
  refine z_iaddN C dL_law_977 ?_
  refine z_sld C hB dL_law_978 (by omega) ?_
  refine z_aload0 C dL_law_979 ?_
  refine z_iload3 C dL_law_980 ?_
  refine z_iconstN 4 C dL_law_981 ?_
  refine z_iaddN C dL_law_982 ?_
  refine z_sld C hB dL_law_983 (by omega) ?_
  refine z_aload0 C dL_law_984 ?_
  refine z_iload3 C dL_law_985 ?_
  refine z_iconstN 5 C dL_law_986 ?_
  refine z_iaddN C dL_law_987 ?_
  refine z_sld C hB dL_law_988 (by omega) ?_
  refine z_aload0 C dL_law_989 ?_
  refine z_iload3 C dL_law_990 ?_
  refine z_bipush (v := nI 6) C dL_law_991 (by decide) ?_
  refine z_iaddN C dL_law_993 ?_
  refine z_sld C hB dL_law_994 (by omega) ?_
  refine z_callVP C dL_law_995 (c_X8_worn hM.1.1 hO.1.1 hM.2.1 hO.2.1) gL_law_X8_worn md_X8_worn rfl (by decide) (k_Model _) rfl rfl rfl (Nat.le_of_ble_eq_true rfl) ?_
  rintro _ U ⟨rfl, hf2⟩
  have hM := lm_ro hM hO hf2
  have hC := LC_eq hC (eqc_m hf2)
  refine z_icmp_eq C 1341 dL_law_998 (by decide) (fun c998 => ?_) (fun c998 => ?_)
  · exact kk _ _ _ _ _ _ hC hM hO
  · exact absurd rfl c998

theorem md_X7_swept : MD yX7_swept wsX7_swept 5 9 (some .int) := ⟨_, _, rfl, by decide, by decide +kernel, by decide +kernel, by decide +kernel⟩
theorem md_X8_swept : MD yX8_swept wsX8_swept 5 10 (some .int) := ⟨_, _, rfl, by decide, by decide +kernel, by decide +kernel, by decide +kernel⟩
set_option maxHeartbeats 4000000 in
set_option maxRecDepth 100000 in
theorem law_swept {X : CX} {sb L : Nat} {f : Nat → Int32} (C : Cx X cL_law RL wsL_law 16) (hB : LX X sb L f) {ka kb : Nat} (hk : kSA (xA X) ka kb (xs X)) {i : Nat} (hi : i + 7 ≤ L) {S : GS} {b c : B3} {q : SQ} {t : TX} {im : Nat} (hC : LC S b q t im c) (hM : LM S b q t im c) (hO : LO b q t im c) (kk : ∀ (S' : GS) (b' : B3) (q' : SQ) (t' : TX) (im' : Nat) (c' : B3), LC S' b' q' t' im' c' → LM S' b' q' t' im' c' → LO b' q' t' im' c' → Zj X S' [some (.ref sb), some (.ref (ad (xY X) 0)), some (.ref (ad (xY X) 178)), some (.int (nI i))] 1341 []) : Zj X S [some (.ref sb), some (.ref (ad (xY X) 0)), some (.ref (ad (xY X) 178)), some (.int (nI i))] 1003 [] := by
  have hL := hB.2.2.2
  refine z_aload1 C dL_law_1003 ?_
  refine z_aload0 C dL_law_1004 ?_
  refine z_iload3 C dL_law_1005 ?_
  refine z_iconstN 1 C dL_law_1006 ?_
  refine z_iaddN C dL_law_1007 ?_
  refine z_sld C hB dL_law_1008 (by omega) ?_
  refine z_aload0 C dL_law_1009 ?_
  refine z_iload3 C dL_law_1010 ?_
  refine z_iconstN 2 C dL_law_1011 ?_
  refine z_iaddN C dL_law_1012 ?_
  refine z_sld C hB dL_law_1013 (by omega) ?_
  refine z_aload0 C dL_law_1014 ?_
  refine z_iload3 C dL_law_1015 ?_
  refine z_iconstN 3 C dL_law_1016 ?_
  refine z_iaddN C dL_law_1017 ?_
  refine z_sld C hB dL_law_1018 (by omega) ?_
  refine z_aload0 C dL_law_1019 ?_
  refine z_iload3 C dL_law_1020 ?_
  refine z_iconstN 4 C dL_law_1021 ?_
  refine z_iaddN C dL_law_1022 ?_
  refine z_sld C hB dL_law_1023 (by omega) ?_
  refine z_aload0 C dL_law_1024 ?_
  refine z_iload3 C dL_law_1025 ?_
  refine z_iconstN 5 C dL_law_1026 ?_
  refine z_iaddN C dL_law_1027 ?_
  refine z_sld C hB dL_law_1028 (by omega) ?_
  refine z_callVP C dL_law_1029 (c_X7_swept hC.2.1 hO.2.1) gL_law_X7_swept md_X7_swept rfl (by decide) (k_EM _) rfl rfl rfl (Nat.le_of_ble_eq_true rfl) ?_
  rintro _ T ⟨rfl, hf⟩
  have hC := lc_ro hC hf
  have hM := LM_eq hM hO (eqm_fr hf (fun o z => by omega))
  refine z_aload2 C dL_law_1032 ?_
  refine z_aload0 C dL_law_1033 ?_
  refine z_iload3 C dL_law_1034 ?_
  refine z_iconstN 1 C dL_law_1035 ?_
  refine z_iaddN C dL_law_1036 ?_
  refine z_sld C hB dL_law_1037 (by omega) ?_
  refine z_aload0 C dL_law_1038 ?_
  refine z_iload3 C dL_law_1039 ?_
  refine z_iconstN 2 C dL_law_1040 ?_
  refine z_iaddN C dL_law_1041 ?_
  refine z_sld C hB dL_law_1042 (by omega) ?_
  refine z_aload0 C dL_law_1043 ?_
  refine z_iload3 C dL_law_1044 ?_
  refine z_iconstN 3 C dL_law_1045 ?_
  refine z_iaddN C dL_law_1046 ?_
  refine z_sld C hB dL_law_1047 (by omega) ?_
  refine z_aload0 C dL_law_1048 ?_
  refine z_iload3 C dL_law_1049 ?_
  refine z_iconstN 4 C dL_law_1050 ?_
  refine z_iaddN C dL_law_1051 ?_
  refine z_sld C hB dL_law_1052 (by omega) ?_
  refine z_aload0 C dL_law_1053 ?_
  refine z_iload3 C dL_law_1054 ?_
  refine z_iconstN 5 C dL_law_1055 ?_
  refine z_iaddN C dL_law_1056 ?_
  refine z_sld C hB dL_law_1057 (by omega) ?_
  refine z_callVP C dL_law_1058 (c_X8_swept hM.2.1 hO.2.1) gL_law_X8_swept md_X8_swept rfl (by decide) (k_Model _) rfl rfl rfl (Nat.le_of_ble_eq_true rfl) ?_
  rintro _ U ⟨rfl, hf2⟩
  have hM := lm_ro hM hO hf2
  have hC := LC_eq hC (eqc_m hf2)
  refine z_icmp_eq C 1341 dL_law_1061 (by decide) (fun c1061 => ?_) (fun c1061 => ?_)
  · exact kk _ _ _ _ _ _ hC hM hO
  · exact absurd rfl c1061

theorem md_X7_film : MD yX7_film wsX7_film 5 8 (some .int) := ⟨_, _, rfl, by decide, by decide +kernel, by decide +kernel, by decide +kernel⟩
theorem md_X8_film : MD yX8_film wsX8_film 5 8 (some .int) := ⟨_, _, rfl, by decide, by decide +kernel, by decide +kernel, by decide +kernel⟩
set_option maxHeartbeats 4000000 in
set_option maxRecDepth 100000 in
theorem law_film {X : CX} {sb L : Nat} {f : Nat → Int32} (C : Cx X cL_law RL wsL_law 16) (hB : LX X sb L f) {ka kb : Nat} (hk : kSA (xA X) ka kb (xs X)) {i : Nat} (hi : i + 7 ≤ L) {S : GS} {b c : B3} {q : SQ} {t : TX} {im : Nat} (hC : LC S b q t im c) (hM : LM S b q t im c) (hO : LO b q t im c) (kk : ∀ (S' : GS) (b' : B3) (q' : SQ) (t' : TX) (im' : Nat) (c' : B3), LC S' b' q' t' im' c' → LM S' b' q' t' im' c' → LO b' q' t' im' c' → Zj X S' [some (.ref sb), some (.ref (ad (xY X) 0)), some (.ref (ad (xY X) 178)), some (.int (nI i))] 1341 []) : Zj X S [some (.ref sb), some (.ref (ad (xY X) 0)), some (.ref (ad (xY X) 178)), some (.int (nI i))] 1066 [] := by
  have hL := hB.2.2.2
  refine z_aload1 C dL_law_1066 ?_
  refine z_aload0 C dL_law_1067 ?_
  refine z_iload3 C dL_law_1068 ?_
  refine z_iconstN 1 C dL_law_1069 ?_
  refine z_iaddN C dL_law_1070 ?_
  refine z_sld C hB dL_law_1071 (by omega) ?_
  refine z_aload0 C dL_law_1072 ?_
  refine z_iload3 C dL_law_1073 ?_
  refine z_iconstN 2 C dL_law_1074 ?_
  refine z_iaddN C dL_law_1075 ?_
  refine z_sld C hB dL_law_1076 (by omega) ?_
  refine z_aload0 C dL_law_1077 ?_
  refine z_iload3 C dL_law_1078 ?_
  refine z_iconstN 3 C dL_law_1079 ?_
  refine z_iaddN C dL_law_1080 ?_
  refine z_sld C hB dL_law_1081 (by omega) ?_
  refine z_aload0 C dL_law_1082 ?_
  refine z_iload3 C dL_law_1083 ?_
  refine z_iconstN 4 C dL_law_1084 ?_
  refine z_iaddN C dL_law_1085 ?_
  refine z_sld C hB dL_law_1086 (by omega) ?_
  refine z_aload0 C dL_law_1087 ?_
  refine z_iload3 C dL_law_1088 ?_
  refine z_iconstN 5 C dL_law_1089 ?_
  refine z_iaddN C dL_law_1090 ?_
  refine z_sld C hB dL_law_1091 (by omega) ?_
  refine z_callVP C dL_law_1092 (c_X7_film hC.1.1 hO.1.1 hC.2.1 hO.2.1) gL_law_X7_film md_X7_film rfl (by decide) (k_EM _) rfl rfl rfl (Nat.le_of_ble_eq_true rfl) ?_
  rintro _ T ⟨rfl, hQ, hf⟩
  have hC := lc_q hC hf hQ
  have hM := LM_eq hM hO (eqm_q hf)
  refine z_aload2 C dL_law_1095 ?_
  refine z_aload0 C dL_law_1096 ?_
  refine z_iload3 C dL_law_1097 ?_
  refine z_iconstN 1 C dL_law_1098 ?_
  refine z_iaddN C dL_law_1099 ?_
  refine z_sld C hB dL_law_1100 (by omega) ?_
  refine z_aload0 C dL_law_1101 ?_
  refine z_iload3 C dL_law_1102 ?_
  refine z_iconstN 2 C dL_law_1103 ?_
  refine z_iaddN C dL_law_1104 ?_
  refine z_sld C hB dL_law_1105 (by omega) ?_
  refine z_aload0 C dL_law_1106 ?_
  refine z_iload3 C dL_law_1107 ?_
  refine z_iconstN 3 C dL_law_1108 ?_
  refine z_iaddN C dL_law_1109 ?_
  refine z_sld C hB dL_law_1110 (by omega) ?_
  refine z_aload0 C dL_law_1111 ?_
  refine z_iload3 C dL_law_1112 ?_
  refine z_iconstN 4 C dL_law_1113 ?_
  refine z_iaddN C dL_law_1114 ?_
  refine z_sld C hB dL_law_1115 (by omega) ?_
  refine z_aload0 C dL_law_1116 ?_
  refine z_iload3 C dL_law_1117 ?_
  refine z_iconstN 5 C dL_law_1118 ?_
  refine z_iaddN C dL_law_1119 ?_
  refine z_sld C hB dL_law_1120 (by omega) ?_
  refine z_callVP C dL_law_1121 (c_X8_film hM.1.1 hO.1.1 hM.2.1 hO.2.1) gL_law_X8_film md_X8_film rfl (by decide) (k_Model _) rfl rfl rfl (Nat.le_of_ble_eq_true rfl) ?_
  rintro _ U ⟨rfl, hR, hf2⟩
  have hM := lm_q hM hO hf2 hR
  have hC := LC_eq hC (eqc_q hf2)
  refine z_icmp_eq C 1341 dL_law_1124 (by decide) (fun c1124 => ?_) (fun c1124 => ?_)
  · exact kk _ _ _ _ _ _ hC hM ⟨hO.1, aFilm_ok hO.2.1, hO.2.2⟩
  · exact absurd rfl c1124

theorem md_X7_sheet : MD yX7_sheet wsX7_sheet 3 4 (some .int) := ⟨_, _, rfl, by decide, by decide +kernel, by decide +kernel, by decide +kernel⟩
theorem md_X8_sheet : MD yX8_sheet wsX8_sheet 3 5 (some .int) := ⟨_, _, rfl, by decide, by decide +kernel, by decide +kernel, by decide +kernel⟩
set_option maxHeartbeats 4000000 in
set_option maxRecDepth 100000 in
theorem law_sheet {X : CX} {sb L : Nat} {f : Nat → Int32} (C : Cx X cL_law RL wsL_law 16) (hB : LX X sb L f) {ka kb : Nat} (hk : kSA (xA X) ka kb (xs X)) {i : Nat} (hi : i + 7 ≤ L) {S : GS} {b c : B3} {q : SQ} {t : TX} {im : Nat} (hC : LC S b q t im c) (hM : LM S b q t im c) (hO : LO b q t im c) (kk : ∀ (S' : GS) (b' : B3) (q' : SQ) (t' : TX) (im' : Nat) (c' : B3), LC S' b' q' t' im' c' → LM S' b' q' t' im' c' → LO b' q' t' im' c' → Zj X S' [some (.ref sb), some (.ref (ad (xY X) 0)), some (.ref (ad (xY X) 178)), some (.int (nI i))] 1341 []) : Zj X S [some (.ref sb), some (.ref (ad (xY X) 0)), some (.ref (ad (xY X) 178)), some (.int (nI i))] 1129 [] := by
  have hL := hB.2.2.2
  refine z_aload1 C dL_law_1129 ?_
  refine z_aload0 C dL_law_1130 ?_
  refine z_iload3 C dL_law_1131 ?_
  refine z_iconstN 1 C dL_law_1132 ?_
  refine z_iaddN C dL_law_1133 ?_
  refine z_sld C hB dL_law_1134 (by omega) ?_
  refine z_aload0 C dL_law_1135 ?_
  refine z_iload3 C dL_law_1136 ?_
  refine z_iconstN 2 C dL_law_1137 ?_
  refine z_iaddN C dL_law_1138 ?_
  refine z_sld C hB dL_law_1139 (by omega) ?_
  refine z_aload0 C dL_law_1140 ?_
  refine z_iload3 C dL_law_1141 ?_
  refine z_iconstN 3 C dL_law_1142 ?_
  refine z_iaddN C dL_law_1143 ?_
  refine z_sld C hB dL_law_1144 (by omega) ?_
  refine z_callVP C dL_law_1145 (c_X7_sheet hC.2.1 hO.2.1) gL_law_X7_sheet md_X7_sheet rfl (by decide) (k_EM _) rfl rfl rfl (Nat.le_of_ble_eq_true rfl) ?_
  rintro _ T ⟨rfl, hQ, hf⟩
  have hC := lc_q hC hf hQ
  have hM := LM_eq hM hO (eqm_q hf)
  refine z_aload2 C dL_law_1148 ?_
  refine z_aload0 C dL_law_1149 ?_
  refine z_iload3 C dL_law_1150 ?_
  refine z_iconstN 1 C dL_law_1151 ?_
  refine z_iaddN C dL_law_1152 ?_
  refine z_sld C hB dL_law_1153 (by omega) ?_
  refine z_aload0 C dL_law_1154 ?_
  refine z_iload3 C dL_law_1155 ?_
  refine z_iconstN 2 C dL_law_1156 ?_
  refine z_iaddN C dL_law_1157 ?_
  refine z_sld C hB dL_law_1158 (by omega) ?_
  refine z_aload0 C dL_law_1159 ?_
  refine z_iload3 C dL_law_1160 ?_
  refine z_iconstN 3 C dL_law_1161 ?_
  refine z_iaddN C dL_law_1162 ?_
  refine z_sld C hB dL_law_1163 (by omega) ?_
  refine z_callVP C dL_law_1164 (c_X8_sheet hM.2.1 hO.2.1) gL_law_X8_sheet md_X8_sheet rfl (by decide) (k_Model _) rfl rfl rfl (Nat.le_of_ble_eq_true rfl) ?_
  rintro _ U ⟨rfl, hR, hf2⟩
  have hM := lm_q hM hO hf2 hR
  have hC := LC_eq hC (eqc_q hf2)
  refine z_icmp_eq C 1341 dL_law_1167 (by decide) (fun c1167 => ?_) (fun c1167 => ?_)
  · exact kk _ _ _ _ _ _ hC hM ⟨hO.1, aSheet_ok hO.2.1, hO.2.2⟩
  · exact absurd rfl c1167

theorem md_X7_drop : MD yX7_drop wsX7_drop 1 3 (some .int) := ⟨_, _, rfl, by decide, by decide +kernel, by decide +kernel, by decide +kernel⟩
theorem md_X8_drop : MD yX8_drop wsX8_drop 1 3 (some .int) := ⟨_, _, rfl, by decide, by decide +kernel, by decide +kernel, by decide +kernel⟩
set_option maxHeartbeats 4000000 in
set_option maxRecDepth 100000 in
theorem law_drop {X : CX} {sb L : Nat} {f : Nat → Int32} (C : Cx X cL_law RL wsL_law 16) (hB : LX X sb L f) {ka kb : Nat} (hk : kSA (xA X) ka kb (xs X)) {i : Nat} (hi : i + 7 ≤ L) {S : GS} {b c : B3} {q : SQ} {t : TX} {im : Nat} (hC : LC S b q t im c) (hM : LM S b q t im c) (hO : LO b q t im c) (kk : ∀ (S' : GS) (b' : B3) (q' : SQ) (t' : TX) (im' : Nat) (c' : B3), LC S' b' q' t' im' c' → LM S' b' q' t' im' c' → LO b' q' t' im' c' → Zj X S' [some (.ref sb), some (.ref (ad (xY X) 0)), some (.ref (ad (xY X) 178)), some (.int (nI i))] 1341 []) : Zj X S [some (.ref sb), some (.ref (ad (xY X) 0)), some (.ref (ad (xY X) 178)), some (.int (nI i))] 1172 [] := by
  have hL := hB.2.2.2
  refine z_aload1 C dL_law_1172 ?_
  refine z_aload0 C dL_law_1173 ?_
  refine z_iload3 C dL_law_1174 ?_
  refine z_iconstN 1 C dL_law_1175 ?_
  refine z_iaddN C dL_law_1176 ?_
  refine z_sld C hB dL_law_1177 (by omega) ?_
  refine z_callVP C dL_law_1178 (c_X7_drop hC.2.1 hO.2.1) gL_law_X7_drop md_X7_drop rfl (by decide) (k_EM _) rfl rfl rfl (Nat.le_of_ble_eq_true rfl) ?_
  rintro _ T ⟨rfl, hQ, hf⟩
  have hC := lc_q hC hf hQ
  have hM := LM_eq hM hO (eqm_q hf)
  refine z_aload2 C dL_law_1181 ?_
  refine z_aload0 C dL_law_1182 ?_
  refine z_iload3 C dL_law_1183 ?_
  refine z_iconstN 1 C dL_law_1184 ?_
  refine z_iaddN C dL_law_1185 ?_
  refine z_sld C hB dL_law_1186 (by omega) ?_
  refine z_callVP C dL_law_1187 (c_X8_drop hM.2.1 hO.2.1) gL_law_X8_drop md_X8_drop rfl (by decide) (k_Model _) rfl rfl rfl (Nat.le_of_ble_eq_true rfl) ?_
  rintro _ U ⟨rfl, hR, hf2⟩
  have hM := lm_q hM hO hf2 hR
  have hC := LC_eq hC (eqc_q hf2)
  refine z_icmp_eq C 1341 dL_law_1190 (by decide) (fun c1190 => ?_) (fun c1190 => ?_)
  · exact kk _ _ _ _ _ _ hC hM ⟨hO.1, aDrop_ok hO.2.1, hO.2.2⟩
  · exact absurd rfl c1190

theorem kl_L_law_143 : Cond.constantLong RL 143 (4294967295) ∈ wsL_law := by decide +kernel
theorem md_X7_item : MD yX7_item wsX7_item 4 7 (some .int) := ⟨_, _, rfl, by decide, by decide +kernel, by decide +kernel, by decide +kernel⟩
theorem md_X8_item : MD yX8_item wsX8_item 4 7 (some .int) := ⟨_, _, rfl, by decide, by decide +kernel, by decide +kernel, by decide +kernel⟩
set_option maxHeartbeats 4000000 in
set_option maxRecDepth 100000 in
theorem law_item {X : CX} {sb L : Nat} {f : Nat → Int32} (C : Cx X cL_law RL wsL_law 16) (hB : LX X sb L f) {ka kb : Nat} (hk : kSA (xA X) ka kb (xs X)) {i : Nat} (hi : i + 7 ≤ L) {S : GS} {b c : B3} {q : SQ} {t : TX} {im : Nat} (hC : LC S b q t im c) (hM : LM S b q t im c) (hO : LO b q t im c) (kk : ∀ (S' : GS) (b' : B3) (q' : SQ) (t' : TX) (im' : Nat) (c' : B3), LC S' b' q' t' im' c' → LM S' b' q' t' im' c' → LO b' q' t' im' c' → Zj X S' [some (.ref sb), some (.ref (ad (xY X) 0)), some (.ref (ad (xY X) 178)), some (.int (nI i))] 1341 []) : Zj X S [some (.ref sb), some (.ref (ad (xY X) 0)), some (.ref (ad (xY X) 178)), some (.int (nI i))] 1195 [] := by
  have hL := hB.2.2.2
  refine z_aload1 C dL_law_1195 ?_
  refine z_aload0 C dL_law_1196 ?_
  refine z_iload3 C dL_law_1197 ?_
  refine z_iconstN 1 C dL_law_1198 ?_
  refine z_iaddN C dL_law_1199 ?_
  refine z_sld C hB dL_law_1200 (by omega) ?_
  refine z_aload0 C dL_law_1201 ?_
  refine z_iload3 C dL_law_1202 ?_
  refine z_iconstN 2 C dL_law_1203 ?_
  refine z_iaddN C dL_law_1204 ?_
  refine z_sld C hB dL_law_1205 (by omega) ?_
  refine z_aload0 C dL_law_1206 ?_
  refine z_iload3 C dL_law_1207 ?_
  refine z_iconstN 3 C dL_law_1208 ?_
  refine z_iaddN C dL_law_1209 ?_
  refine z_sld C hB dL_law_1210 (by omega) ?_
  refine z_aload0 C dL_law_1211 ?_
  refine z_iload3 C dL_law_1212 ?_
  refine z_iconstN 4 C dL_law_1213 ?_
  refine z_iaddN C dL_law_1214 ?_
  refine z_sld C hB dL_law_1215 (by omega) ?_
  refine z_i2l C dL_law_1216 ?_
  refine z_bipush (v := nI 32) C dL_law_1217 (by decide) ?_
  refine z_lshl C dL_law_1219 ?_
  refine z_aload0 C dL_law_1220 ?_
  refine z_iload3 C dL_law_1221 ?_
  refine z_iconstN 5 C dL_law_1222 ?_
  refine z_iaddN C dL_law_1223 ?_
  refine z_sld C hB dL_law_1224 (by omega) ?_
  refine z_i2l C dL_law_1225 ?_
  refine z_ldc2 (v := 4294967295) C dL_law_1226 kl_L_law_143 ?_
  refine z_land C dL_law_1229 ?_
  refine z_lor C dL_law_1230 ?_
  refine z_callVP C dL_law_1231 (c_X7_item hC.2.1 hO.2.1) gL_law_X7_item md_X7_item rfl (by decide) (k_EM _) rfl rfl rfl (Nat.le_of_ble_eq_true rfl) ?_
  rintro _ T ⟨rfl, hQ, hf⟩
  have hC := lc_q hC hf hQ
  have hM := LM_eq hM hO (eqm_q hf)
  refine z_aload2 C dL_law_1234 ?_
  refine z_aload0 C dL_law_1235 ?_
  refine z_iload3 C dL_law_1236 ?_
  refine z_iconstN 1 C dL_law_1237 ?_
  refine z_iaddN C dL_law_1238 ?_
  refine z_sld C hB dL_law_1239 (by omega) ?_
  refine z_aload0 C dL_law_1240 ?_
  refine z_iload3 C dL_law_1241 ?_
  refine z_iconstN 2 C dL_law_1242 ?_
  refine z_iaddN C dL_law_1243 ?_
  refine z_sld C hB dL_law_1244 (by omega) ?_
  refine z_aload0 C dL_law_1245 ?_
  refine z_iload3 C dL_law_1246 ?_
  refine z_iconstN 3 C dL_law_1247 ?_
  refine z_iaddN C dL_law_1248 ?_
  refine z_sld C hB dL_law_1249 (by omega) ?_
  refine z_aload0 C dL_law_1250 ?_
  refine z_iload3 C dL_law_1251 ?_
  refine z_iconstN 4 C dL_law_1252 ?_
  refine z_iaddN C dL_law_1253 ?_
  refine z_sld C hB dL_law_1254 (by omega) ?_
  refine z_i2l C dL_law_1255 ?_
  refine z_bipush (v := nI 32) C dL_law_1256 (by decide) ?_
  refine z_lshl C dL_law_1258 ?_
  refine z_aload0 C dL_law_1259 ?_
  refine z_iload3 C dL_law_1260 ?_
  refine z_iconstN 5 C dL_law_1261 ?_
  refine z_iaddN C dL_law_1262 ?_
  refine z_sld C hB dL_law_1263 (by omega) ?_
  refine z_i2l C dL_law_1264 ?_
  refine z_ldc2 (v := 4294967295) C dL_law_1265 kl_L_law_143 ?_
  refine z_land C dL_law_1268 ?_
  refine z_lor C dL_law_1269 ?_
  refine z_callVP C dL_law_1270 (c_X8_item hM.2.1 hO.2.1) gL_law_X8_item md_X8_item rfl (by decide) (k_Model _) rfl rfl rfl (Nat.le_of_ble_eq_true rfl) ?_
  rintro _ U ⟨rfl, hR, hf2⟩
  have hM := lm_q hM hO hf2 hR
  have hC := LC_eq hC (eqc_q hf2)
  refine z_icmp_eq C 1341 dL_law_1273 (by decide) (fun c1273 => ?_) (fun c1273 => ?_)
  · exact kk _ _ _ _ _ _ hC hM ⟨hO.1, aItem_ok hO.2.1, hO.2.2⟩
  · exact absurd rfl c1273

theorem md_X7_copy : MD yX7_copy wsX7_copy 5 8 (some .int) := ⟨_, _, rfl, by decide, by decide +kernel, by decide +kernel, by decide +kernel⟩
theorem md_X8_copy : MD yX8_copy wsX8_copy 5 7 (some .int) := ⟨_, _, rfl, by decide, by decide +kernel, by decide +kernel, by decide +kernel⟩
set_option maxHeartbeats 4000000 in
set_option maxRecDepth 100000 in
theorem law_copy {X : CX} {sb L : Nat} {f : Nat → Int32} (C : Cx X cL_law RL wsL_law 16) (hB : LX X sb L f) {ka kb : Nat} (hk : kSA (xA X) ka kb (xs X)) {i : Nat} (hi : i + 7 ≤ L) {S : GS} {b c : B3} {q : SQ} {t : TX} {im : Nat} (hC : LC S b q t im c) (hM : LM S b q t im c) (hO : LO b q t im c) (kk : ∀ (S' : GS) (b' : B3) (q' : SQ) (t' : TX) (im' : Nat) (c' : B3), LC S' b' q' t' im' c' → LM S' b' q' t' im' c' → LO b' q' t' im' c' → Zj X S' [some (.ref sb), some (.ref (ad (xY X) 0)), some (.ref (ad (xY X) 178)), some (.int (nI i))] 1341 []) : Zj X S [some (.ref sb), some (.ref (ad (xY X) 0)), some (.ref (ad (xY X) 178)), some (.int (nI i))] 1278 [] := by
  have hL := hB.2.2.2
  refine z_aload1 C dL_law_1278 ?_
  refine z_aload0 C dL_law_1279 ?_
  refine z_iload3 C dL_law_1280 ?_
  refine z_iconstN 1 C dL_law_1281 ?_
  refine z_iaddN C dL_law_1282 ?_
  refine z_sld C hB dL_law_1283 (by omega) ?_
  refine z_aload0 C dL_law_1284 ?_
  refine z_iload3 C dL_law_1285 ?_
  refine z_iconstN 2 C dL_law_1286 ?_
  refine z_iaddN C dL_law_1287 ?_
  refine z_sld C hB dL_law_1288 (by omega) ?_
  refine z_aload0 C dL_law_1289 ?_
  refine z_iload3 C dL_law_1290 ?_
  refine z_iconstN 3 C dL_law_1291 ?_
  refine z_iaddN C dL_law_1292 ?_
  refine z_sld C hB dL_law_1293 (by omega) ?_
  refine z_aload0 C dL_law_1294 ?_
  refine z_iload3 C dL_law_1295 ?_
  refine z_iconstN 4 C dL_law_1296 ?_
  refine z_iaddN C dL_law_1297 ?_
  refine z_sld C hB dL_law_1298 (by omega) ?_
  refine z_aload0 C dL_law_1299 ?_
  refine z_iload3 C dL_law_1300 ?_
  refine z_iconstN 5 C dL_law_1301 ?_
  refine z_iaddN C dL_law_1302 ?_
  refine z_sld C hB dL_law_1303 (by omega) ?_
  refine z_callVP C dL_law_1304 (c_X7_copy hC.2.1 hO.2.1) gL_law_X7_copy md_X7_copy rfl (by decide) (k_EM _) rfl rfl rfl (Nat.le_of_ble_eq_true rfl) ?_
  rintro _ T ⟨rfl, hQ, hf⟩
  have hC := lc_q hC hf hQ
  have hM := LM_eq hM hO (eqm_q hf)
  refine z_aload2 C dL_law_1307 ?_
  refine z_aload0 C dL_law_1308 ?_
  refine z_iload3 C dL_law_1309 ?_
  refine z_iconstN 1 C dL_law_1310 ?_
  refine z_iaddN C dL_law_1311 ?_
  refine z_sld C hB dL_law_1312 (by omega) ?_
  refine z_aload0 C dL_law_1313 ?_
  refine z_iload3 C dL_law_1314 ?_
  refine z_iconstN 2 C dL_law_1315 ?_
  refine z_iaddN C dL_law_1316 ?_
  refine z_sld C hB dL_law_1317 (by omega) ?_
  refine z_aload0 C dL_law_1318 ?_
  refine z_iload3 C dL_law_1319 ?_
  refine z_iconstN 3 C dL_law_1320 ?_
  refine z_iaddN C dL_law_1321 ?_
  refine z_sld C hB dL_law_1322 (by omega) ?_
  refine z_aload0 C dL_law_1323 ?_
  refine z_iload3 C dL_law_1324 ?_
  refine z_iconstN 4 C dL_law_1325 ?_
  refine z_iaddN C dL_law_1326 ?_
  refine z_sld C hB dL_law_1327 (by omega) ?_
  refine z_aload0 C dL_law_1328 ?_
  refine z_iload3 C dL_law_1329 ?_
  refine z_iconstN 5 C dL_law_1330 ?_
  refine z_iaddN C dL_law_1331 ?_
  refine z_sld C hB dL_law_1332 (by omega) ?_
  refine z_callVP C dL_law_1333 (c_X8_copy hM.2.1 hO.2.1) gL_law_X8_copy md_X8_copy rfl (by decide) (k_Model _) rfl rfl rfl (Nat.le_of_ble_eq_true rfl) ?_
  rintro _ U ⟨rfl, hR, hf2⟩
  have hM := lm_q hM hO hf2 hR
  have hC := LC_eq hC (eqc_q hf2)
  refine z_icmp_eq C 1341 dL_law_1336 (by decide) (fun c1336 => ?_) (fun c1336 => ?_)
  · exact kk _ _ _ _ _ _ hC hM ⟨hO.1, aCopy_ok hO.2.1, hO.2.2⟩
  · exact absurd rfl c1336
