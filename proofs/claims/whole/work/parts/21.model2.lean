def mR1 (S : GS) (r k m : Nat) : GS := stI S 179 (r + 5 + m) (lss (S.1 179 (r + 5 + m)) (lD (S.1 179 (r + 39 + k)) (S.1 179 (r + 23 + k))))
def mR2 (S : GS) (r k m : Nat) : GS := stI (mR1 S r k m) 179 (r + 23 + k) (lss (S.1 179 (r + 23 + k)) (wer (S.1 179 (r + 39 + k)) ((mR1 S r k m).1 179 (r + 33 + m))))
def mR3 (S : GS) (r k m : Nat) : GS := stI (mR2 S r k m) 179 (r + 4) ((mR2 S r k m).1 179 (r + 4) + (S.1 179 (r + 23 + k) - (mR2 S r k m).1 179 (r + 23 + k)))
def mR4 (S : GS) (r k m : Nat) : GS := stI (mR3 S r k m) 179 (r + 17 + m) (mw20 ((mR3 S r k m).1 179 (r + 17 + m) + wol (S.1 179 (r + 39 + k))))
def mRub (S : GS) (r k m : Nat) : GS := if (mR4 S r k m).1 179 (r + 5 + m) = 0 ∧ ¬ mT (mR4 S r k m) r m then stI (stI (mR4 S r k m) 179 (r + 5 + m) ((mR4 S r k m).1 179 (r + 11 + m))) 179 (r + 11 + m) (nI 0) else mR4 S r k m

set_option maxRecDepth 20000 in
theorem fl_X8_rubs_7 : FL RX8 wsX8_rubs 7 8 0 := ⟨RX8, TX8, 15, rfl, (fun w h => List.mem_cons_of_mem _ (List.mem_append_right _ h)), by decide, by decide +kernel⟩
theorem md_X8_lessDark : MD yX8_lessDark wsX8_lessDark 2 2 (some .int) := ⟨_, _, rfl, by decide, by decide +kernel, by decide +kernel, by decide +kernel⟩
theorem md_X8_less : MD yX8_less wsX8_less 2 2 (some .int) := ⟨_, _, rfl, by decide, by decide +kernel, by decide +kernel, by decide +kernel⟩
theorem md_X8_lessSize : MD yX8_lessSize wsX8_lessSize 2 2 (some .int) := ⟨_, _, rfl, by decide, by decide +kernel, by decide +kernel, by decide +kernel⟩
theorem md_X8_moreWool : MD yX8_moreWool wsX8_moreWool 1 1 (some .int) := ⟨_, _, rfl, by decide, by decide +kernel, by decide +kernel, by decide +kernel⟩
set_option maxHeartbeats 4000000 in
set_option maxRecDepth 100000 in
theorem c_X8_rubs {l : Launch} {Y : LY} {S : GS} {r k m : Nat} (hr0 : r ≤ 630) (hk : k < 5) (hm : m < 6) : CtV l yX8_rubs wsX8_rubs 2 Y [.ref (ad Y 178), .int (nI r), .int (nI k), .int (nI m)] S (mRub S r k m) := by
  refine mkV (cc := cX8_rubs) (maxL := 7) rfl rfl (Nat.le_of_ble_eq_true rfl) ?_
  intro X hl hY C hr
  subst hl
  subst hY
  show Zj X S [some (.ref (ad (xY X) 178)), some (.int (nI r)), some (.int (nI k)), some (.int (nI m)), none, none, none] 0 []
  refine z_aload0 C dX8_rubs_0 ?_
  refine z_get C dX8_rubs_1 fl_X8_rubs_7 (k_Model _) rfl ?_
  refine z_iload1 C dX8_rubs_4 ?_
  refine z_bipush (v := nI 39) C dX8_rubs_5 (by decide) ?_
  refine z_iaddN C dX8_rubs_7 ?_
  refine z_iload2 C dX8_rubs_8 ?_
  refine z_iaddN C dX8_rubs_9 ?_
  refine z_iald C dX8_rubs_10 (k_i179 _) (by omega) ?_
  refine z_istore4 C dX8_rubs_11 nl_i ?_
  refine z_aload0 C dX8_rubs_13 ?_
  refine z_get C dX8_rubs_14 fl_X8_rubs_7 (k_Model _) rfl ?_
  refine z_iload1 C dX8_rubs_17 ?_
  refine z_bipush (v := nI 23) C dX8_rubs_18 (by decide) ?_
  refine z_iaddN C dX8_rubs_20 ?_
  refine z_iload2 C dX8_rubs_21 ?_
  refine z_iaddN C dX8_rubs_22 ?_
  refine z_iald C dX8_rubs_23 (k_i179 _) (by omega) ?_
  refine z_istore5 C dX8_rubs_24 nl_i ?_
  refine z_aload0 C dX8_rubs_26 ?_
  refine z_get C dX8_rubs_27 fl_X8_rubs_7 (k_Model _) rfl ?_
  refine z_iload1 C dX8_rubs_30 ?_
  refine z_iconstN 5 C dX8_rubs_31 ?_
  refine z_iaddN C dX8_rubs_32 ?_
  refine z_iload3 C dX8_rubs_33 ?_
  refine z_iaddN C dX8_rubs_34 ?_
  refine z_aload0 C dX8_rubs_35 ?_
  refine z_get C dX8_rubs_36 fl_X8_rubs_7 (k_Model _) rfl ?_
  refine z_iload1 C dX8_rubs_39 ?_
  refine z_iconstN 5 C dX8_rubs_40 ?_
  refine z_iaddN C dX8_rubs_41 ?_
  refine z_iload3 C dX8_rubs_42 ?_
  refine z_iaddN C dX8_rubs_43 ?_
  refine z_iald C dX8_rubs_44 (k_i179 _) (by omega) ?_
  refine z_iload4 C dX8_rubs_45 ?_
  refine z_iload5 C dX8_rubs_47 ?_
  refine z_callSI C dX8_rubs_49 c_X8_lessDark gX8_rubs_X8_lessDark md_X8_lessDark (by decide) rfl rfl (Nat.le_of_ble_eq_true rfl) ?_
  refine z_callSI C dX8_rubs_52 c_X8_less gX8_rubs_X8_less md_X8_less (by decide) rfl rfl (Nat.le_of_ble_eq_true rfl) ?_
  refine z_iast C dX8_rubs_55 (k_i179 _) (by omega) ?_
  refine z_aload0 C dX8_rubs_56 ?_
  refine z_get C dX8_rubs_57 fl_X8_rubs_7 (k_Model _) rfl ?_
  refine z_iload1 C dX8_rubs_60 ?_
  refine z_bipush (v := nI 23) C dX8_rubs_61 (by decide) ?_
  refine z_iaddN C dX8_rubs_63 ?_
  refine z_iload2 C dX8_rubs_64 ?_
  refine z_iaddN C dX8_rubs_65 ?_
  refine z_iload5 C dX8_rubs_66 ?_
  refine z_iload4 C dX8_rubs_68 ?_
  refine z_aload0 C dX8_rubs_70 ?_
  refine z_get C dX8_rubs_71 fl_X8_rubs_7 (k_Model _) rfl ?_
  refine z_iload1 C dX8_rubs_74 ?_
  refine z_bipush (v := nI 33) C dX8_rubs_75 (by decide) ?_
  refine z_iaddN C dX8_rubs_77 ?_
  refine z_iload3 C dX8_rubs_78 ?_
  refine z_iaddN C dX8_rubs_79 ?_
  refine z_iald C dX8_rubs_80 (k_i179 _) (by omega) ?_
  refine z_callSI C dX8_rubs_81 c_X8_lessSize gX8_rubs_X8_lessSize md_X8_lessSize (by decide) rfl rfl (Nat.le_of_ble_eq_true rfl) ?_
  refine z_callSI C dX8_rubs_84 c_X8_less gX8_rubs_X8_less md_X8_less (by decide) rfl rfl (Nat.le_of_ble_eq_true rfl) ?_
  refine z_iast C dX8_rubs_87 (k_i179 _) (by omega) ?_
  refine z_aload0 C dX8_rubs_88 ?_
  refine z_get C dX8_rubs_89 fl_X8_rubs_7 (k_Model _) rfl ?_
  refine z_iload1 C dX8_rubs_92 ?_
  refine z_iconstN 4 C dX8_rubs_93 ?_
  refine z_iaddN C dX8_rubs_94 ?_
  refine z_dup2 C dX8_rubs_95 rfl rfl ?_
  refine z_iald C dX8_rubs_96 (k_i179 _) (by omega) ?_
  refine z_iload5 C dX8_rubs_97 ?_
  refine z_aload0 C dX8_rubs_99 ?_
  refine z_get C dX8_rubs_100 fl_X8_rubs_7 (k_Model _) rfl ?_
  refine z_iload1 C dX8_rubs_103 ?_
  refine z_bipush (v := nI 23) C dX8_rubs_104 (by decide) ?_
  refine z_iaddN C dX8_rubs_106 ?_
  refine z_iload2 C dX8_rubs_107 ?_
  refine z_iaddN C dX8_rubs_108 ?_
  refine z_iald C dX8_rubs_109 (k_i179 _) (by omega) ?_
  refine z_isub C dX8_rubs_110 ?_
  refine z_iadd C dX8_rubs_111 ?_
  refine z_iast C dX8_rubs_112 (k_i179 _) (by omega) ?_
  refine z_aload0 C dX8_rubs_113 ?_
  refine z_get C dX8_rubs_114 fl_X8_rubs_7 (k_Model _) rfl ?_
  refine z_iload1 C dX8_rubs_117 ?_
  refine z_bipush (v := nI 17) C dX8_rubs_118 (by decide) ?_
  refine z_iaddN C dX8_rubs_120 ?_
  refine z_iload3 C dX8_rubs_121 ?_
  refine z_iaddN C dX8_rubs_122 ?_
  refine z_iald C dX8_rubs_123 (k_i179 _) (by omega) ?_
  refine z_iload4 C dX8_rubs_124 ?_
  refine z_callSI C dX8_rubs_126 c_X8_moreWool gX8_rubs_X8_moreWool md_X8_moreWool (by decide) rfl rfl (Nat.le_of_ble_eq_true rfl) ?_
  refine z_iadd C dX8_rubs_129 ?_
  refine z_istore6 C dX8_rubs_130 nl_i ?_
  refine z_aload0 C dX8_rubs_132 ?_
  refine z_get C dX8_rubs_133 fl_X8_rubs_7 (k_Model _) rfl ?_
  refine z_iload1 C dX8_rubs_136 ?_
  refine z_bipush (v := nI 17) C dX8_rubs_137 (by decide) ?_
  refine z_iaddN C dX8_rubs_139 ?_
  refine z_iload3 C dX8_rubs_140 ?_
  refine z_iaddN C dX8_rubs_141 ?_
  refine z_iload6 C dX8_rubs_142 ?_
  refine z_bipush (v := nI 20) C dX8_rubs_144 (by decide) ?_
  refine z_icmp_le C 154 dX8_rubs_146 (by decide) (fun c146 => ?_) (fun c146 => ?_)
  · refine z_iload6 C dX8_rubs_154 ?_
    first | refine z_top C (mw20_y c146) ?_ | refine z_top C (mw20_n c146) ?_
    refine z_iast C dX8_rubs_156 (k_i179 _) (by omega) ?_
    refine z_aload0 C dX8_rubs_157 ?_
    refine z_get C dX8_rubs_158 fl_X8_rubs_7 (k_Model _) rfl ?_
    refine z_iload1 C dX8_rubs_161 ?_
    refine z_iconstN 5 C dX8_rubs_162 ?_
    refine z_iaddN C dX8_rubs_163 ?_
    refine z_iload3 C dX8_rubs_164 ?_
    refine z_iaddN C dX8_rubs_165 ?_
    refine z_iald C dX8_rubs_166 (k_i179 _) (by omega) ?_
    refine z_if_ne C 212 dX8_rubs_167 (by decide) (fun c167 => ?_) (fun c167 => ?_)
    · exact z_vret C dX8_rubs_212 hr (by first | exact (if_pos ⟨c167, c176⟩).symm | exact (if_neg (fun h => c167 h.1)).symm | exact (if_neg (fun h => h.2 c176)).symm)
    · refine z_aload0 C dX8_rubs_170 ?_
      refine z_iload1 C dX8_rubs_171 ?_
      refine z_iload3 C dX8_rubs_172 ?_
      refine z_callVI C dX8_rubs_173 (c_X8_isTorn (by omega) (by omega)) gX8_rubs_X8_isTorn md_X8_isTorn rfl (by decide) (k_Model _) rfl rfl rfl (Nat.le_of_ble_eq_true rfl) ?_
      refine z_if_neB C 212 dX8_rubs_176 (by decide) (fun c176 => ?_) (fun c176 => ?_)
      · exact z_vret C dX8_rubs_212 hr (by first | exact (if_pos ⟨c167, c176⟩).symm | exact (if_neg (fun h => c167 h.1)).symm | exact (if_neg (fun h => h.2 c176)).symm)
      · refine z_aload0 C dX8_rubs_179 ?_
        refine z_get C dX8_rubs_180 fl_X8_rubs_7 (k_Model _) rfl ?_
        refine z_iload1 C dX8_rubs_183 ?_
        refine z_iconstN 5 C dX8_rubs_184 ?_
        refine z_iaddN C dX8_rubs_185 ?_
        refine z_iload3 C dX8_rubs_186 ?_
        refine z_iaddN C dX8_rubs_187 ?_
        refine z_aload0 C dX8_rubs_188 ?_
        refine z_get C dX8_rubs_189 fl_X8_rubs_7 (k_Model _) rfl ?_
        refine z_iload1 C dX8_rubs_192 ?_
        refine z_bipush (v := nI 11) C dX8_rubs_193 (by decide) ?_
        refine z_iaddN C dX8_rubs_195 ?_
        refine z_iload3 C dX8_rubs_196 ?_
        refine z_iaddN C dX8_rubs_197 ?_
        refine z_iald C dX8_rubs_198 (k_i179 _) (by omega) ?_
        refine z_iast C dX8_rubs_199 (k_i179 _) (by omega) ?_
        refine z_aload0 C dX8_rubs_200 ?_
        refine z_get C dX8_rubs_201 fl_X8_rubs_7 (k_Model _) rfl ?_
        refine z_iload1 C dX8_rubs_204 ?_
        refine z_bipush (v := nI 11) C dX8_rubs_205 (by decide) ?_
        refine z_iaddN C dX8_rubs_207 ?_
        refine z_iload3 C dX8_rubs_208 ?_
        refine z_iaddN C dX8_rubs_209 ?_
        refine z_iconstN 0 C dX8_rubs_210 ?_
        refine z_iast C dX8_rubs_211 (k_i179 _) (by omega) ?_
        exact z_vret C dX8_rubs_212 hr (by first | exact (if_pos ⟨c167, c176⟩).symm | exact (if_neg (fun h => c167 h.1)).symm | exact (if_neg (fun h => h.2 c176)).symm)
  · refine z_bipush (v := nI 20) C dX8_rubs_149 (by decide) ?_
    refine z_goto C 156 dX8_rubs_151 (by decide) ?_
    first | refine z_top C (mw20_y c146) ?_ | refine z_top C (mw20_n c146) ?_
    refine z_iast C dX8_rubs_156 (k_i179 _) (by omega) ?_
    refine z_aload0 C dX8_rubs_157 ?_
    refine z_get C dX8_rubs_158 fl_X8_rubs_7 (k_Model _) rfl ?_
    refine z_iload1 C dX8_rubs_161 ?_
    refine z_iconstN 5 C dX8_rubs_162 ?_
    refine z_iaddN C dX8_rubs_163 ?_
    refine z_iload3 C dX8_rubs_164 ?_
    refine z_iaddN C dX8_rubs_165 ?_
    refine z_iald C dX8_rubs_166 (k_i179 _) (by omega) ?_
    refine z_if_ne C 212 dX8_rubs_167 (by decide) (fun c167 => ?_) (fun c167 => ?_)
    · exact z_vret C dX8_rubs_212 hr (by first | exact (if_pos ⟨c167, c176⟩).symm | exact (if_neg (fun h => c167 h.1)).symm | exact (if_neg (fun h => h.2 c176)).symm)
    · refine z_aload0 C dX8_rubs_170 ?_
      refine z_iload1 C dX8_rubs_171 ?_
      refine z_iload3 C dX8_rubs_172 ?_
      refine z_callVI C dX8_rubs_173 (c_X8_isTorn (by omega) (by omega)) gX8_rubs_X8_isTorn md_X8_isTorn rfl (by decide) (k_Model _) rfl rfl rfl (Nat.le_of_ble_eq_true rfl) ?_
      refine z_if_neB C 212 dX8_rubs_176 (by decide) (fun c176 => ?_) (fun c176 => ?_)
      · exact z_vret C dX8_rubs_212 hr (by first | exact (if_pos ⟨c167, c176⟩).symm | exact (if_neg (fun h => c167 h.1)).symm | exact (if_neg (fun h => h.2 c176)).symm)
      · refine z_aload0 C dX8_rubs_179 ?_
        refine z_get C dX8_rubs_180 fl_X8_rubs_7 (k_Model _) rfl ?_
        refine z_iload1 C dX8_rubs_183 ?_
        refine z_iconstN 5 C dX8_rubs_184 ?_
        refine z_iaddN C dX8_rubs_185 ?_
        refine z_iload3 C dX8_rubs_186 ?_
        refine z_iaddN C dX8_rubs_187 ?_
        refine z_aload0 C dX8_rubs_188 ?_
        refine z_get C dX8_rubs_189 fl_X8_rubs_7 (k_Model _) rfl ?_
        refine z_iload1 C dX8_rubs_192 ?_
        refine z_bipush (v := nI 11) C dX8_rubs_193 (by decide) ?_
        refine z_iaddN C dX8_rubs_195 ?_
        refine z_iload3 C dX8_rubs_196 ?_
        refine z_iaddN C dX8_rubs_197 ?_
        refine z_iald C dX8_rubs_198 (k_i179 _) (by omega) ?_
        refine z_iast C dX8_rubs_199 (k_i179 _) (by omega) ?_
        refine z_aload0 C dX8_rubs_200 ?_
        refine z_get C dX8_rubs_201 fl_X8_rubs_7 (k_Model _) rfl ?_
        refine z_iload1 C dX8_rubs_204 ?_
        refine z_bipush (v := nI 11) C dX8_rubs_205 (by decide) ?_
        refine z_iaddN C dX8_rubs_207 ?_
        refine z_iload3 C dX8_rubs_208 ?_
        refine z_iaddN C dX8_rubs_209 ?_
        refine z_iconstN 0 C dX8_rubs_210 ?_
        refine z_iast C dX8_rubs_211 (k_i179 _) (by omega) ?_
        exact z_vret C dX8_rubs_212 hr (by first | exact (if_pos ⟨c167, c176⟩).symm | exact (if_neg (fun h => c167 h.1)).symm | exact (if_neg (fun h => h.2 c176)).symm)
