def on1 (s k : Nat) : Nat := s / 2 ^ k % 2
theorem t_on : ∀ s : Fin 64, ∀ k : Fin 6, nI s.1 >>> (nI k.1 &&& 31) &&& nI 1 = nI (on1 s.1 k.1) := by decide +kernel
theorem sentP_y {V : VR} {k : Nat} (h : V 7 k ≠ 0) : sentP V k = true := decide_eq_true h
theorem sentP_n {V : VR} {k : Nat} (h : V 7 k = 0) : ¬ sentP V k = true := fun q => of_decide_eq_true (p := V 7 k ≠ 0) q h
theorem on_n {s k : Nat} (hs : s < 64) (hk : k < 6) : nI s >>> (nI k &&& 31) &&& nI 1 = nI (on1 s k) := t_on ⟨s, hs⟩ ⟨k, hk⟩
theorem has_n {s k : Nat} (hs : s < 64) (hk : k < 6) : (nI s >>> (nI k &&& 31) &&& nI 1 = nI 1) ↔ s.testBit k = true := t_has ⟨s, hs⟩ ⟨k, hk⟩

set_option maxHeartbeats 4000000 in
set_option maxRecDepth 100000 in
theorem lp_X8_ones {X : CX} {s : Nat} (hs : s < 64) (C : Cx X cX8_ones RX8 wsX8_ones 1) : ∀ (n : Nat) (S : GS) (i v : Nat), i + n = 6 → Zj X S [some (.int (nI (s))), some (.int (nI (foldN (fun k v => v + on1 s k) n i v))), some (.int (nI (6)))] 24 [] → Zj X S [some (.int (nI (s))), some (.int (nI (v))), some (.int (nI (i)))] 4 [] := by
  intro n
  induction n with
  | zero =>
    intro S i v hi kk
    obtain rfl : i = 6 := by omega
    refine z_iload2 C dX8_ones_4 ?_
    refine z_bipush (v := nI 6) C dX8_ones_5 (by decide) ?_
    refine z_icmp_geN C 24 dX8_ones_7 (by decide) (by omega) (by omega) (fun c7 => ?_) (fun c7 => ?_)
    · exact kk
    · exact absurd c7 (by omega)
  | succ n ih =>
    intro S i v hi kk
    refine z_iload2 C dX8_ones_4 ?_
    refine z_bipush (v := nI 6) C dX8_ones_5 (by decide) ?_
    refine z_icmp_geN C 24 dX8_ones_7 (by decide) (by omega) (by omega) (fun c7 => ?_) (fun c7 => ?_)
    · exact absurd c7 (by omega)
    · refine z_iload1 C dX8_ones_10 ?_
      refine z_iload0 C dX8_ones_11 ?_
      refine z_iload2 C dX8_ones_12 ?_
      refine z_ishr C dX8_ones_13 ?_
      refine z_iconstN 1 C dX8_ones_14 ?_
      refine z_iand C dX8_ones_15 ?_
      refine z_top C (on_n hs (by omega)) ?_
      refine z_iaddN C dX8_ones_16 ?_
      refine z_istore1 C dX8_ones_17 nl_i ?_
      refine z_iinc2 C dX8_ones_18 (inc1 _) nl_i ?_
      refine z_goto C 4 dX8_ones_21 (by decide) ?_
      exact ih S (i + 1) _ (by omega) kk

set_option maxHeartbeats 4000000 in
set_option maxRecDepth 100000 in
theorem c_X8_ones {l : Launch} {Y : LY} {S : GS} {s : Nat} (hs : s < 64) : CtI l yX8_ones wsX8_ones 1 Y [.int (nI s)] S (nI (popc s)) (S) := by
  refine mkI (cc := cX8_ones) (maxL := 3) rfl rfl (Nat.le_of_ble_eq_true rfl) ?_
  intro X hl hY C hr
  subst hl
  subst hY
  show Zj X S [some (.int (nI s)), none, none] 0 []
  refine z_iconstN 0 C dX8_ones_0 ?_
  refine z_istore1 C dX8_ones_1 nl_i ?_
  refine z_iconstN 0 C dX8_ones_2 ?_
  refine z_istore2 C dX8_ones_3 nl_i ?_
  refine lp_X8_ones hs C 6 S 0 0 (by omega) ?_
  refine z_iload1 C dX8_ones_24 ?_
  exact z_iret C dX8_ones_25 hr rfl (by simp [foldN, on1, popc]) rfl

set_option maxRecDepth 20000 in
theorem fl_X8_slip_7 : FL RX8 wsX8_slip 7 8 0 := ⟨RX8, TX8, 15, rfl, (fun w h => List.mem_cons_of_mem _ (List.mem_append_right _ h)), by decide, by decide +kernel⟩
set_option maxHeartbeats 4000000 in
set_option maxRecDepth 100000 in
theorem ld_X8_slip {X : CX} {S : GS} {V : VR} {m c : Nat} {z : Int32} (hm : m ≤ 6) (hc : c ≤ 10) (hz : inB z 0 1) (h : HW (S.1 179) 0 V) (ho : Ok V) (C : Cx X cX8_slip RX8 wsX8_slip 4) : ∀ (n : Nat) (k d : Nat) (T : GS), k + n = V 0 1 → FrM S T → d = 10 ^ cntB (sentP V) k → Zj X T [some (.ref (ad (xY X) 178)), some (.int (nI (m))), some (.int (nI (c))), some (.int (z)), some (.int (nI (0))), some (.int (nI (dnN V))), some (.int (nI (V 0 1))), none, none] 88 [] → Zj X T [some (.ref (ad (xY X) 178)), some (.int (nI (m))), some (.int (nI (c))), some (.int (z)), some (.int (nI (0))), some (.int (nI (d))), some (.int (nI (k))), none, none] 45 [] := by
  intro n
  induction n with
  | zero =>
    intro k d T hk hf hd kk
    have o1 := ho.1
    have o2 := ho.2.1
    have n32 : 2 ^ V 0 1 ≤ 32 := Nat.le_trans (Nat.pow_le_pow_right (by decide) o2) (by decide)
    have h0 := HW_low h ho hf
    have hK : T.1 179 1 = nI (V 0 1) := h0.1.2.1
    have h7 : ∀ k, k < V 0 1 → T.1 179 (28 + k) = sI (V 7 k) ∧ (sI (V 7 k) = -4 ↔ V 7 k = 0) := fun k hk => ⟨by have q := (h0.2.2 k hk).2.2; rw [Nat.zero_add] at q; exact q, sI_m4 (by have := (ho.2.2.2 k hk).2.2; omega)⟩
    obtain rfl : k = V 0 1 := by omega
    subst hd
    refine z_iload6 C dX8_slip_45 ?_
    refine z_aload0 C dX8_slip_47 ?_
    refine z_get C dX8_slip_48 fl_X8_slip_7 (k_Model _) rfl ?_
    refine z_iconstN 1 C dX8_slip_51 ?_
    refine z_iald C dX8_slip_52 (k_i179 _) (by omega) ?_
    refine z_top C hK ?_
    refine z_icmp_geN C 88 dX8_slip_53 (by decide) (by omega) (by omega) (fun c53 => ?_) (fun c53 => ?_)
    · exact kk
    · exact absurd c53 (by omega)
  | succ n ih =>
    intro k d T hk hf hd kk
    have o1 := ho.1
    have o2 := ho.2.1
    have n32 : 2 ^ V 0 1 ≤ 32 := Nat.le_trans (Nat.pow_le_pow_right (by decide) o2) (by decide)
    have h0 := HW_low h ho hf
    have hK : T.1 179 1 = nI (V 0 1) := h0.1.2.1
    have h7 : ∀ k, k < V 0 1 → T.1 179 (28 + k) = sI (V 7 k) ∧ (sI (V 7 k) = -4 ↔ V 7 k = 0) := fun k hk => ⟨by have q := (h0.2.2 k hk).2.2; rw [Nat.zero_add] at q; exact q, sI_m4 (by have := (ho.2.2.2 k hk).2.2; omega)⟩
    obtain ⟨e1, e2⟩ := h7 k (by omega)
    refine z_iload6 C dX8_slip_45 ?_
    refine z_aload0 C dX8_slip_47 ?_
    refine z_get C dX8_slip_48 fl_X8_slip_7 (k_Model _) rfl ?_
    refine z_iconstN 1 C dX8_slip_51 ?_
    refine z_iald C dX8_slip_52 (k_i179 _) (by omega) ?_
    refine z_top C hK ?_
    refine z_icmp_geN C 88 dX8_slip_53 (by decide) (by omega) (by omega) (fun c53 => ?_) (fun c53 => ?_)
    · exact absurd c53 (by omega)
    · refine z_iload5 C dX8_slip_56 ?_
      refine z_aload0 C dX8_slip_58 ?_
      refine z_get C dX8_slip_59 fl_X8_slip_7 (k_Model _) rfl ?_
      refine z_bipush (v := nI 28) C dX8_slip_62 (by decide) ?_
      refine z_iload6 C dX8_slip_64 ?_
      refine z_iaddN C dX8_slip_66 ?_
      refine z_iald C dX8_slip_67 (k_i179 _) (by omega) ?_
      refine z_top C e1 ?_
      refine z_bipush (v := (-4)) C dX8_slip_68 (by decide) ?_
      refine z_icmp_ne C 77 dX8_slip_70 (by decide) (fun c70 => ?_) (fun c70 => ?_)
      · refine z_bipush (v := nI 10) C dX8_slip_77 (by decide) ?_
        refine z_imulN C dX8_slip_79 ?_
        refine z_istore5 C dX8_slip_80 nl_i ?_
        refine z_iinc6 C dX8_slip_82 (inc1 _) nl_i ?_
        refine z_goto C 45 dX8_slip_85 (by decide) ?_
        refine ih (k + 1) _ T (by omega) hf ?_ kk
        rw [cntB, hd]
        rw [if_pos (sentP_y (fun q => c70 (e2.mpr q))), Nat.pow_succ]
      · refine z_iconstN 1 C dX8_slip_73 ?_
        refine z_goto C 79 dX8_slip_74 (by decide) ?_
        refine z_imulN C dX8_slip_79 ?_
        refine z_istore5 C dX8_slip_80 nl_i ?_
        refine z_iinc6 C dX8_slip_82 (inc1 _) nl_i ?_
        refine z_goto C 45 dX8_slip_85 (by decide) ?_
        refine ih (k + 1) _ T (by omega) hf ?_ kk
        rw [cntB, hd]
        rw [if_neg (sentP_n (e2.mp c70)), Nat.add_zero, Nat.mul_one]

set_option maxHeartbeats 4000000 in
set_option maxRecDepth 100000 in
theorem lw_X8_slip {X : CX} {S : GS} {V : VR} {m c : Nat} {z : Int32} (hm : m ≤ 6) (hc : c ≤ 10) (hz : inB z 0 1) (h : HW (S.1 179) 0 V) (ho : Ok V) {u d a : Nat} (ha : a < 2 ^ V 0 1) (C : Cx X cX8_slip RX8 wsX8_slip 4) : ∀ (n : Nat) (k w : Nat) (T : GS), k + n = V 0 1 → FrM S T → w = wN (sentP V) (fun k => a.testBit k) c (10 - c) k → Zj X T [some (.ref (ad (xY X) 178)), some (.int (nI (m))), some (.int (nI (c))), some (.int (z)), some (.int (nI (u))), some (.int (nI (d))), some (.int (nI (a))), some (.int (nI (wV V c a))), some (.int (nI (V 0 1)))] 188 [] → Zj X T [some (.ref (ad (xY X) 178)), some (.int (nI (m))), some (.int (nI (c))), some (.int (z)), some (.int (nI (u))), some (.int (nI (d))), some (.int (nI (a))), some (.int (nI (w))), some (.int (nI (k)))] 110 [] := by
  intro n
  induction n with
  | zero =>
    intro k w T hk hf hw kk
    have o1 := ho.1
    have o2 := ho.2.1
    have n32 : 2 ^ V 0 1 ≤ 32 := Nat.le_trans (Nat.pow_le_pow_right (by decide) o2) (by decide)
    have h0 := HW_low h ho hf
    have hK : T.1 179 1 = nI (V 0 1) := h0.1.2.1
    have h7 : ∀ k, k < V 0 1 → T.1 179 (28 + k) = sI (V 7 k) ∧ (sI (V 7 k) = -4 ↔ V 7 k = 0) := fun k hk => ⟨by have q := (h0.2.2 k hk).2.2; rw [Nat.zero_add] at q; exact q, sI_m4 (by have := (ho.2.2.2 k hk).2.2; omega)⟩
    obtain rfl : k = V 0 1 := by omega
    subst hw
    refine z_iload8 C dX8_slip_110 ?_
    refine z_aload0 C dX8_slip_112 ?_
    refine z_get C dX8_slip_113 fl_X8_slip_7 (k_Model _) rfl ?_
    refine z_iconstN 1 C dX8_slip_116 ?_
    refine z_iald C dX8_slip_117 (k_i179 _) (by omega) ?_
    refine z_top C hK ?_
    refine z_icmp_geN C 188 dX8_slip_118 (by decide) (by omega) (by omega) (fun c118 => ?_) (fun c118 => ?_)
    · exact kk
    · exact absurd c118 (by omega)
  | succ n ih =>
    intro k w T hk hf hw kk
    have o1 := ho.1
    have o2 := ho.2.1
    have n32 : 2 ^ V 0 1 ≤ 32 := Nat.le_trans (Nat.pow_le_pow_right (by decide) o2) (by decide)
    have h0 := HW_low h ho hf
    have hK : T.1 179 1 = nI (V 0 1) := h0.1.2.1
    have h7 : ∀ k, k < V 0 1 → T.1 179 (28 + k) = sI (V 7 k) ∧ (sI (V 7 k) = -4 ↔ V 7 k = 0) := fun k hk => ⟨by have q := (h0.2.2 k hk).2.2; rw [Nat.zero_add] at q; exact q, sI_m4 (by have := (ho.2.2.2 k hk).2.2; omega)⟩
    obtain ⟨e1, e2⟩ := h7 k (by omega)
    have hb := has_n (s := a) (k := k) (by omega) (by omega)
    refine z_iload8 C dX8_slip_110 ?_
    refine z_aload0 C dX8_slip_112 ?_
    refine z_get C dX8_slip_113 fl_X8_slip_7 (k_Model _) rfl ?_
    refine z_iconstN 1 C dX8_slip_116 ?_
    refine z_iald C dX8_slip_117 (k_i179 _) (by omega) ?_
    refine z_top C hK ?_
    refine z_icmp_geN C 188 dX8_slip_118 (by decide) (by omega) (by omega) (fun c118 => ?_) (fun c118 => ?_)
    · exact absurd c118 (by omega)
    · refine z_aload0 C dX8_slip_121 ?_
      refine z_get C dX8_slip_122 fl_X8_slip_7 (k_Model _) rfl ?_
      refine z_bipush (v := nI 28) C dX8_slip_125 (by decide) ?_
      refine z_iload8 C dX8_slip_127 ?_
      refine z_iaddN C dX8_slip_129 ?_
      refine z_iald C dX8_slip_130 (k_i179 _) (by omega) ?_
      refine z_top C e1 ?_
      refine z_bipush (v := (-4)) C dX8_slip_131 (by decide) ?_
      refine z_icmp_ne C 159 dX8_slip_133 (by decide) (fun c133 => ?_) (fun c133 => ?_)
      · refine z_iload7 C dX8_slip_159 ?_
        refine z_iload6 C dX8_slip_161 ?_
        refine z_iload8 C dX8_slip_163 ?_
        refine z_callSI C dX8_slip_165 c_X8_has gX8_slip_X8_has md_X8_has (by decide) rfl rfl (Nat.le_of_ble_eq_true rfl) ?_
        refine z_if_eqB C 175 dX8_slip_168 (by decide) (fun c168 => ?_) (fun c168 => ?_)
        · refine z_bipush (v := nI 10) C dX8_slip_175 (by decide) ?_
          refine z_iload2 C dX8_slip_177 ?_
          refine z_isubN C dX8_slip_178 hc ?_
          refine z_imulN C dX8_slip_179 ?_
          refine z_istore7 C dX8_slip_180 nl_i ?_
          refine z_iinc8 C dX8_slip_182 (inc1 _) nl_i ?_
          refine z_goto C 110 dX8_slip_185 (by decide) ?_
          refine ih (k + 1) _ T (by omega) hf ?_ kk
          rw [wN, hw]
          rw [if_pos (sentP_y (fun q => c133 (e2.mpr q))), if_neg (fun q => c168 (hb.mpr q))]
        · refine z_iload2 C dX8_slip_171 ?_
          refine z_goto C 179 dX8_slip_172 (by decide) ?_
          refine z_imulN C dX8_slip_179 ?_
          refine z_istore7 C dX8_slip_180 nl_i ?_
          refine z_iinc8 C dX8_slip_182 (inc1 _) nl_i ?_
          refine z_goto C 110 dX8_slip_185 (by decide) ?_
          refine ih (k + 1) _ T (by omega) hf ?_ kk
          rw [wN, hw]
          rw [if_pos (sentP_y (fun q => c133 (e2.mpr q))), if_pos (hb.mp c168)]
      · refine z_iload7 C dX8_slip_136 ?_
        refine z_iload6 C dX8_slip_138 ?_
        refine z_iload8 C dX8_slip_140 ?_
        refine z_callSI C dX8_slip_142 c_X8_has gX8_slip_X8_has md_X8_has (by decide) rfl rfl (Nat.le_of_ble_eq_true rfl) ?_
        refine z_if_eqB C 152 dX8_slip_145 (by decide) (fun c145 => ?_) (fun c145 => ?_)
        · refine z_iconstN 1 C dX8_slip_152 ?_
          refine z_imulN C dX8_slip_153 ?_
          refine z_istore7 C dX8_slip_154 nl_i ?_
          refine z_goto C 182 dX8_slip_156 (by decide) ?_
          refine z_iinc8 C dX8_slip_182 (inc1 _) nl_i ?_
          refine z_goto C 110 dX8_slip_185 (by decide) ?_
          refine ih (k + 1) _ T (by omega) hf ?_ kk
          rw [wN, hw]
          rw [if_neg (sentP_n (e2.mp c133)), if_neg (fun q => c145 (hb.mpr q))]
        · refine z_iconstN 0 C dX8_slip_148 ?_
          refine z_goto C 153 dX8_slip_149 (by decide) ?_
          refine z_imulN C dX8_slip_153 ?_
          refine z_istore7 C dX8_slip_154 nl_i ?_
          refine z_goto C 182 dX8_slip_156 (by decide) ?_
          refine z_iinc8 C dX8_slip_182 (inc1 _) nl_i ?_
          refine z_goto C 110 dX8_slip_185 (by decide) ?_
          refine ih (k + 1) _ T (by omega) hf ?_ kk
          rw [wN, hw]
          rw [if_neg (sentP_n (e2.mp c133)), if_pos (hb.mp c145)]

set_option maxHeartbeats 4000000 in
set_option maxRecDepth 100000 in
theorem lg_X8_slip {X : CX} {m c u d : Nat} {z : Int32} {S : GS} (C : Cx X cX8_slip RX8 wsX8_slip 4) : ∀ (n : Nat) (a b : Nat) (e : Option Value), b ≤ n → a < 2 ^ 31 → b < 2 ^ 31 → (∀ d' e', Zj X S [some (.ref (ad (xY X) 178)), some (.int (nI (m))), some (.int (nI (c))), some (.int (z)), some (.int (nI (u))), some (.int (nI (d))), some (.int (nI (Nat.gcd a b))), some (.int (nI (d'))), e'] 268 []) → Zj X S [some (.ref (ad (xY X) 178)), some (.int (nI (m))), some (.int (nI (c))), some (.int (z)), some (.int (nI (u))), some (.int (nI (d))), some (.int (nI (a))), some (.int (nI (b))), e] 245 [] := by
  intro n
  induction n with
  | zero =>
    intro a b e hn ha hb kk
    obtain rfl : b = 0 := by omega
    rw [Nat.gcd_zero_right] at kk
    refine z_iload7 C dX8_slip_245 ?_
    refine z_if_eqN C 268 dX8_slip_247 (by decide) (by omega) (fun c247 => ?_) (fun c247 => ?_)
    · exact kk _ _
    · exact absurd c247 (by omega)
  | succ n ih =>
    intro a b e hn ha hb kk
    refine z_iload7 C dX8_slip_245 ?_
    refine z_if_eqN C 268 dX8_slip_247 (by decide) (by omega) (fun c247 => ?_) (fun c247 => ?_)
    · subst c247
      rw [Nat.gcd_zero_right] at kk
      exact kk _ _
    · refine z_iload6 C dX8_slip_250 ?_
      refine z_iload7 C dX8_slip_252 ?_
      refine z_iremN C dX8_slip_254 ha (by omega) hb ?_
      refine z_istore8 C dX8_slip_255 nl_i ?_
      refine z_iload7 C dX8_slip_257 ?_
      refine z_istore6 C dX8_slip_259 nl_i ?_
      refine z_iload8 C dX8_slip_261 ?_
      refine z_istore7 C dX8_slip_263 nl_i ?_
      refine z_goto C 245 dX8_slip_265 (by decide) ?_
      have hl := Nat.mod_lt a c247
      refine ih b (a % b) _ (by omega) hb (by omega) ?_
      rw [gcd_st]
      exact kk

theorem md_X8_ones : MD yX8_ones wsX8_ones 1 3 (some .int) := ⟨_, _, rfl, by decide, by decide +kernel, by decide +kernel, by decide +kernel⟩
set_option maxHeartbeats 4000000 in
set_option maxRecDepth 100000 in
theorem lo_X8_slip {X : CX} {S : GS} {V : VR} {m c : Nat} {z : Int32} (hm : m ≤ 6) (hc : c ≤ 10) (hz : inB z 0 1) (h : HW (S.1 179) 0 V) (ho : Ok V) (hr : RtP X .int (fun r u => r = aSlip V (nI m) (nI c) z ∧ FrM S u)) (C : Cx X cX8_slip RX8 wsX8_slip 4) : ∀ (n : Nat) (a u : Nat) (T : GS) (x7 x8 : Option Value), a + n = 2 ^ V 0 1 → FrM S T → nl x7 → upN V m c = upF V m c n a u → Zj X T [some (.ref (ad (xY X) 178)), some (.int (nI (m))), some (.int (nI (c))), some (.int (z)), some (.int (nI (u))), some (.int (nI (dnN V))), some (.int (nI (a))), x7, x8] 91 [] := by
  intro n
  induction n with
  | zero =>
    intro a u T x7 x8 ha hf hx hg
    have o1 := ho.1
    have o2 := ho.2.1
    have n32 : 2 ^ V 0 1 ≤ 32 := Nat.le_trans (Nat.pow_le_pow_right (by decide) o2) (by decide)
    have h0 := HW_low h ho hf
    have hK : T.1 179 1 = nI (V 0 1) := h0.1.2.1
    have h7 : ∀ k, k < V 0 1 → T.1 179 (28 + k) = sI (V 7 k) ∧ (sI (V 7 k) = -4 ↔ V 7 k = 0) := fun k hk => ⟨by have q := (h0.2.2 k hk).2.2; rw [Nat.zero_add] at q; exact q, sI_m4 (by have := (ho.2.2.2 k hk).2.2; omega)⟩
    have hu : upN V m c = u := hg
    subst hu
    have hul := upN_lt (m := m) o2 hc
    have hdn := dnN_in o2
    have hgp : 0 < Nat.gcd (upN V m c) (dnN V) := Nat.gcd_pos_of_pos_right _ hdn.1
    have hgl : Nat.gcd (upN V m c) (dnN V) ≤ dnN V := Nat.le_of_dvd hdn.1 (Nat.gcd_dvd_right _ _)
    refine z_iload6 C dX8_slip_91 ?_
    refine z_iconstN 1 C dX8_slip_93 ?_
    refine z_aload0 C dX8_slip_94 ?_
    refine z_get C dX8_slip_95 fl_X8_slip_7 (k_Model _) rfl ?_
    refine z_iconstN 1 C dX8_slip_98 ?_
    refine z_iald C dX8_slip_99 (k_i179 _) (by omega) ?_
    refine z_top C hK ?_
    refine z_ishl C dX8_slip_100 ?_
    refine z_top C (shl1 (show V 0 1 < 6 by omega)) ?_
    refine z_icmp_geN C 237 dX8_slip_101 (by decide) (by omega) (by omega) (fun c101 => ?_) (fun c101 => ?_)
    · refine z_iload4 C dX8_slip_237 ?_
      refine z_istore6 C dX8_slip_239 nl_i ?_
      refine z_iload5 C dX8_slip_241 ?_
      refine z_istore7 C dX8_slip_243 nl_i ?_
      refine lg_X8_slip C (dnN V) _ _ _ (Nat.le_refl _) (by omega) (by omega) (fun d2 e2 => ?_)
      refine z_iload3 C dX8_slip_268 ?_
      refine z_if_ne C 280 dX8_slip_269 (by decide) (fun c269 => ?_) (fun c269 => ?_)
      · refine z_iload5 C dX8_slip_280 ?_
        refine z_iload6 C dX8_slip_282 ?_
        refine z_idivN C dX8_slip_284 (by omega) hgp (by omega) ?_
        exact z_iretP C dX8_slip_285 hr rfl ⟨by rw [aSlip_y hm hc hz, if_neg c269], hf⟩
      · refine z_iload4 C dX8_slip_272 ?_
        refine z_iload6 C dX8_slip_274 ?_
        refine z_idivN C dX8_slip_276 (by omega) hgp (by omega) ?_
        refine z_goto C 285 dX8_slip_277 (by decide) ?_
        exact z_iretP C dX8_slip_285 hr rfl ⟨by rw [aSlip_y hm hc hz, if_pos c269], hf⟩
    · exact absurd c101 (by omega)
  | succ n ih =>
    intro a u T x7 x8 ha hf hx hg
    have o1 := ho.1
    have o2 := ho.2.1
    have n32 : 2 ^ V 0 1 ≤ 32 := Nat.le_trans (Nat.pow_le_pow_right (by decide) o2) (by decide)
    have h0 := HW_low h ho hf
    have hK : T.1 179 1 = nI (V 0 1) := h0.1.2.1
    have h7 : ∀ k, k < V 0 1 → T.1 179 (28 + k) = sI (V 7 k) ∧ (sI (V 7 k) = -4 ↔ V 7 k = 0) := fun k hk => ⟨by have q := (h0.2.2 k hk).2.2; rw [Nat.zero_add] at q; exact q, sI_m4 (by have := (ho.2.2.2 k hk).2.2; omega)⟩
    have w1 := HW_PS (ill := nI a) (HW_tr h0 ho) ho
    have w2 := Ok_PD (ill := nI a) ho
    have wf : FrM S (mPs (mTr T) 586 (nI a) (V 0 1)) := hf.tr (mTr_fr.tr (FrM.of mPs_fr (fun i hi => mPs_far (HW_mOk (HW_tr h0 ho) ho) ho.2.1 (by omega))))
    have wl0 : wV V c a < 2 ^ 31 := Nat.lt_of_le_of_lt (Nat.le_trans (wN_le hc (by omega) _) (Nat.le_trans (Nat.pow_le_pow_right (by decide) o2) (show 10 ^ 5 ≤ 100000 by decide))) (by decide)
    have pg := popc_le (gN (vPD V (nI a)))
    have g64 := gN_lt w2
    refine z_iload6 C dX8_slip_91 ?_
    refine z_iconstN 1 C dX8_slip_93 ?_
    refine z_aload0 C dX8_slip_94 ?_
    refine z_get C dX8_slip_95 fl_X8_slip_7 (k_Model _) rfl ?_
    refine z_iconstN 1 C dX8_slip_98 ?_
    refine z_iald C dX8_slip_99 (k_i179 _) (by omega) ?_
    refine z_top C hK ?_
    refine z_ishl C dX8_slip_100 ?_
    refine z_top C (shl1 (show V 0 1 < 6 by omega)) ?_
    refine z_icmp_geN C 237 dX8_slip_101 (by decide) (by omega) (by omega) (fun c101 => ?_) (fun c101 => ?_)
    · exact absurd c101 (by omega)
    · refine z_iconstN 1 C dX8_slip_104 ?_
      refine z_istore7 C dX8_slip_105 nl_i ?_
      refine z_iconstN 0 C dX8_slip_107 ?_
      refine z_istore8 C dX8_slip_108 nl_i ?_
      refine lw_X8_slip hm hc hz h ho (by omega) C (V 0 1) 0 1 T (by omega) hf rfl ?_
      refine z_iload7 C dX8_slip_188 ?_
      refine z_if_leN C 231 dX8_slip_190 (by decide) (by omega) (fun c190 => ?_) (fun c190 => ?_)
      · refine z_iinc6 C dX8_slip_231 (inc1 _) nl_i ?_
        refine z_goto C 91 dX8_slip_234 (by decide) ?_
        refine ih (a + 1) _ _ _ _ (by omega) hf nl_i (hg.trans ?_)
        show upF V m c n (a + 1) (u + chN V m c a) = _
        unfold chN
        rw [c190, ite_self]
        rfl
      · refine z_aload0 C dX8_slip_193 ?_
        refine z_callVV C dX8_slip_194 c_X8_tries gX8_slip_X8_tries md_X8_tries rfl (by decide) (k_Model _) rfl rfl rfl (Nat.le_of_ble_eq_true rfl) ?_
        refine z_aload0 C dX8_slip_197 ?_
        refine z_sipush (v := nI 586) C dX8_slip_198 (by decide) ?_
        refine z_iload6 C dX8_slip_201 ?_
        refine z_callVV C dX8_slip_203 (c_X8_passes (by decide) o2 (HW_tr h0 ho).1.2.1 (HW_mOk (HW_tr h0 ho) ho)) gX8_slip_X8_passes md_X8_passes rfl (by decide) (k_Model _) rfl rfl rfl (Nat.le_of_ble_eq_true rfl) ?_
        refine z_iload4 C dX8_slip_206 ?_
        refine z_aload0 C dX8_slip_208 ?_
        refine z_sipush (v := nI 586) C dX8_slip_209 (by decide) ?_
        refine z_callVI C dX8_slip_212 (c_X8_goneOnes (by decide) w2.1 w1.1.1) gX8_slip_X8_goneOnes md_X8_goneOnes rfl (by decide) (k_Model _) rfl rfl rfl (Nat.le_of_ble_eq_true rfl) ?_
        refine z_top C ((goneV_m w1 w2).trans (goneV_gN w2)) ?_
        refine z_callSI C dX8_slip_215 (c_X8_ones (by omega)) gX8_slip_X8_ones md_X8_ones (by decide) rfl rfl (Nat.le_of_ble_eq_true rfl) ?_
        refine z_iload1 C dX8_slip_218 ?_
        refine z_icmp_ltN C 227 dX8_slip_219 (by decide) (by omega) (by omega) (fun c219 => ?_) (fun c219 => ?_)
        · refine z_iconstN 0 C dX8_slip_227 ?_
          refine z_iaddN C dX8_slip_228 ?_
          refine z_istore4 C dX8_slip_229 nl_i ?_
          refine z_iinc6 C dX8_slip_231 (inc1 _) nl_i ?_
          refine z_goto C 91 dX8_slip_234 (by decide) ?_
          refine ih (a + 1) _ _ _ _ (by omega) wf nl_i (hg.trans ?_)
          show upF V m c n (a + 1) (u + chN V m c a) = _
          unfold chN
          rw [if_pos (by omega)]
        · refine z_iload7 C dX8_slip_222 ?_
          refine z_goto C 228 dX8_slip_224 (by decide) ?_
          refine z_iaddN C dX8_slip_228 ?_
          refine z_istore4 C dX8_slip_229 nl_i ?_
          refine z_iinc6 C dX8_slip_231 (inc1 _) nl_i ?_
          refine z_goto C 91 dX8_slip_234 (by decide) ?_
          refine ih (a + 1) _ _ _ _ (by omega) wf nl_i (hg.trans ?_)
          show upF V m c n (a + 1) (u + chN V m c a) = _
          unfold chN
          rw [if_neg (by omega)]

theorem kl_X8_slip_207 : Cond.constantLong RX8 207 (6) ∈ wsX8_slip := by decide +kernel
theorem kl_X8_slip_209 : Cond.constantLong RX8 209 (10) ∈ wsX8_slip := by decide +kernel
set_option maxHeartbeats 4000000 in
set_option maxRecDepth 100000 in
theorem c_X8_slip {l : Launch} {Y : LY} {S : GS} {V : VR} (h : HW (S.1 179) 0 V) (ho : Ok V) {x y z : Int32} : CtP l yX8_slip wsX8_slip 4 Y [.ref (ad Y 178), .int x, .int y, .int z] S (fun r u => r = aSlip V x y z ∧ FrM S u) := by
  refine mkP (cc := cX8_slip) (maxL := 9) rfl rfl (Nat.le_of_ble_eq_true rfl) ?_
  intro X hl hY C hr
  subst hl
  subst hY
  have hM : S.1 179 0 = nI (V 0 0) := h.1.1
  have hK : S.1 179 1 = nI (V 0 1) := h.1.2.1
  have o1 := ho.1
  have o2 := ho.2.1
  show Zj X S [some (.ref (ad (xY X) 178)), some (.int x), some (.int y), some (.int z), none, none, none, none, none] 0 []
  refine z_iload1 C dX8_slip_0 ?_
  refine z_i2l C dX8_slip_1 ?_
  refine z_lconst (v := 0) C dX8_slip_2 rfl ?_
  refine z_topl (y := (nI 0).toInt64) C (by decide) ?_
  refine z_ldc2 (v := 6) C dX8_slip_3 kl_X8_slip_207 ?_
  refine z_topl (y := (nI 6).toInt64) C (by decide) ?_
  refine z_callSI C dX8_slip_6 c_X8_in gX8_slip_X8_in md_X8_in (by decide) rfl rfl (Nat.le_of_ble_eq_true rfl) ?_
  refine z_if_eqB C 34 dX8_slip_9 (by decide) (fun c9 => ?_) (fun c9 => ?_)
  · refine z_iconst (v := (-1)) C dX8_slip_34 (by decide) ?_
    exact z_iretP C dX8_slip_35 hr rfl ⟨by rw [aSlip_n (by rintro ⟨h1, h2, h3⟩; contradiction)], FrM.rf⟩
  · refine z_iload2 C dX8_slip_12 ?_
    refine z_i2l C dX8_slip_13 ?_
    refine z_lconst (v := 0) C dX8_slip_14 rfl ?_
    refine z_topl (y := (nI 0).toInt64) C (by decide) ?_
    refine z_ldc2 (v := 10) C dX8_slip_15 kl_X8_slip_209 ?_
    refine z_topl (y := (nI 10).toInt64) C (by decide) ?_
    refine z_callSI C dX8_slip_18 c_X8_in gX8_slip_X8_in md_X8_in (by decide) rfl rfl (Nat.le_of_ble_eq_true rfl) ?_
    refine z_if_eqB C 34 dX8_slip_21 (by decide) (fun c21 => ?_) (fun c21 => ?_)
    · refine z_iconst (v := (-1)) C dX8_slip_34 (by decide) ?_
      exact z_iretP C dX8_slip_35 hr rfl ⟨by rw [aSlip_n (by rintro ⟨h1, h2, h3⟩; contradiction)], FrM.rf⟩
    · refine z_iload3 C dX8_slip_24 ?_
      refine z_i2l C dX8_slip_25 ?_
      refine z_lconst (v := 0) C dX8_slip_26 rfl ?_
      refine z_topl (y := (nI 0).toInt64) C (by decide) ?_
      refine z_lconst (v := 1) C dX8_slip_27 rfl ?_
      refine z_topl (y := (nI 1).toInt64) C (by decide) ?_
      refine z_callSI C dX8_slip_28 c_X8_in gX8_slip_X8_in md_X8_in (by decide) rfl rfl (Nat.le_of_ble_eq_true rfl) ?_
      refine z_if_neB C 36 dX8_slip_31 (by decide) (fun c31 => ?_) (fun c31 => ?_)
      · obtain ⟨m, -, hm, rfl⟩ := inB_of (by decide) c9 (by decide)
        obtain ⟨c, -, hc, rfl⟩ := inB_of (by decide) c21 (by decide)
        refine z_iconstN 0 C dX8_slip_36 ?_
        refine z_istore4 C dX8_slip_37 nl_i ?_
        refine z_iconstN 1 C dX8_slip_39 ?_
        refine z_istore5 C dX8_slip_40 nl_i ?_
        refine z_iconstN 0 C dX8_slip_42 ?_
        refine z_istore6 C dX8_slip_43 nl_i ?_
        refine ld_X8_slip hm hc c31 h ho C (V 0 1) 0 1 S (by omega) FrM.rf rfl ?_
        refine z_iconstN 0 C dX8_slip_88 ?_
        refine z_istore6 C dX8_slip_89 nl_i ?_
        exact lo_X8_slip hm hc c31 h ho hr C (2 ^ V 0 1) 0 0 _ _ _ (by omega) FrM.rf nl_n rfl
      · refine z_iconst (v := (-1)) C dX8_slip_34 (by decide) ?_
        exact z_iretP C dX8_slip_35 hr rfl ⟨by rw [aSlip_n (by rintro ⟨h1, h2, h3⟩; contradiction)], FrM.rf⟩
