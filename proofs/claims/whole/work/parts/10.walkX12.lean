set_option maxRecDepth 100000 in
set_option maxHeartbeats 4000000 in
theorem w_X2_readMethodAttribute_j167 {K : Cx} {g : Gw} (ret : Int32 × St) (X : XC K g cX2_readMethodAttribute 4 RX2 (some .boolean) rm_X2_readMethodAttribute) (u : St) (h : f_X2_readMethodAttribute_j167 u = some ret) : XW K 0 0 4 (QI K g (wdX g) ret) (wdX g) u 167 [(0, .ref (g.1 2))] [] := by
  unfold f_X2_readMethodAttribute_j167 at h
  refine x_aload_n X dX2_readMethodAttribute_167 rfl 0 rfl ?_
  refine x_get (v := .ref (g.1 9)) X 2 1 in_X2 rfl rfl (by decide) m_X2_11 rfl dX2_readMethodAttribute_168 ?_
  refine x_iconst (v := 5) X dX2_readMethodAttribute_171 (by decide) ?_
  refine x_dup2 X dX2_readMethodAttribute_172 rfl rfl ?_
  obtain ⟨i9, h⟩ := chk_some h
  refine x_iald (f := (u 23)) X 9 0 rfl rfl i9 dX2_readMethodAttribute_173 ?_
  refine x_iconst (v := 1) X dX2_readMethodAttribute_174 (by decide) ?_
  refine x_iadd X dX2_readMethodAttribute_175 ?_
  obtain ⟨i10, h⟩ := chk_some h
  refine x_iast (f := (u 23)) (u2 := (up u 23 (Int32.toNatClampNeg 5) (((u 23) (Int32.toNatClampNeg 5)) + 1))) X 9 0 rfl rfl i10 (wdX_23 g u (Int32.toNatClampNeg 5) (((u 23) (Int32.toNatClampNeg 5)) + 1)) dX2_readMethodAttribute_176 ?_
  refine x_iconst (v := 1) X dX2_readMethodAttribute_177 (by decide) ?_
  exact x_zret X rfl (Option.some.inj h) dX2_readMethodAttribute_178
set_option maxRecDepth 100000 in
set_option maxHeartbeats 4000000 in
theorem w_X2_readMethodAttribute_j128 {K : Cx} {g : Gw} (ret : Int32 × St) (X : XC K g cX2_readMethodAttribute 4 RX2 (some .boolean) rm_X2_readMethodAttribute) (z0 : Int32) (u : St) (h : f_X2_readMethodAttribute_j128 z0 u = some ret) : XW K 0 0 4 (QI K g (wdX g) ret) (wdX g) u 128 [(0, .ref (g.1 2))] [.int z0] := by
  unfold f_X2_readMethodAttribute_j128 at h
  refine x_istore_n (lv2 := [(3, .int z0), (0, .ref (g.1 2))]) X dX2_readMethodAttribute_128 rfl (by decide) rfl ?_
  refine x_iload_n X dX2_readMethodAttribute_129 rfl 0 rfl ?_
  refine x_if_ne (tgt := 135) X dX2_readMethodAttribute_130 (by decide) (fun c13 => ?_) (fun c13 => ?_)
  · replace h := if_f c13 h
    refine x_aload_n X dX2_readMethodAttribute_135 rfl 1 rfl ?_
    refine x_get (v := .ref (g.1 9)) X 2 1 in_X2 rfl rfl (by decide) m_X2_11 rfl dX2_readMethodAttribute_136 ?_
    refine x_iconst (v := 3) X dX2_readMethodAttribute_139 (by decide) ?_
    refine x_dup2 X dX2_readMethodAttribute_140 rfl rfl ?_
    obtain ⟨i14, h⟩ := chk_some h
    refine x_iald (f := (u 23)) X 9 0 rfl rfl i14 dX2_readMethodAttribute_141 ?_
    refine x_aload_n X dX2_readMethodAttribute_142 rfl 1 rfl ?_
    refine x_get (v := .ref (g.1 5)) X 2 4 in_X2 rfl rfl (by decide) m_X2_45 rfl dX2_readMethodAttribute_143 ?_
    refine x_get (v := .int (u 12 0)) X 5 8 in_X0 rfl rfl (by decide) m_X2_228 rfl dX2_readMethodAttribute_146 ?_
    refine x_iadd X dX2_readMethodAttribute_149 ?_
    obtain ⟨i15, h⟩ := chk_some h
    refine x_iast (f := (u 23)) (u2 := (up u 23 (Int32.toNatClampNeg 3) (((u 23) (Int32.toNatClampNeg 3)) + (u 12 0)))) X 9 0 rfl rfl i15 (wdX_23 g u (Int32.toNatClampNeg 3) (((u 23) (Int32.toNatClampNeg 3)) + (u 12 0))) dX2_readMethodAttribute_150 ?_
    refine x_aload_n X dX2_readMethodAttribute_151 rfl 1 rfl ?_
    refine x_get (v := .ref (g.1 9)) X 2 1 in_X2 rfl rfl (by decide) m_X2_11 rfl dX2_readMethodAttribute_152 ?_
    refine x_iconst (v := 4) X dX2_readMethodAttribute_155 (by decide) ?_
    refine x_dup2 X dX2_readMethodAttribute_156 rfl rfl ?_
    obtain ⟨i16, h⟩ := chk_some h
    refine x_iald (f := ((up u 23 (Int32.toNatClampNeg 3) (((u 23) (Int32.toNatClampNeg 3)) + (u 12 0))) 23)) X 9 0 rfl rfl i16 dX2_readMethodAttribute_157 ?_
    refine x_aload_n X dX2_readMethodAttribute_158 rfl 1 rfl ?_
    refine x_get (v := .ref (g.1 5)) X 2 4 in_X2 rfl rfl (by decide) m_X2_45 rfl dX2_readMethodAttribute_159 ?_
    refine x_get (v := .int (u 13 0)) X 5 9 in_X0 rfl rfl (by decide) m_X2_231 rfl dX2_readMethodAttribute_162 ?_
    refine x_iadd X dX2_readMethodAttribute_165 ?_
    obtain ⟨i17, h⟩ := chk_some h
    refine x_iast (f := ((up u 23 (Int32.toNatClampNeg 3) (((u 23) (Int32.toNatClampNeg 3)) + (u 12 0))) 23)) (u2 := (up (up u 23 (Int32.toNatClampNeg 3) (((u 23) (Int32.toNatClampNeg 3)) + (u 12 0))) 23 (Int32.toNatClampNeg 4) ((((up u 23 (Int32.toNatClampNeg 3) (((u 23) (Int32.toNatClampNeg 3)) + (u 12 0))) 23) (Int32.toNatClampNeg 4)) + (u 13 0)))) X 9 0 rfl rfl i17 (wdX_23 g (up u 23 (Int32.toNatClampNeg 3) (((u 23) (Int32.toNatClampNeg 3)) + (u 12 0))) (Int32.toNatClampNeg 4) ((((up u 23 (Int32.toNatClampNeg 3) (((u 23) (Int32.toNatClampNeg 3)) + (u 12 0))) 23) (Int32.toNatClampNeg 4)) + (u 13 0))) dX2_readMethodAttribute_166 ?_
    refine x_sub [1] rfl ?_
    exact w_X2_readMethodAttribute_j167 ret X (up (up u 23 (Int32.toNatClampNeg 3) (((u 23) (Int32.toNatClampNeg 3)) + (u 12 0))) 23 (Int32.toNatClampNeg 4) ((((up u 23 (Int32.toNatClampNeg 3) (((u 23) (Int32.toNatClampNeg 3)) + (u 12 0))) 23) (Int32.toNatClampNeg 4)) + (u 13 0))) h
  · replace h := if_t c13 h
    refine x_iconst (v := 0) X dX2_readMethodAttribute_133 (by decide) ?_
    exact x_zret X rfl (Option.some.inj h) dX2_readMethodAttribute_134
set_option maxRecDepth 100000 in
set_option maxHeartbeats 4000000 in
theorem w_X2_readMethodAttribute_j127 {K : Cx} {g : Gw} (ret : Int32 × St) (X : XC K g cX2_readMethodAttribute 4 RX2 (some .boolean) rm_X2_readMethodAttribute) (u : St) (h : f_X2_readMethodAttribute_j127 u = some ret) : XW K 0 0 4 (QI K g (wdX g) ret) (wdX g) u 127 [(0, .ref (g.1 2))] [] := by
  unfold f_X2_readMethodAttribute_j127 at h
  refine x_iconst (v := 0) X dX2_readMethodAttribute_127 (by decide) ?_
  exact w_X2_readMethodAttribute_j128 ret X 0 u h
set_option maxRecDepth 100000 in
set_option maxHeartbeats 4000000 in
theorem w_X2_readMethodAttribute_j57 {K : Cx} {g : Gw} (ret : Int32 × St) (X : XC K g cX2_readMethodAttribute 4 RX2 (some .boolean) rm_X2_readMethodAttribute) (x1 : Int32) (x2 : Int32) (u : St) (h : f_X2_readMethodAttribute_j57 x1 x2 u = some ret) : XW K 0 0 4 (QI K g (wdX g) ret) (wdX g) u 57 [(0, .ref (g.1 2)), (1, .int x1), (2, .int x2)] [] := by
  unfold f_X2_readMethodAttribute_j57 at h
  refine x_aload_n X dX2_readMethodAttribute_57 rfl 0 rfl ?_
  obtain ⟨q6, e6, h⟩ := bd h
  refine x_callI X [] [] (c_X2_stepAttributeBytes K.l K.D g u q6 e6) ok_X2_stepAttributeBytes m_X2_192 2 rfl rfl rfl rfl (Nat.le_of_ble_eq_true rfl) ⟨Nat.zero_le _, Nat.zero_le _⟩ ⟨rfl, rfl, by decide, by decide⟩ dX2_readMethodAttribute_58 ?_
  refine x_if_ne (tgt := 66) X dX2_readMethodAttribute_61 (by decide) (fun c7 => ?_) (fun c7 => ?_)
  · replace h := if_f c7 h
    refine x_iload_n X dX2_readMethodAttribute_66 rfl 2 rfl ?_
    refine x_if_eq (tgt := 167) X dX2_readMethodAttribute_67 (by decide) (fun c8 => ?_) (fun c8 => ?_)
    · replace h := if_t c8 h
      refine x_sub [0] rfl ?_
      exact w_X2_readMethodAttribute_j167 ret X q6.2 h
    · replace h := if_f c8 h
      refine x_aload_n X dX2_readMethodAttribute_70 rfl 0 rfl ?_
      refine x_iconst (v := 1) X dX2_readMethodAttribute_71 (by decide) ?_
      refine x_put (ty := .boolean) (u2 := (up q6.2 14 0 1)) X 2 6 in_X2 tk_X2 nk_X2 rfl rfl (by decide) m_X2_204 rfl rfl rfl rfl (Nat.le_of_ble_eq_true rfl) (wdX_14 g q6.2 1) dX2_readMethodAttribute_72 ?_
      refine x_aload_n X dX2_readMethodAttribute_75 rfl 0 rfl ?_
      refine x_iload_n X dX2_readMethodAttribute_76 rfl 1 rfl ?_
      obtain ⟨q11, e11, h⟩ := bd h
      refine x_callI X [.int x1] [] (c_X2_readCode K.l K.D g x1 (up q6.2 14 0 1) q11 e11) ok_X2_readCode m_X2_213 2 rfl rfl rfl rfl (Nat.le_of_ble_eq_true rfl) ⟨Nat.zero_le _, Nat.zero_le _⟩ ⟨rfl, rfl, by decide, by decide⟩ dX2_readMethodAttribute_77 ?_
      refine x_if_eq (tgt := 127) X dX2_readMethodAttribute_80 (by decide) (fun c12 => ?_) (fun c12 => ?_)
      · replace h := if_t c12 h
        refine x_sub [0] rfl ?_
        exact w_X2_readMethodAttribute_j127 ret X q11.2 h
      · replace h := if_f c12 h
        refine x_aload_n X dX2_readMethodAttribute_83 rfl 0 rfl ?_
        refine x_get (v := .ref (g.1 5)) X 2 4 in_X2 rfl rfl (by decide) m_X2_45 rfl dX2_readMethodAttribute_84 ?_
        obtain ⟨q18, e18, h⟩ := bd h
        refine x_callI X [] [] (c_X0_judgeInstructions K.l K.D g q11.2 q18 e18) ok_X0_judgeInstructions m_X2_216 5 rfl rfl rfl rfl (Nat.le_of_ble_eq_true rfl) ⟨Nat.zero_le _, Nat.zero_le _⟩ ⟨rfl, rfl, by decide, by decide⟩ dX2_readMethodAttribute_87 ?_
        refine x_if_eq (tgt := 127) X dX2_readMethodAttribute_90 (by decide) (fun c19 => ?_) (fun c19 => ?_)
        · replace h := if_t c19 h
          refine x_sub [0] rfl ?_
          exact w_X2_readMethodAttribute_j127 ret X q18.2 h
        · replace h := if_f c19 h
          refine x_aload_n X dX2_readMethodAttribute_93 rfl 0 rfl ?_
          refine x_get (v := .ref (g.1 5)) X 2 4 in_X2 rfl rfl (by decide) m_X2_45 rfl dX2_readMethodAttribute_94 ?_
          obtain ⟨q20, e20, h⟩ := bd h
          refine x_callI X [] [] (c_X0_judgeJumps K.l K.D g q18.2 q20 e20) ok_X0_judgeJumps m_X2_219 5 rfl rfl rfl rfl (Nat.le_of_ble_eq_true rfl) ⟨Nat.zero_le _, Nat.zero_le _⟩ ⟨rfl, rfl, by decide, by decide⟩ dX2_readMethodAttribute_97 ?_
          refine x_if_eq (tgt := 127) X dX2_readMethodAttribute_100 (by decide) (fun c21 => ?_) (fun c21 => ?_)
          · replace h := if_t c21 h
            refine x_sub [0] rfl ?_
            exact w_X2_readMethodAttribute_j127 ret X q20.2 h
          · replace h := if_f c21 h
            refine x_aload_n X dX2_readMethodAttribute_103 rfl 0 rfl ?_
            refine x_get (v := .ref (g.1 5)) X 2 4 in_X2 rfl rfl (by decide) m_X2_45 rfl dX2_readMethodAttribute_104 ?_
            obtain ⟨q22, e22, h⟩ := bd h
            refine x_callI X [] [] (c_X0_judgeLast K.l K.D g q20.2 q22 e22) ok_X0_judgeLast m_X2_222 5 rfl rfl rfl rfl (Nat.le_of_ble_eq_true rfl) ⟨Nat.zero_le _, Nat.zero_le _⟩ ⟨rfl, rfl, by decide, by decide⟩ dX2_readMethodAttribute_107 ?_
            refine x_if_eq (tgt := 127) X dX2_readMethodAttribute_110 (by decide) (fun c23 => ?_) (fun c23 => ?_)
            · replace h := if_t c23 h
              refine x_sub [0] rfl ?_
              exact w_X2_readMethodAttribute_j127 ret X q22.2 h
            · replace h := if_f c23 h
              refine x_aload_n X dX2_readMethodAttribute_113 rfl 0 rfl ?_
              refine x_get (v := .ref (g.1 5)) X 2 4 in_X2 rfl rfl (by decide) m_X2_45 rfl dX2_readMethodAttribute_114 ?_
              obtain ⟨q24, e24, h⟩ := bd h
              refine x_callI X [] [] (c_X0_judgeHandlers K.l K.D g q22.2 q24 e24) ok_X0_judgeHandlers m_X2_225 5 rfl rfl rfl rfl (Nat.le_of_ble_eq_true rfl) ⟨Nat.zero_le _, Nat.zero_le _⟩ ⟨rfl, rfl, by decide, by decide⟩ dX2_readMethodAttribute_117 ?_
              refine x_if_eq (tgt := 127) X dX2_readMethodAttribute_120 (by decide) (fun c25 => ?_) (fun c25 => ?_)
              · replace h := if_t c25 h
                refine x_sub [0] rfl ?_
                exact w_X2_readMethodAttribute_j127 ret X q24.2 h
              · replace h := if_f c25 h
                refine x_iconst (v := 1) X dX2_readMethodAttribute_123 (by decide) ?_
                refine x_goto (tgt := 128) X dX2_readMethodAttribute_124 (by decide) ?_
                refine x_sub [0] rfl ?_
                exact w_X2_readMethodAttribute_j128 ret X 1 q24.2 h
  · replace h := if_t c7 h
    refine x_iconst (v := 0) X dX2_readMethodAttribute_64 (by decide) ?_
    exact x_zret X rfl (Option.some.inj h) dX2_readMethodAttribute_65
set_option maxRecDepth 100000 in
set_option maxHeartbeats 4000000 in
theorem c_X2_readMethodAttribute (l : Launch) (D : va_G) (g : Gw) (u : St) (ret : Int32 × St) (h : f_X2_readMethodAttribute u = some ret) : metI l D g (wdX g) yX2_readMethodAttribute cX2_readMethodAttribute 4 .boolean rm_X2_readMethodAttribute [.ref (g.1 2)] u ret := by
  refine metI_of (own := RX2) (lv := [(0, .ref (g.1 2))]) (by decide) rfl rfl (Nat.le_of_ble_eq_true rfl) (fun K hl9 hD9 X => ?_)
  subst hl9
  subst hD9
  unfold f_X2_readMethodAttribute at h
  refine x_aload_n X dX2_readMethodAttribute_0 rfl 0 rfl ?_
  refine x_get (v := .ref (g.1 3)) X 2 0 in_X2 rfl rfl (by decide) m_X2_27 rfl dX2_readMethodAttribute_1 ?_
  refine x_get (v := .int (u 4 0)) X 3 3 in_X5 rfl rfl (by decide) m_X2_87 rfl dX2_readMethodAttribute_4 ?_
  refine x_istore_n (lv2 := [(1, .int (u 4 0)), (0, .ref (g.1 2))]) X dX2_readMethodAttribute_7 rfl (by decide) rfl ?_
  refine x_aload_n X dX2_readMethodAttribute_8 rfl 1 rfl ?_
  obtain ⟨q1, e1, h⟩ := bd h
  refine x_callI X [] [] (c_X2_readAttributeName K.l K.D g u q1 e1) ok_X2_readAttributeName m_X2_189 2 rfl rfl rfl rfl (Nat.le_of_ble_eq_true rfl) ⟨Nat.zero_le _, Nat.zero_le _⟩ ⟨rfl, rfl, by decide, by decide⟩ dX2_readMethodAttribute_9 ?_
  refine x_if_ne (tgt := 17) X dX2_readMethodAttribute_12 (by decide) (fun c2 => ?_) (fun c2 => ?_)
  · replace h := if_f c2 h
    refine x_aload_n X dX2_readMethodAttribute_17 rfl 1 rfl ?_
    refine x_get (v := .ref (g.1 4)) X 2 3 in_X2 rfl rfl (by decide) m_X2_36 rfl dX2_readMethodAttribute_18 ?_
    refine x_aload_n X dX2_readMethodAttribute_21 rfl 1 rfl ?_
    refine x_get (v := .ref (g.1 1)) X 2 2 in_X2 rfl rfl (by decide) m_X2_18 rfl dX2_readMethodAttribute_22 ?_
    refine x_iload_n X dX2_readMethodAttribute_25 rfl 0 rfl ?_
    obtain ⟨q3, e3, h⟩ := bd h
    refine x_callR X [.int (u 4 0)] [.ref (g.1 4)] (c_X1_u2 K.l K.D g (u 4 0) q1.2 q3 e3) ok_X1_u2 m_X2_109 1 rfl rfl rfl rfl (Nat.le_of_ble_eq_true rfl) ⟨Nat.zero_le _, Nat.zero_le _⟩ ⟨rfl, rfl, by decide, by decide⟩ dX2_readMethodAttribute_26 ?_
    refine x_ldcS (q := g.1 103) X X.2.2.2.1.2.2.2.2.2.1 dX2_readMethodAttribute_29 ?_
    obtain ⟨q4, e4, h⟩ := bd h
    refine x_callR X [.int q3, .ref (g.1 103)] [] (c_X4_isWord_s3 K.l K.D g q3 q1.2 q4 e4) ok_X4_isWord m_X2_197 4 rfl rfl rfl rfl (Nat.le_of_ble_eq_true rfl) ⟨Nat.zero_le _, Nat.zero_le _⟩ ⟨rfl, rfl, by decide, by decide⟩ dX2_readMethodAttribute_31 ?_
    refine x_istore_n (lv2 := [(2, .int q4), (1, .int (u 4 0)), (0, .ref (g.1 2))]) X dX2_readMethodAttribute_34 rfl (by decide) rfl ?_
    refine x_iload_n X dX2_readMethodAttribute_35 rfl 0 rfl ?_
    refine x_if_eq (tgt := 57) X dX2_readMethodAttribute_36 (by decide) (fun c5 => ?_) (fun c5 => ?_)
    · replace h := if_t c5 h
      refine x_sub [2, 1, 0] rfl ?_
      exact w_X2_readMethodAttribute_j57 ret X (u 4 0) q4 q1.2 h
    · replace h := if_f c5 h
      refine x_aload_n X dX2_readMethodAttribute_39 rfl 2 rfl ?_
      refine x_get (v := .int (q1.2 14 0)) X 2 6 in_X2 rfl rfl (by decide) m_X2_204 rfl dX2_readMethodAttribute_40 ?_
      refine x_if_eq (tgt := 57) X dX2_readMethodAttribute_43 (by decide) (fun c26 => ?_) (fun c26 => ?_)
      · replace h := if_t c26 h
        refine x_sub [2, 1, 0] rfl ?_
        exact w_X2_readMethodAttribute_j57 ret X (u 4 0) q4 q1.2 h
      · replace h := if_f c26 h
        refine x_aload_n X dX2_readMethodAttribute_46 rfl 2 rfl ?_
        refine x_get (v := .ref (g.1 3)) X 2 0 in_X2 rfl rfl (by decide) m_X2_27 rfl dX2_readMethodAttribute_47 ?_
        refine x_bipush (v := 19) X dX2_readMethodAttribute_50 (by decide) ?_
        refine x_iload_n X dX2_readMethodAttribute_52 rfl 1 rfl ?_
        obtain ⟨q27, e27, h⟩ := bd h
        refine x_callI X [.int 19, .int (u 4 0)] [] (c_X5_broken K.l K.D g 19 (u 4 0) q1.2 q27 e27) ok_X5_broken m_X2_93 3 rfl rfl rfl rfl (Nat.le_of_ble_eq_true rfl) ⟨Nat.zero_le _, Nat.zero_le _⟩ ⟨rfl, rfl, by decide, by decide⟩ dX2_readMethodAttribute_53 ?_
        obtain ⟨b28, h⟩ := bchk_some h
        exact x_zret X b28 (Option.some.inj h) dX2_readMethodAttribute_56
  · replace h := if_t c2 h
    refine x_iconst (v := 0) X dX2_readMethodAttribute_15 (by decide) ?_
    exact x_zret X rfl (Option.some.inj h) dX2_readMethodAttribute_16
abbrev H_X2_readMethods_7 (x1 : Int32) (K : Cx) (g : Gw) (ret : Int32 × St) (a : Int32 × St) : Prop := XW K 0 0 5 (QI K g (wdX g) ret) (wdX g) a.2 7 [(0, .ref (g.1 2)), (1, .int x1), (2, .int a.1)] []
abbrev E_X2_readMethods_7 (x1 : Int32) (K : Cx) (g : Gw) (ret : Int32 × St) (q : (Int32 × St) ⊕ (St)) : Prop := Sum.elim (fun q => q = ret) (fun q => XW K 0 0 5 (QI K g (wdX g) ret) (wdX g) q 132 [(1, .int x1)] []) q
abbrev H_X2_readMethods_36 (x1 : Int32) (x2 : Int32) (x3 : Int32) (K : Cx) (g : Gw) (ret : Int32 × St) (a : Int32 × St) : Prop := XW K 0 0 5 (QI K g (wdX g) ret) (wdX g) a.2 36 [(0, .ref (g.1 2)), (1, .int x1), (2, .int x2), (3, .int x3), (4, .int a.1)] []
abbrev E_X2_readMethods_36 (x1 : Int32) (x2 : Int32) (x3 : Int32) (K : Cx) (g : Gw) (ret : Int32 × St) (q : (Int32 × St) ⊕ (St)) : Prop := Sum.elim (fun q => q = ret) (fun q => XW K 0 0 5 (QI K g (wdX g) ret) (wdX g) q 57 [(0, .ref (g.1 2)), (1, .int x1), (2, .int x2), (3, .int x3)] []) q
set_option maxRecDepth 100000 in
set_option maxHeartbeats 4000000 in
theorem w_X2_readMethods_b36 {K : Cx} {g : Gw} (x1 : Int32) (x2 : Int32) (x3 : Int32) (ret : Int32 × St) (X : XC K g cX2_readMethods 5 RX2 (some .boolean) rm_X2_readMethods) (a : Int32 × St) (r : ((Int32 × St) ⊕ (St)) ⊕ (Int32 × St)) (h : f_X2_readMethods_b36 x1 x2 x3 a = some r) (k0 : ∀ q, r = .inl q → E_X2_readMethods_36 x1 x2 x3 K g ret q) (k1 : ∀ q, r = .inr q → H_X2_readMethods_36 x1 x2 x3 K g ret q) : H_X2_readMethods_36 x1 x2 x3 K g ret a := by
  unfold f_X2_readMethods_b36 at h
  show XW K 0 0 5 (QI K g (wdX g) ret) (wdX g) a.2 36 [(0, .ref (g.1 2)), (1, .int x1), (2, .int x2), (3, .int x3), (4, .int a.1)] []
  refine x_iload X dX2_readMethods_36 4 rfl ?_
  refine x_iload_n X dX2_readMethods_38 rfl 3 rfl ?_
  refine x_icmp_ge (tgt := 57) X dX2_readMethods_39 (by decide) (fun c6 => ?_) (fun c6 => ?_)
  · replace h := if_t c6 h
    refine x_sub [0, 1, 2, 3] rfl ?_
    have h9 := k0 _ (Option.some.inj h).symm
    exact h9
  · replace h := if_f c6 h
    refine x_aload_n X dX2_readMethods_42 rfl 0 rfl ?_
    obtain ⟨q7, e7, h⟩ := bd h
    refine x_callI X [] [] (c_X2_readMethodAttribute K.l K.D g a.2 q7 e7) ok_X2_readMethodAttribute m_X2_208 2 rfl rfl rfl rfl (Nat.le_of_ble_eq_true rfl) ⟨Nat.zero_le _, Nat.zero_le _⟩ ⟨rfl, rfl, by decide, by decide⟩ dX2_readMethods_43 ?_
    refine x_if_ne (tgt := 51) X dX2_readMethods_46 (by decide) (fun c8 => ?_) (fun c8 => ?_)
    · replace h := if_f c8 h
      refine x_iinc (v := (a.1 + 1)) (lv2 := [(4, .int (a.1 + 1)), (0, .ref (g.1 2)), (1, .int x1), (2, .int x2), (3, .int x3)]) X dX2_readMethods_51 4 rfl rfl (by decide) rfl ?_
      refine x_goto (tgt := 36) X dX2_readMethods_54 (by decide) ?_
      refine x_sub [1, 2, 3, 4, 0] rfl ?_
      have h9 := k1 _ (Option.some.inj h).symm
      exact h9
    · replace h := if_t c8 h
      refine x_iconst (v := 0) X dX2_readMethods_49 (by decide) ?_
      exact x_zret X rfl (k0 _ (Option.some.inj h).symm) dX2_readMethods_50
set_option maxRecDepth 100000 in
set_option maxHeartbeats 4000000 in
theorem w_X2_readMethods_j89_7 {K : Cx} {g : Gw} (ret : Int32 × St) (X : XC K g cX2_readMethods 5 RX2 (some .boolean) rm_X2_readMethods) (x1 : Int32) (x2 : Int32) (z0 : Int32) (u : St) (r : ((Int32 × St) ⊕ (St)) ⊕ (Int32 × St)) (h : f_X2_readMethods_j89_7 x1 x2 z0 u = some r) (k0 : ∀ q, r = .inl q → E_X2_readMethods_7 x1 K g ret q) (k1 : ∀ q, r = .inr q → H_X2_readMethods_7 x1 K g ret q) : XW K 0 0 5 (QI K g (wdX g) ret) (wdX g) u 89 [(0, .ref (g.1 2)), (1, .int x1), (2, .int x2)] [.int z0] := by
  unfold f_X2_readMethods_j89_7 at h
  refine x_istore (lv2 := [(4, .int z0), (0, .ref (g.1 2)), (1, .int x1), (2, .int x2)]) X dX2_readMethods_89 (by decide) rfl ?_
  refine x_iload X dX2_readMethods_91 0 rfl ?_
  refine x_aload_n X dX2_readMethods_93 rfl 1 rfl ?_
  refine x_get (v := .int (u 14 0)) X 2 6 in_X2 rfl rfl (by decide) m_X2_204 rfl dX2_readMethods_94 ?_
  refine x_icmp_ne (tgt := 116) X dX2_readMethods_97 (by decide) (fun c14 => ?_) (fun c14 => ?_)
  · replace h := if_f c14 h
    refine x_aload_n X dX2_readMethods_116 rfl 1 rfl ?_
    refine x_get (v := .ref (g.1 9)) X 2 1 in_X2 rfl rfl (by decide) m_X2_11 rfl dX2_readMethods_117 ?_
    refine x_iconst (v := 2) X dX2_readMethods_120 (by decide) ?_
    refine x_dup2 X dX2_readMethods_121 rfl rfl ?_
    obtain ⟨i15, h⟩ := chk_some h
    refine x_iald (f := (u 23)) X 9 0 rfl rfl i15 dX2_readMethods_122 ?_
    refine x_iconst (v := 1) X dX2_readMethods_123 (by decide) ?_
    refine x_iadd X dX2_readMethods_124 ?_
    obtain ⟨i16, h⟩ := chk_some h
    refine x_iast (f := (u 23)) (u2 := (up u 23 (Int32.toNatClampNeg 2) (((u 23) (Int32.toNatClampNeg 2)) + 1))) X 9 0 rfl rfl i16 (wdX_23 g u (Int32.toNatClampNeg 2) (((u 23) (Int32.toNatClampNeg 2)) + 1)) dX2_readMethods_125 ?_
    refine x_iinc (v := (x2 + 1)) (lv2 := [(2, .int (x2 + 1)), (4, .int z0), (0, .ref (g.1 2)), (1, .int x1)]) X dX2_readMethods_126 3 rfl rfl (by decide) rfl ?_
    refine x_goto (tgt := 7) X dX2_readMethods_129 (by decide) ?_
    refine x_sub [2, 3, 0] rfl ?_
    have h9 := k1 _ (Option.some.inj h).symm
    exact h9
  · replace h := if_t c14 h
    refine x_aload_n X dX2_readMethods_100 rfl 1 rfl ?_
    refine x_get (v := .ref (g.1 3)) X 2 0 in_X2 rfl rfl (by decide) m_X2_27 rfl dX2_readMethods_101 ?_
    refine x_bipush (v := 21) X dX2_readMethods_104 (by decide) ?_
    refine x_aload_n X dX2_readMethods_106 rfl 1 rfl ?_
    refine x_get (v := .ref (g.1 10)) X 2 5 in_X2 rfl rfl (by decide) m_X2_15 rfl dX2_readMethods_107 ?_
    refine x_iload_n X dX2_readMethods_110 rfl 3 rfl ?_
    obtain ⟨i17, h⟩ := chk_some h
    refine x_iald (f := (u 24)) X 10 0 rfl rfl i17 dX2_readMethods_111 ?_
    obtain ⟨q18, e18, h⟩ := bd h
    refine x_callI X [.int 21, .int ((u 24) (Int32.toNatClampNeg x2))] [] (c_X5_broken K.l K.D g 21 ((u 24) (Int32.toNatClampNeg x2)) u q18 e18) ok_X5_broken m_X2_93 3 rfl rfl rfl rfl (Nat.le_of_ble_eq_true rfl) ⟨Nat.zero_le _, Nat.zero_le _⟩ ⟨rfl, rfl, by decide, by decide⟩ dX2_readMethods_112 ?_
    obtain ⟨b19, h⟩ := bchk_some h
    exact x_zret X b19 (k0 _ (Option.some.inj h).symm) dX2_readMethods_115
set_option maxRecDepth 100000 in
set_option maxHeartbeats 4000000 in
theorem w_X2_readMethods_b7 {K : Cx} {g : Gw} (x1 : Int32) (ret : Int32 × St) (X : XC K g cX2_readMethods 5 RX2 (some .boolean) rm_X2_readMethods) (a : Int32 × St) (r : ((Int32 × St) ⊕ (St)) ⊕ (Int32 × St)) (h : f_X2_readMethods_b7 x1 a = some r) (k0 : ∀ q, r = .inl q → E_X2_readMethods_7 x1 K g ret q) (k1 : ∀ q, r = .inr q → H_X2_readMethods_7 x1 K g ret q) : H_X2_readMethods_7 x1 K g ret a := by
  unfold f_X2_readMethods_b7 at h
  show XW K 0 0 5 (QI K g (wdX g) ret) (wdX g) a.2 7 [(0, .ref (g.1 2)), (1, .int x1), (2, .int a.1)] []
  refine x_iload_n X dX2_readMethods_7 rfl 2 rfl ?_
  refine x_iload_n X dX2_readMethods_8 rfl 1 rfl ?_
  refine x_icmp_ge (tgt := 132) X dX2_readMethods_9 (by decide) (fun c2 => ?_) (fun c2 => ?_)
  · replace h := if_t c2 h
    refine x_sub [1] rfl ?_
    have h9 := k0 _ (Option.some.inj h).symm
    exact h9
  · replace h := if_f c2 h
    refine x_aload_n X dX2_readMethods_12 rfl 0 rfl ?_
    refine x_iload_n X dX2_readMethods_13 rfl 2 rfl ?_
    refine x_iconst (v := 1) X dX2_readMethods_14 (by decide) ?_
    obtain ⟨q3, e3, h⟩ := bd h
    refine x_callI X [.int a.1, .int 1] [] (c_X2_readMemberHead K.l K.D g a.1 1 a.2 q3 e3) ok_X2_readMemberHead m_X2_125 2 rfl rfl rfl rfl (Nat.le_of_ble_eq_true rfl) ⟨Nat.zero_le _, Nat.zero_le _⟩ ⟨rfl, rfl, by decide, by decide⟩ dX2_readMethods_15 ?_
    refine x_if_ne (tgt := 23) X dX2_readMethods_18 (by decide) (fun c4 => ?_) (fun c4 => ?_)
    · replace h := if_f c4 h
      refine x_aload_n X dX2_readMethods_23 rfl 0 rfl ?_
      refine x_iconst (v := 0) X dX2_readMethods_24 (by decide) ?_
      refine x_put (ty := .boolean) (u2 := (up q3.2 14 0 0)) X 2 6 in_X2 tk_X2 nk_X2 rfl rfl (by decide) m_X2_204 rfl rfl rfl rfl (Nat.le_of_ble_eq_true rfl) (wdX_14 g q3.2 0) dX2_readMethods_25 ?_
      refine x_aload_n X dX2_readMethods_28 rfl 0 rfl ?_
      obtain ⟨q5, e5, h⟩ := bd h
      refine x_callI X [] [] (c_X2_readNumber K.l K.D g (up q3.2 14 0 0) q5 e5) ok_X2_readNumber m_X2_121 2 rfl rfl rfl rfl (Nat.le_of_ble_eq_true rfl) ⟨Nat.zero_le _, Nat.zero_le _⟩ ⟨rfl, rfl, by decide, by decide⟩ dX2_readMethods_29 ?_
      refine x_istore_n (lv2 := [(3, .int q5.1), (0, .ref (g.1 2)), (1, .int x1), (2, .int a.1)]) X dX2_readMethods_32 rfl (by decide) rfl ?_
      refine x_iconst (v := 0) X dX2_readMethods_33 (by decide) ?_
      refine x_istore (lv2 := [(4, .int 0), (3, .int q5.1), (0, .ref (g.1 2)), (1, .int x1), (2, .int a.1)]) X dX2_readMethods_34 (by decide) rfl ?_
      refine x_sub [2, 3, 4, 1, 0] rfl ?_
      obtain ⟨q90, e9, h⟩ := bd h
      refine loopF_w (WH := H_X2_readMethods_36 x1 a.1 q5.1 K g ret) (KB := E_X2_readMethods_36 x1 a.1 q5.1 K g ret) (fun a9 r9 h9 k8 k7 => w_X2_readMethods_b36 x1 a.1 q5.1 ret X a9 r9 h9 k8 k7) FU (0, q5.2) q90 e9 ?_
      rcases q90 with q9 | q9
      · replace h := sl h
        exact (k0 _ (Option.some.inj h).symm)
      · replace h := sr h
        show XW K 0 0 5 (QI K g (wdX g) ret) (wdX g) q9 57 [(0, .ref (g.1 2)), (1, .int x1), (2, .int a.1), (3, .int q5.1)] []
        refine x_iload_n X dX2_readMethods_57 rfl 3 rfl ?_
        refine x_iconst (v := (-1)) X dX2_readMethods_58 (by decide) ?_
        refine x_icmp_ne (tgt := 64) X dX2_readMethods_59 (by decide) (fun c10 => ?_) (fun c10 => ?_)
        · replace h := if_f c10 h
          refine x_aload_n X dX2_readMethods_64 rfl 0 rfl ?_
          refine x_get (v := .ref (g.1 1)) X 2 2 in_X2 rfl rfl (by decide) m_X2_18 rfl dX2_readMethods_65 ?_
          refine x_aload_n X dX2_readMethods_68 rfl 0 rfl ?_
          refine x_get (v := .ref (g.1 10)) X 2 5 in_X2 rfl rfl (by decide) m_X2_15 rfl dX2_readMethods_69 ?_
          refine x_iload_n X dX2_readMethods_72 rfl 2 rfl ?_
          obtain ⟨i11, h⟩ := chk_some h
          refine x_iald (f := (q9 24)) X 10 0 rfl rfl i11 dX2_readMethods_73 ?_
          obtain ⟨q12, e12, h⟩ := bd h
          refine x_callR X [.int ((q9 24) (Int32.toNatClampNeg a.1))] [] (c_X1_u2 K.l K.D g ((q9 24) (Int32.toNatClampNeg a.1)) q9 q12 e12) ok_X1_u2 m_X2_109 1 rfl rfl rfl rfl (Nat.le_of_ble_eq_true rfl) ⟨Nat.zero_le _, Nat.zero_le _⟩ ⟨rfl, rfl, by decide, by decide⟩ dX2_readMethods_74 ?_
          refine x_sipush (v := 1280) X dX2_readMethods_77 (by decide) ?_
          refine x_iand X dX2_readMethods_80 ?_
          refine x_if_eq (tgt := 88) X dX2_readMethods_81 (by decide) (fun c13 => ?_) (fun c13 => ?_)
          · replace h := if_t c13 h
            refine x_iconst (v := 0) X dX2_readMethods_88 (by decide) ?_
            refine x_sub [0, 1, 2] rfl ?_
            exact w_X2_readMethods_j89_7 ret X x1 a.1 0 q9 r h k0 k1
          · replace h := if_f c13 h
            refine x_iconst (v := 1) X dX2_readMethods_84 (by decide) ?_
            refine x_goto (tgt := 89) X dX2_readMethods_85 (by decide) ?_
            refine x_sub [0, 1, 2] rfl ?_
            exact w_X2_readMethods_j89_7 ret X x1 a.1 1 q9 r h k0 k1
        · replace h := if_t c10 h
          refine x_iconst (v := 0) X dX2_readMethods_62 (by decide) ?_
          exact x_zret X rfl (k0 _ (Option.some.inj h).symm) dX2_readMethods_63
    · replace h := if_t c4 h
      refine x_iconst (v := 0) X dX2_readMethods_21 (by decide) ?_
      exact x_zret X rfl (k0 _ (Option.some.inj h).symm) dX2_readMethods_22
set_option maxRecDepth 100000 in
set_option maxHeartbeats 4000000 in
theorem w_X2_readMethods_j142 {K : Cx} {g : Gw} (ret : Int32 × St) (X : XC K g cX2_readMethods 5 RX2 (some .boolean) rm_X2_readMethods) (z0 : Int32) (u : St) (h : f_X2_readMethods_j142 z0 u = some ret) : XW K 0 0 5 (QI K g (wdX g) ret) (wdX g) u 142 [] [.int z0] := by
  unfold f_X2_readMethods_j142 at h
  obtain ⟨b22, h⟩ := bchk_some h
  exact x_zret X b22 (Option.some.inj h) dX2_readMethods_142
set_option maxRecDepth 100000 in
set_option maxHeartbeats 4000000 in
theorem c_X2_readMethods (l : Launch) (D : va_G) (g : Gw) (u : St) (ret : Int32 × St) (h : f_X2_readMethods u = some ret) : metI l D g (wdX g) yX2_readMethods cX2_readMethods 5 .boolean rm_X2_readMethods [.ref (g.1 2)] u ret := by
  refine metI_of (own := RX2) (lv := [(0, .ref (g.1 2))]) (by decide) rfl rfl (Nat.le_of_ble_eq_true rfl) (fun K hl9 hD9 X => ?_)
  subst hl9
  subst hD9
  unfold f_X2_readMethods at h
  refine x_aload_n X dX2_readMethods_0 rfl 0 rfl ?_
  obtain ⟨q1, e1, h⟩ := bd h
  refine x_callI X [] [] (c_X2_readNumber K.l K.D g u q1 e1) ok_X2_readNumber m_X2_121 2 rfl rfl rfl rfl (Nat.le_of_ble_eq_true rfl) ⟨Nat.zero_le _, Nat.zero_le _⟩ ⟨rfl, rfl, by decide, by decide⟩ dX2_readMethods_1 ?_
  refine x_istore_n (lv2 := [(1, .int q1.1), (0, .ref (g.1 2))]) X dX2_readMethods_4 rfl (by decide) rfl ?_
  refine x_iconst (v := 0) X dX2_readMethods_5 (by decide) ?_
  refine x_istore_n (lv2 := [(2, .int 0), (1, .int q1.1), (0, .ref (g.1 2))]) X dX2_readMethods_6 rfl (by decide) rfl ?_
  refine x_sub [2, 1, 0] rfl ?_
  obtain ⟨q200, e20, h⟩ := bd h
  refine loopF_w (WH := H_X2_readMethods_7 q1.1 K g ret) (KB := E_X2_readMethods_7 q1.1 K g ret) (fun a9 r9 h9 k8 k7 => w_X2_readMethods_b7 q1.1 ret X a9 r9 h9 k8 k7) FU (0, q1.2) q200 e20 ?_
  rcases q200 with q20 | q20
  · replace h := sl h
    exact (Option.some.inj h)
  · replace h := sr h
    show XW K 0 0 5 (QI K g (wdX g) ret) (wdX g) q20 132 [(1, .int q1.1)] []
    refine x_iload_n X dX2_readMethods_132 rfl 0 rfl ?_
    refine x_iconst (v := (-1)) X dX2_readMethods_133 (by decide) ?_
    refine x_icmp_eq (tgt := 141) X dX2_readMethods_134 (by decide) (fun c21 => ?_) (fun c21 => ?_)
    · replace h := if_t c21 h
      refine x_iconst (v := 0) X dX2_readMethods_141 (by decide) ?_
      refine x_sub [] rfl ?_
      exact w_X2_readMethods_j142 ret X 0 q20 h
    · replace h := if_f c21 h
      refine x_iconst (v := 1) X dX2_readMethods_137 (by decide) ?_
      refine x_goto (tgt := 142) X dX2_readMethods_138 (by decide) ?_
      refine x_sub [] rfl ?_
      exact w_X2_readMethods_j142 ret X 1 q20 h
abbrev H_X2_run_16 (K : Cx) (g : Gw) (ret : Int32 × St) (a : Int32 × St) : Prop := XW K 0 0 2 (QI K g (wdX g) ret) (wdX g) a.2 16 [(0, .ref (g.1 2)), (1, .int a.1)] []
abbrev E_X2_run_16 (K : Cx) (g : Gw) (ret : Int32 × St) (q : (Int32 × St) ⊕ (St)) : Prop := Sum.elim (fun q => q = ret) (fun q => XW K 0 0 2 (QI K g (wdX g) ret) (wdX g) q 35 [(0, .ref (g.1 2))] []) q
set_option maxRecDepth 100000 in
set_option maxHeartbeats 4000000 in
theorem w_X2_run_b16 {K : Cx} {g : Gw} (ret : Int32 × St) (X : XC K g cX2_run 2 RX2 (some .int) rm_X2_run) (a : Int32 × St) (r : ((Int32 × St) ⊕ (St)) ⊕ (Int32 × St)) (h : f_X2_run_b16 a = some r) (k0 : ∀ q, r = .inl q → E_X2_run_16 K g ret q) (k1 : ∀ q, r = .inr q → H_X2_run_16 K g ret q) : H_X2_run_16 K g ret a := by
  unfold f_X2_run_b16 at h
  show XW K 0 0 2 (QI K g (wdX g) ret) (wdX g) a.2 16 [(0, .ref (g.1 2)), (1, .int a.1)] []
  refine x_iload_n X dX2_run_16 rfl 1 rfl ?_
  refine x_bipush (v := 7) X dX2_run_17 (by decide) ?_
  refine x_icmp_ge (tgt := 35) X dX2_run_19 (by decide) (fun c3 => ?_) (fun c3 => ?_)
  · replace h := if_t c3 h
    refine x_sub [0] rfl ?_
    have h9 := k0 _ (Option.some.inj h).symm
    exact h9
  · replace h := if_f c3 h
    refine x_aload_n X dX2_run_22 rfl 0 rfl ?_
    refine x_get (v := .ref (g.1 9)) X 2 1 in_X2 rfl rfl (by decide) m_X2_11 rfl dX2_run_23 ?_
    refine x_iload_n X dX2_run_26 rfl 1 rfl ?_
    refine x_iconst (v := 0) X dX2_run_27 (by decide) ?_
    obtain ⟨i4, h⟩ := chk_some h
    refine x_iast (f := (a.2 23)) (u2 := (up a.2 23 (Int32.toNatClampNeg a.1) 0)) X 9 0 rfl rfl i4 (wdX_23 g a.2 (Int32.toNatClampNeg a.1) 0) dX2_run_28 ?_
    refine x_iinc (v := (a.1 + 1)) (lv2 := [(1, .int (a.1 + 1)), (0, .ref (g.1 2))]) X dX2_run_29 1 rfl rfl (by decide) rfl ?_
    refine x_goto (tgt := 16) X dX2_run_32 (by decide) ?_
    refine x_sub [1, 0] rfl ?_
    have h9 := k1 _ (Option.some.inj h).symm
    exact h9
set_option maxRecDepth 100000 in
set_option maxHeartbeats 4000000 in
theorem w_X2_run_j164 {K : Cx} {g : Gw} (ret : Int32 × St) (X : XC K g cX2_run 2 RX2 (some .int) rm_X2_run) (u : St) (h : f_X2_run_j164 u = some ret) : XW K 0 0 2 (QI K g (wdX g) ret) (wdX g) u 164 [(0, .ref (g.1 2))] [] := by
  unfold f_X2_run_j164 at h
  refine x_aload_n X dX2_run_164 rfl 0 rfl ?_
  refine x_get (v := .ref (g.1 3)) X 2 0 in_X2 rfl rfl (by decide) m_X2_27 rfl dX2_run_165 ?_
  refine x_get (v := .int (u 2 0)) X 3 1 in_X5 rfl rfl (by decide) m_X2_97 rfl dX2_run_168 ?_
  exact x_iret X (Option.some.inj h) dX2_run_171
set_option maxRecDepth 100000 in
set_option maxHeartbeats 4000000 in
theorem w_X2_run_j112 {K : Cx} {g : Gw} (ret : Int32 × St) (X : XC K g cX2_run 2 RX2 (some .int) rm_X2_run) (z0 : Int32) (u : St) (h : f_X2_run_j112 z0 u = some ret) : XW K 0 0 2 (QI K g (wdX g) ret) (wdX g) u 112 [(0, .ref (g.1 2))] [.int z0] := by
  unfold f_X2_run_j112 at h
  refine x_istore_n (lv2 := [(1, .int z0), (0, .ref (g.1 2))]) X dX2_run_112 rfl (by decide) rfl ?_
  refine x_aload_n X dX2_run_113 rfl 1 rfl ?_
  refine x_get (v := .ref (g.1 9)) X 2 1 in_X2 rfl rfl (by decide) m_X2_11 rfl dX2_run_114 ?_
  refine x_iconst (v := 0) X dX2_run_117 (by decide) ?_
  refine x_aload_n X dX2_run_118 rfl 1 rfl ?_
  refine x_get (v := .ref (g.1 4)) X 2 3 in_X2 rfl rfl (by decide) m_X2_36 rfl dX2_run_119 ?_
  refine x_get (v := .int (u 8 0)) X 4 4 in_X4 rfl rfl (by decide) m_X2_83 rfl dX2_run_122 ?_
  obtain ⟨i8, h⟩ := chk_some h
  refine x_iast (f := (u 23)) (u2 := (up u 23 (Int32.toNatClampNeg 0) (u 8 0))) X 9 0 rfl rfl i8 (wdX_23 g u (Int32.toNatClampNeg 0) (u 8 0)) dX2_run_125 ?_
  refine x_iload_n X dX2_run_126 rfl 0 rfl ?_
  refine x_if_eq (tgt := 164) X dX2_run_127 (by decide) (fun c9 => ?_) (fun c9 => ?_)
  · replace h := if_t c9 h
    refine x_sub [1] rfl ?_
    exact w_X2_run_j164 ret X (up u 23 (Int32.toNatClampNeg 0) (u 8 0)) h
  · replace h := if_f c9 h
    refine x_aload_n X dX2_run_130 rfl 1 rfl ?_
    refine x_get (v := .ref (g.1 3)) X 2 0 in_X2 rfl rfl (by decide) m_X2_27 rfl dX2_run_131 ?_
    refine x_get (v := .int (u 4 0)) X 3 3 in_X5 rfl rfl (by decide) m_X2_87 rfl dX2_run_134 ?_
    refine x_aload_n X dX2_run_137 rfl 1 rfl ?_
    refine x_get (v := .ref (g.1 1)) X 2 2 in_X2 rfl rfl (by decide) m_X2_18 rfl dX2_run_138 ?_
    refine x_get (v := .int (u 1 0)) X 1 1 in_X1 rfl rfl (by decide) m_X2_90 rfl dX2_run_141 ?_
    refine x_icmp_ge (tgt := 164) X dX2_run_144 (by decide) (fun c10 => ?_) (fun c10 => ?_)
    · replace h := if_t c10 h
      refine x_sub [1] rfl ?_
      exact w_X2_run_j164 ret X (up u 23 (Int32.toNatClampNeg 0) (u 8 0)) h
    · replace h := if_f c10 h
      refine x_aload_n X dX2_run_147 rfl 1 rfl ?_
      refine x_get (v := .ref (g.1 3)) X 2 0 in_X2 rfl rfl (by decide) m_X2_27 rfl dX2_run_148 ?_
      refine x_bipush (v := 28) X dX2_run_151 (by decide) ?_
      refine x_aload_n X dX2_run_153 rfl 1 rfl ?_
      refine x_get (v := .ref (g.1 3)) X 2 0 in_X2 rfl rfl (by decide) m_X2_27 rfl dX2_run_154 ?_
      refine x_get (v := .int (u 4 0)) X 3 3 in_X5 rfl rfl (by decide) m_X2_87 rfl dX2_run_157 ?_
      obtain ⟨q11, e11, h⟩ := bd h
      refine x_callI X [.int 28, .int (u 4 0)] [] (c_X5_broken K.l K.D g 28 (u 4 0) (up u 23 (Int32.toNatClampNeg 0) (u 8 0)) q11 e11) ok_X5_broken m_X2_93 3 rfl rfl rfl rfl (Nat.le_of_ble_eq_true rfl) ⟨Nat.zero_le _, Nat.zero_le _⟩ ⟨rfl, rfl, by decide, by decide⟩ dX2_run_160 ?_
      refine x_pop X dX2_run_163 rfl ?_
      refine x_sub [1] rfl ?_
      exact w_X2_run_j164 ret X q11.2 h
set_option maxRecDepth 100000 in
set_option maxHeartbeats 4000000 in
theorem w_X2_run_j111 {K : Cx} {g : Gw} (ret : Int32 × St) (X : XC K g cX2_run 2 RX2 (some .int) rm_X2_run) (u : St) (h : f_X2_run_j111 u = some ret) : XW K 0 0 2 (QI K g (wdX g) ret) (wdX g) u 111 [(0, .ref (g.1 2))] [] := by
  unfold f_X2_run_j111 at h
  refine x_iconst (v := 0) X dX2_run_111 (by decide) ?_
  exact w_X2_run_j112 ret X 0 u h
set_option maxRecDepth 100000 in
set_option maxHeartbeats 4000000 in
theorem c_X2_run (l : Launch) (D : va_G) (g : Gw) (u : St) (ret : Int32 × St) (h : f_X2_run u = some ret) : metI l D g (wdX g) yX2_run cX2_run 2 .int rm_X2_run [.ref (g.1 2)] u ret := by
  refine metI_of (own := RX2) (lv := [(0, .ref (g.1 2))]) (by decide) rfl rfl (Nat.le_of_ble_eq_true rfl) (fun K hl9 hD9 X => ?_)
  subst hl9
  subst hD9
  unfold f_X2_run at h
  refine x_aload_n X dX2_run_0 rfl 0 rfl ?_
  refine x_get (v := .ref (g.1 3)) X 2 0 in_X2 rfl rfl (by decide) m_X2_27 rfl dX2_run_1 ?_
  obtain ⟨q1, e1, h⟩ := bd h
  refine x_callV X [] [] (c_X5_restart K.l K.D g u q1 e1) ok_X5_restart m_X2_49 3 rfl rfl rfl rfl (Nat.le_of_ble_eq_true rfl) ⟨Nat.zero_le _, Nat.zero_le _⟩ ⟨rfl, rfl, by decide, by decide⟩ dX2_run_4 ?_
  refine x_aload_n X dX2_run_7 rfl 0 rfl ?_
  refine x_get (v := .ref (g.1 4)) X 2 3 in_X2 rfl rfl (by decide) m_X2_36 rfl dX2_run_8 ?_
  obtain ⟨q2, e2, h⟩ := bd h
  refine x_callV X [] [] (c_X4_forget K.l K.D g q1 q2 e2) ok_X4_forget m_X2_52 4 rfl rfl rfl rfl (Nat.le_of_ble_eq_true rfl) ⟨Nat.zero_le _, Nat.zero_le _⟩ ⟨rfl, rfl, by decide, by decide⟩ dX2_run_11 ?_
  refine x_iconst (v := 0) X dX2_run_14 (by decide) ?_
  refine x_istore_n (lv2 := [(1, .int 0), (0, .ref (g.1 2))]) X dX2_run_15 rfl (by decide) rfl ?_
  refine x_sub [1, 0] rfl ?_
  obtain ⟨q50, e5, h⟩ := bd h
  refine loopF_w (WH := H_X2_run_16 K g ret) (KB := E_X2_run_16 K g ret) (fun a9 r9 h9 k8 k7 => w_X2_run_b16 ret X a9 r9 h9 k8 k7) FU (0, q2) q50 e5 ?_
  rcases q50 with q5 | q5
  · replace h := sl h
    exact (Option.some.inj h)
  · replace h := sr h
    show XW K 0 0 2 (QI K g (wdX g) ret) (wdX g) q5 35 [(0, .ref (g.1 2))] []
    refine x_aload_n X dX2_run_35 rfl 0 rfl ?_
    obtain ⟨q6, e6, h⟩ := bd h
    refine x_callI X [] [] (c_X2_readHead K.l K.D g q5 q6 e6) ok_X2_readHead m_X2_55 2 rfl rfl rfl rfl (Nat.le_of_ble_eq_true rfl) ⟨Nat.zero_le _, Nat.zero_le _⟩ ⟨rfl, rfl, by decide, by decide⟩ dX2_run_36 ?_
    refine x_if_eq (tgt := 111) X dX2_run_39 (by decide) (fun c7 => ?_) (fun c7 => ?_)
    · replace h := if_t c7 h
      exact w_X2_run_j111 ret X q6.2 h
    · replace h := if_f c7 h
      refine x_aload_n X dX2_run_42 rfl 0 rfl ?_
      refine x_get (v := .ref (g.1 4)) X 2 3 in_X2 rfl rfl (by decide) m_X2_36 rfl dX2_run_43 ?_
      obtain ⟨q12, e12, h⟩ := bd h
      refine x_callI X [] [] (c_X4_readEntries K.l K.D g q6.2 q12 e12) ok_X4_readEntries m_X2_59 4 rfl rfl rfl rfl (Nat.le_of_ble_eq_true rfl) ⟨Nat.zero_le _, Nat.zero_le _⟩ ⟨rfl, rfl, by decide, by decide⟩ dX2_run_46 ?_
      refine x_if_eq (tgt := 111) X dX2_run_49 (by decide) (fun c13 => ?_) (fun c13 => ?_)
      · replace h := if_t c13 h
        exact w_X2_run_j111 ret X q12.2 h
      · replace h := if_f c13 h
        refine x_aload_n X dX2_run_52 rfl 0 rfl ?_
        refine x_get (v := .ref (g.1 4)) X 2 3 in_X2 rfl rfl (by decide) m_X2_36 rfl dX2_run_53 ?_
        obtain ⟨q14, e14, h⟩ := bd h
        refine x_callI X [] [] (c_X4_judgeReferences K.l K.D g q12.2 q14 e14) ok_X4_judgeReferences m_X2_62 4 rfl rfl rfl rfl (Nat.le_of_ble_eq_true rfl) ⟨Nat.zero_le _, Nat.zero_le _⟩ ⟨rfl, rfl, by decide, by decide⟩ dX2_run_56 ?_
        refine x_if_eq (tgt := 111) X dX2_run_59 (by decide) (fun c15 => ?_) (fun c15 => ?_)
        · replace h := if_t c15 h
          exact w_X2_run_j111 ret X q14.2 h
        · replace h := if_f c15 h
          refine x_aload_n X dX2_run_62 rfl 0 rfl ?_
          refine x_get (v := .ref (g.1 4)) X 2 3 in_X2 rfl rfl (by decide) m_X2_36 rfl dX2_run_63 ?_
          obtain ⟨q16, e16, h⟩ := bd h
          refine x_callI X [] [] (c_X4_judgeTexts K.l K.D g q14.2 q16 e16) ok_X4_judgeTexts m_X2_65 4 rfl rfl rfl rfl (Nat.le_of_ble_eq_true rfl) ⟨Nat.zero_le _, Nat.zero_le _⟩ ⟨rfl, rfl, by decide, by decide⟩ dX2_run_66 ?_
          refine x_if_eq (tgt := 111) X dX2_run_69 (by decide) (fun c17 => ?_) (fun c17 => ?_)
          · replace h := if_t c17 h
            exact w_X2_run_j111 ret X q16.2 h
          · replace h := if_f c17 h
            refine x_aload_n X dX2_run_72 rfl 0 rfl ?_
            obtain ⟨q18, e18, h⟩ := bd h
            refine x_callI X [] [] (c_X2_readClass K.l K.D g q16.2 q18 e18) ok_X2_readClass m_X2_68 2 rfl rfl rfl rfl (Nat.le_of_ble_eq_true rfl) ⟨Nat.zero_le _, Nat.zero_le _⟩ ⟨rfl, rfl, by decide, by decide⟩ dX2_run_73 ?_
            refine x_if_eq (tgt := 111) X dX2_run_76 (by decide) (fun c19 => ?_) (fun c19 => ?_)
            · replace h := if_t c19 h
              exact w_X2_run_j111 ret X q18.2 h
            · replace h := if_f c19 h
              refine x_aload_n X dX2_run_79 rfl 0 rfl ?_
              obtain ⟨q20, e20, h⟩ := bd h
              refine x_callI X [] [] (c_X2_readInterfaces K.l K.D g q18.2 q20 e20) ok_X2_readInterfaces m_X2_71 2 rfl rfl rfl rfl (Nat.le_of_ble_eq_true rfl) ⟨Nat.zero_le _, Nat.zero_le _⟩ ⟨rfl, rfl, by decide, by decide⟩ dX2_run_80 ?_
              refine x_if_eq (tgt := 111) X dX2_run_83 (by decide) (fun c21 => ?_) (fun c21 => ?_)
              · replace h := if_t c21 h
                exact w_X2_run_j111 ret X q20.2 h
              · replace h := if_f c21 h
                refine x_aload_n X dX2_run_86 rfl 0 rfl ?_
                obtain ⟨q22, e22, h⟩ := bd h
                refine x_callI X [] [] (c_X2_readFields K.l K.D g q20.2 q22 e22) ok_X2_readFields m_X2_74 2 rfl rfl rfl rfl (Nat.le_of_ble_eq_true rfl) ⟨Nat.zero_le _, Nat.zero_le _⟩ ⟨rfl, rfl, by decide, by decide⟩ dX2_run_87 ?_
                refine x_if_eq (tgt := 111) X dX2_run_90 (by decide) (fun c23 => ?_) (fun c23 => ?_)
                · replace h := if_t c23 h
                  exact w_X2_run_j111 ret X q22.2 h
                · replace h := if_f c23 h
                  refine x_aload_n X dX2_run_93 rfl 0 rfl ?_
                  obtain ⟨q24, e24, h⟩ := bd h
                  refine x_callI X [] [] (c_X2_readMethods K.l K.D g q22.2 q24 e24) ok_X2_readMethods m_X2_77 2 rfl rfl rfl rfl (Nat.le_of_ble_eq_true rfl) ⟨Nat.zero_le _, Nat.zero_le _⟩ ⟨rfl, rfl, by decide, by decide⟩ dX2_run_94 ?_
                  refine x_if_eq (tgt := 111) X dX2_run_97 (by decide) (fun c25 => ?_) (fun c25 => ?_)
                  · replace h := if_t c25 h
                    exact w_X2_run_j111 ret X q24.2 h
                  · replace h := if_f c25 h
                    refine x_aload_n X dX2_run_100 rfl 0 rfl ?_
                    obtain ⟨q26, e26, h⟩ := bd h
                    refine x_callI X [] [] (c_X2_passAttributes K.l K.D g q24.2 q26 e26) ok_X2_passAttributes m_X2_80 2 rfl rfl rfl rfl (Nat.le_of_ble_eq_true rfl) ⟨Nat.zero_le _, Nat.zero_le _⟩ ⟨rfl, rfl, by decide, by decide⟩ dX2_run_101 ?_
                    refine x_if_eq (tgt := 111) X dX2_run_104 (by decide) (fun c27 => ?_) (fun c27 => ?_)
                    · replace h := if_t c27 h
                      exact w_X2_run_j111 ret X q26.2 h
                    · replace h := if_f c27 h
                      refine x_iconst (v := 1) X dX2_run_107 (by decide) ?_
                      refine x_goto (tgt := 112) X dX2_run_108 (by decide) ?_
                      exact w_X2_run_j112 ret X 1 q26.2 h
