set_option maxRecDepth 100000 in
set_option maxHeartbeats 4000000 in
theorem w_X7_entry_j150 {K : Cx} {g : Gw} (ret : Int32 × St) (X : XC K g cX7_entry 6 RX7 (some .int) rm_X7_entry) (u : St) (h : f_X7_entry_j150 u = some ret) : XW K 0 0 6 (QI K g (wdM g) ret) (wdM g) u 150 [] [] := by
  unfold f_X7_entry_j150 at h
  refine x_iconst (v := 1) X dX7_entry_150 (by decide) ?_
  exact x_iret X (Option.some.inj h) dX7_entry_151
set_option maxRecDepth 100000 in
set_option maxHeartbeats 4000000 in
theorem w_X7_entry_j210 {K : Cx} {g : Gw} (ret : Int32 × St) (X : XC K g cX7_entry 6 RX7 (some .int) rm_X7_entry) (u : St) (h : f_X7_entry_j210 u = some ret) : XW K 0 0 6 (QI K g (wdM g) ret) (wdM g) u 210 [] [] := by
  unfold f_X7_entry_j210 at h
  refine x_iconst (v := 2) X dX7_entry_210 (by decide) ?_
  exact x_iret X (Option.some.inj h) dX7_entry_211
set_option maxRecDepth 100000 in
set_option maxHeartbeats 4000000 in
theorem w_X7_entry_j194 {K : Cx} {g : Gw} (ret : Int32 × St) (X : XC K g cX7_entry 6 RX7 (some .int) rm_X7_entry) (x1 : Int32) (u : St) (h : f_X7_entry_j194 x1 u = some ret) : XW K 0 0 6 (QI K g (wdM g) ret) (wdM g) u 194 [(0, .ref (g.1 0)), (1, .int x1)] [] := by
  unfold f_X7_entry_j194 at h
  refine x_aload_n X dX7_entry_194 rfl 0 rfl ?_
  refine x_get (v := .int (u 7 0)) X 0 9 in_X7 rfl rfl (by decide) m_X7_71 rfl dX7_entry_195 ?_
  refine x_if_ne (tgt := 210) X dX7_entry_198 (by decide) (fun c17 => ?_) (fun c17 => ?_)
  · replace h := if_f c17 h
    refine x_sub [] rfl ?_
    exact w_X7_entry_j210 ret X u h
  · replace h := if_t c17 h
    refine x_aload_n X dX7_entry_201 rfl 0 rfl ?_
    refine x_get (v := .ref (g.1 4)) X 0 12 in_X7 rfl rfl (by decide) m_X7_19 rfl dX7_entry_202 ?_
    refine x_iload_n X dX7_entry_205 rfl 1 rfl ?_
    refine x_iconst (v := 1) X dX7_entry_206 (by decide) ?_
    refine x_iadd X dX7_entry_207 ?_
    refine x_iconst (v := 0) X dX7_entry_208 (by decide) ?_
    obtain ⟨i18, h⟩ := chk_some h
    refine x_iast (f := (u 33)) (u2 := (up u 33 (Int32.toNatClampNeg (x1 + 1)) 0)) X 4 0 rfl rfl i18 (wdM_33 g u (Int32.toNatClampNeg (x1 + 1)) 0) dX7_entry_209 ?_
    refine x_sub [] rfl ?_
    exact w_X7_entry_j210 ret X (up u 33 (Int32.toNatClampNeg (x1 + 1)) 0) h
set_option maxRecDepth 100000 in
set_option maxHeartbeats 4000000 in
theorem c_X7_entry (l : Launch) (D : va_G) (g : Gw) (p0 : Int32) (p1 : Int32) (u : St) (ret : Int32 × St) (h : f_X7_entry p0 p1 u = some ret) : metI l D g (wdM g) yX7_entry cX7_entry 6 .int rm_X7_entry [.ref (g.1 0), .int p0, .int p1] u ret := by
  refine metI_of (own := RX7) (lv := [(0, .ref (g.1 0)), (1, .int p0), (2, .int p1)]) (by decide) rfl rfl (Nat.le_of_ble_eq_true rfl) (fun K hl9 hD9 X => ?_)
  subst hl9
  subst hD9
  unfold f_X7_entry at h
  refine x_aload_n X dX7_entry_0 rfl 0 rfl ?_
  refine x_get (v := .int (u 3 0)) X 0 5 in_X7 rfl rfl (by decide) m_X7_77 rfl dX7_entry_1 ?_
  refine x_istore_n (lv2 := [(3, .int (u 3 0)), (0, .ref (g.1 0)), (1, .int p0), (2, .int p1)]) X dX7_entry_4 rfl (by decide) rfl ?_
  refine x_aload_n X dX7_entry_5 rfl 1 rfl ?_
  obtain ⟨q1, e1, h⟩ := bd h
  refine x_callI X [] [] (c_X7_u1 K.l K.D g u q1 e1) ok_X7_u1 m_X7_126 0 rfl rfl rfl rfl (Nat.le_of_ble_eq_true rfl) ⟨Nat.zero_le _, Nat.zero_le _⟩ ⟨rfl, rfl, by decide, by decide⟩ dX7_entry_6 ?_
  refine x_istore (lv2 := [(4, .int q1.1), (3, .int (u 3 0)), (0, .ref (g.1 0)), (1, .int p0), (2, .int p1)]) X dX7_entry_9 (by decide) rfl ?_
  refine x_aload_n X dX7_entry_11 rfl 2 rfl ?_
  refine x_get (v := .int (q1.2 7 0)) X 0 9 in_X7 rfl rfl (by decide) m_X7_71 rfl dX7_entry_12 ?_
  refine x_if_eq (tgt := 20) X dX7_entry_15 (by decide) (fun c2 => ?_) (fun c2 => ?_)
  · replace h := if_t c2 h
    refine x_aload_n X dX7_entry_20 rfl 2 rfl ?_
    refine x_get (v := .ref (g.1 4)) X 0 12 in_X7 rfl rfl (by decide) m_X7_19 rfl dX7_entry_21 ?_
    refine x_iload_n X dX7_entry_24 rfl 3 rfl ?_
    refine x_iload X dX7_entry_25 0 rfl ?_
    obtain ⟨i3, h⟩ := chk_some h
    refine x_iast (f := (q1.2 33)) (u2 := (up q1.2 33 (Int32.toNatClampNeg p0) q1.1)) X 4 0 rfl rfl i3 (wdM_33 g q1.2 (Int32.toNatClampNeg p0) q1.1) dX7_entry_27 ?_
    refine x_aload_n X dX7_entry_28 rfl 2 rfl ?_
    refine x_get (v := .ref (g.1 5)) X 0 13 in_X7 rfl rfl (by decide) m_X7_22 rfl dX7_entry_29 ?_
    refine x_iload_n X dX7_entry_32 rfl 3 rfl ?_
    refine x_iload_n X dX7_entry_33 rfl 1 rfl ?_
    obtain ⟨i4, h⟩ := chk_some h
    refine x_iast (f := (q1.2 34)) (u2 := (up (up q1.2 33 (Int32.toNatClampNeg p0) q1.1) 34 (Int32.toNatClampNeg p0) (u 3 0))) X 5 0 rfl rfl i4 (wdM_34 g (up q1.2 33 (Int32.toNatClampNeg p0) q1.1) (Int32.toNatClampNeg p0) (u 3 0)) dX7_entry_34 ?_
    refine x_iload X dX7_entry_35 0 rfl ?_
    by_cases c5_0 : q1.1 = 1
    · replace h := if_t c5_0 h
      have k9 : XW K 0 0 6 (QI K g (wdM g) ret) (wdM g) (up (up q1.2 33 (Int32.toNatClampNeg p0) q1.1) 34 (Int32.toNatClampNeg p0) (u 3 0)) 100 [(4, .int q1.1), (3, .int (u 3 0)), (0, .ref (g.1 0)), (1, .int p0), (2, .int p1)] [] := by
        refine x_aload_n X dX7_entry_100 rfl 2 rfl ?_
        obtain ⟨q6, e6, h⟩ := bd h
        refine x_callI X [] [] (c_X7_u2 K.l K.D g (up (up q1.2 33 (Int32.toNatClampNeg p0) q1.1) 34 (Int32.toNatClampNeg p0) (u 3 0)) q6 e6) ok_X7_u2 m_X7_130 0 rfl rfl rfl rfl (Nat.le_of_ble_eq_true rfl) ⟨Nat.zero_le _, Nat.zero_le _⟩ ⟨rfl, rfl, by decide, by decide⟩ dX7_entry_101 ?_
        refine x_istore (lv2 := [(5, .int q6.1), (4, .int q1.1), (3, .int (u 3 0)), (0, .ref (g.1 0)), (1, .int p0), (2, .int p1)]) X dX7_entry_104 (by decide) rfl ?_
        refine x_aload_n X dX7_entry_106 rfl 3 rfl ?_
        refine x_get (v := .ref (g.1 6)) X 0 14 in_X7 rfl rfl (by decide) m_X7_25 rfl dX7_entry_107 ?_
        refine x_iload_n X dX7_entry_110 rfl 4 rfl ?_
        refine x_aload_n X dX7_entry_111 rfl 3 rfl ?_
        refine x_get (v := .int (q6.2 3 0)) X 0 5 in_X7 rfl rfl (by decide) m_X7_77 rfl dX7_entry_112 ?_
        obtain ⟨i7, h⟩ := chk_some h
        refine x_iast (f := (q6.2 35)) (u2 := (up q6.2 35 (Int32.toNatClampNeg p0) (q6.2 3 0))) X 6 0 rfl rfl i7 (wdM_35 g q6.2 (Int32.toNatClampNeg p0) (q6.2 3 0)) dX7_entry_115 ?_
        refine x_aload_n X dX7_entry_116 rfl 3 rfl ?_
        refine x_get (v := .ref (g.1 7)) X 0 15 in_X7 rfl rfl (by decide) m_X7_28 rfl dX7_entry_117 ?_
        refine x_iload_n X dX7_entry_120 rfl 4 rfl ?_
        refine x_iload X dX7_entry_121 0 rfl ?_
        obtain ⟨i8, h⟩ := chk_some h
        refine x_iast (f := (q6.2 36)) (u2 := (up (up q6.2 35 (Int32.toNatClampNeg p0) (q6.2 3 0)) 36 (Int32.toNatClampNeg p0) q6.1)) X 7 0 rfl rfl i8 (wdM_36 g (up q6.2 35 (Int32.toNatClampNeg p0) (q6.2 3 0)) (Int32.toNatClampNeg p0) q6.1) dX7_entry_123 ?_
        refine x_aload_n X dX7_entry_124 rfl 3 rfl ?_
        refine x_iload X dX7_entry_125 0 rfl ?_
        refine x_i2l X dX7_entry_127 ?_
        obtain ⟨q9, e9, h⟩ := bd h
        refine x_callV X [.long (q6.1.toInt64)] [] (c_X7_skip K.l K.D g (q6.1.toInt64) (up (up q6.2 35 (Int32.toNatClampNeg p0) (q6.2 3 0)) 36 (Int32.toNatClampNeg p0) q6.1) q9 e9) ok_X7_skip m_X7_133 0 rfl rfl rfl rfl (Nat.le_of_ble_eq_true rfl) ⟨Nat.zero_le _, Nat.zero_le _⟩ ⟨rfl, rfl, by decide, by decide⟩ dX7_entry_128 ?_
        refine x_aload_n X dX7_entry_131 rfl 3 rfl ?_
        refine x_get (v := .int (q9 7 0)) X 0 9 in_X7 rfl rfl (by decide) m_X7_71 rfl dX7_entry_132 ?_
        refine x_if_ne (tgt := 150) X dX7_entry_135 (by decide) (fun c10 => ?_) (fun c10 => ?_)
        · replace h := if_f c10 h
          refine x_sub [] rfl ?_
          exact w_X7_entry_j150 ret X q9 h
        · replace h := if_t c10 h
          refine x_aload_n X dX7_entry_138 rfl 3 rfl ?_
          refine x_aload_n X dX7_entry_139 rfl 3 rfl ?_
          refine x_get (v := .ref (g.1 6)) X 0 14 in_X7 rfl rfl (by decide) m_X7_25 rfl dX7_entry_140 ?_
          refine x_iload_n X dX7_entry_143 rfl 4 rfl ?_
          obtain ⟨i11, h⟩ := chk_some h
          refine x_iald (f := (q9 35)) X 6 0 rfl rfl i11 dX7_entry_144 ?_
          refine x_iload X dX7_entry_145 0 rfl ?_
          obtain ⟨q12, e12, h⟩ := bd h
          refine x_callV X [.int ((q9 35) (Int32.toNatClampNeg p0)), .int q6.1] [] (c_X7_characters K.l K.D g ((q9 35) (Int32.toNatClampNeg p0)) q6.1 q9 q12 e12) ok_X7_characters m_X7_137 0 rfl rfl rfl rfl (Nat.le_of_ble_eq_true rfl) ⟨Nat.zero_le _, Nat.zero_le _⟩ ⟨rfl, rfl, by decide, by decide⟩ dX7_entry_147 ?_
          refine x_sub [] rfl ?_
          exact w_X7_entry_j150 ret X q12 h
      exact x_tableIn (off := 63) (tgt := 100) X dX7_entry_37 (by rw [c5_0]; decide) (by rw [c5_0]; decide) (by rw [c5_0]; decide) (by decide) k9
    replace h := if_f c5_0 h
    by_cases c5_1 : q1.1 = 3
    · replace h := if_t c5_1 h
      have k9 : XW K 0 0 6 (QI K g (wdM g) ret) (wdM g) (up (up q1.2 33 (Int32.toNatClampNeg p0) q1.1) 34 (Int32.toNatClampNeg p0) (u 3 0)) 152 [(4, .int q1.1), (3, .int (u 3 0)), (0, .ref (g.1 0)), (1, .int p0), (2, .int p1)] [] := by
        refine x_aload_n X dX7_entry_152 rfl 2 rfl ?_
        refine x_iconst (v := 4) X dX7_entry_153 (by decide) ?_
        obtain ⟨q13, e13, h⟩ := bd h
        refine x_callL X [.int 4] [] (c_X7_u K.l K.D g 4 (up (up q1.2 33 (Int32.toNatClampNeg p0) q1.1) 34 (Int32.toNatClampNeg p0) (u 3 0)) q13 e13) ok_X7_u m_X7_94 0 rfl rfl rfl rfl (Nat.le_of_ble_eq_true rfl) ⟨Nat.zero_le _, Nat.zero_le _⟩ ⟨rfl, rfl, by decide, by decide⟩ dX7_entry_154 ?_
        refine x_pop2 X dX7_entry_157 rfl ?_
        refine x_iconst (v := 1) X dX7_entry_158 (by decide) ?_
        exact x_iret X (Option.some.inj h) dX7_entry_159
      exact x_tableIn (off := 115) (tgt := 152) X dX7_entry_37 (by rw [c5_1]; decide) (by rw [c5_1]; decide) (by rw [c5_1]; decide) (by decide) k9
    replace h := if_f c5_1 h
    by_cases c5_2 : q1.1 = 5
    · replace h := if_t c5_2 h
      have k9 : XW K 0 0 6 (QI K g (wdM g) ret) (wdM g) (up (up q1.2 33 (Int32.toNatClampNeg p0) q1.1) 34 (Int32.toNatClampNeg p0) (u 3 0)) 160 [(4, .int q1.1), (3, .int (u 3 0)), (0, .ref (g.1 0)), (1, .int p0), (2, .int p1)] [] := by
        refine x_aload_n X dX7_entry_160 rfl 2 rfl ?_
        refine x_iconst (v := 4) X dX7_entry_161 (by decide) ?_
        obtain ⟨q14, e14, h⟩ := bd h
        refine x_callL X [.int 4] [] (c_X7_u K.l K.D g 4 (up (up q1.2 33 (Int32.toNatClampNeg p0) q1.1) 34 (Int32.toNatClampNeg p0) (u 3 0)) q14 e14) ok_X7_u m_X7_94 0 rfl rfl rfl rfl (Nat.le_of_ble_eq_true rfl) ⟨Nat.zero_le _, Nat.zero_le _⟩ ⟨rfl, rfl, by decide, by decide⟩ dX7_entry_162 ?_
        refine x_pop2 X dX7_entry_165 rfl ?_
        refine x_aload_n X dX7_entry_166 rfl 2 rfl ?_
        refine x_iconst (v := 4) X dX7_entry_167 (by decide) ?_
        obtain ⟨q15, e15, h⟩ := bd h
        refine x_callL X [.int 4] [] (c_X7_u K.l K.D g 4 q14.2 q15 e15) ok_X7_u m_X7_94 0 rfl rfl rfl rfl (Nat.le_of_ble_eq_true rfl) ⟨Nat.zero_le _, Nat.zero_le _⟩ ⟨rfl, rfl, by decide, by decide⟩ dX7_entry_168 ?_
        refine x_pop2 X dX7_entry_171 rfl ?_
        refine x_aload_n X dX7_entry_172 rfl 2 rfl ?_
        refine x_get (v := .int (q15.2 7 0)) X 0 9 in_X7 rfl rfl (by decide) m_X7_71 rfl dX7_entry_173 ?_
        refine x_if_ne (tgt := 194) X dX7_entry_176 (by decide) (fun c16 => ?_) (fun c16 => ?_)
        · replace h := if_f c16 h
          refine x_sub [2, 3] rfl ?_
          exact w_X7_entry_j194 ret X p0 q15.2 h
        · replace h := if_t c16 h
          refine x_iload_n X dX7_entry_179 rfl 3 rfl ?_
          refine x_iconst (v := 1) X dX7_entry_180 (by decide) ?_
          refine x_iadd X dX7_entry_181 ?_
          refine x_iload_n X dX7_entry_182 rfl 4 rfl ?_
          refine x_icmp_lt (tgt := 194) X dX7_entry_183 (by decide) (fun c19 => ?_) (fun c19 => ?_)
          · replace h := if_t c19 h
            refine x_sub [2, 3] rfl ?_
            exact w_X7_entry_j194 ret X p0 q15.2 h
          · replace h := if_f c19 h
            refine x_aload_n X dX7_entry_186 rfl 2 rfl ?_
            refine x_bipush (v := 7) X dX7_entry_187 (by decide) ?_
            refine x_iload_n X dX7_entry_189 rfl 1 rfl ?_
            obtain ⟨q20, e20, h⟩ := bd h
            refine x_callI X [.int 7, .int (u 3 0)] [] (c_X7_fail K.l K.D g 7 (u 3 0) q15.2 q20 e20) ok_X7_fail m_X7_89 0 rfl rfl rfl rfl (Nat.le_of_ble_eq_true rfl) ⟨Nat.zero_le _, Nat.zero_le _⟩ ⟨rfl, rfl, by decide, by decide⟩ dX7_entry_190 ?_
            refine x_pop X dX7_entry_193 rfl ?_
            refine x_sub [2, 3] rfl ?_
            exact w_X7_entry_j194 ret X p0 q20.2 h
      exact x_tableIn (off := 123) (tgt := 160) X dX7_entry_37 (by rw [c5_2]; decide) (by rw [c5_2]; decide) (by rw [c5_2]; decide) (by decide) k9
    replace h := if_f c5_2 h
    by_cases c5_3 : q1.1 = 7 ∨ q1.1 = 8
    · replace h := if_t c5_3 h
      have k9 : XW K 0 0 6 (QI K g (wdM g) ret) (wdM g) (up (up q1.2 33 (Int32.toNatClampNeg p0) q1.1) 34 (Int32.toNatClampNeg p0) (u 3 0)) 212 [(4, .int q1.1), (3, .int (u 3 0)), (0, .ref (g.1 0)), (1, .int p0), (2, .int p1)] [] := by
        refine x_aload_n X dX7_entry_212 rfl 2 rfl ?_
        refine x_get (v := .ref (g.1 6)) X 0 14 in_X7 rfl rfl (by decide) m_X7_25 rfl dX7_entry_213 ?_
        refine x_iload_n X dX7_entry_216 rfl 3 rfl ?_
        refine x_aload_n X dX7_entry_217 rfl 2 rfl ?_
        obtain ⟨q21, e21, h⟩ := bd h
        refine x_callI X [] [.int p0, .ref (g.1 6)] (c_X7_u2 K.l K.D g (up (up q1.2 33 (Int32.toNatClampNeg p0) q1.1) 34 (Int32.toNatClampNeg p0) (u 3 0)) q21 e21) ok_X7_u2 m_X7_130 0 rfl rfl rfl rfl (Nat.le_of_ble_eq_true rfl) ⟨Nat.zero_le _, Nat.zero_le _⟩ ⟨rfl, rfl, by decide, by decide⟩ dX7_entry_218 ?_
        obtain ⟨i22, h⟩ := chk_some h
        refine x_iast (f := (q21.2 35)) (u2 := (up q21.2 35 (Int32.toNatClampNeg p0) q21.1)) X 6 0 rfl rfl i22 (wdM_35 g q21.2 (Int32.toNatClampNeg p0) q21.1) dX7_entry_221 ?_
        refine x_iconst (v := 1) X dX7_entry_222 (by decide) ?_
        exact x_iret X (Option.some.inj h) dX7_entry_223
      rcases c5_3 with c5_3 | c5_3 <;> exact x_tableIn (off := 175) (tgt := 212) X dX7_entry_37 (by rw [c5_3]; decide) (by rw [c5_3]; decide) (by rw [c5_3]; decide) (by decide) k9
    replace h := if_f c5_3 h
    by_cases c5_4 : q1.1 = 10 ∨ q1.1 = 12
    · replace h := if_t c5_4 h
      have k9 : XW K 0 0 6 (QI K g (wdM g) ret) (wdM g) (up (up q1.2 33 (Int32.toNatClampNeg p0) q1.1) 34 (Int32.toNatClampNeg p0) (u 3 0)) 224 [(4, .int q1.1), (3, .int (u 3 0)), (0, .ref (g.1 0)), (1, .int p0), (2, .int p1)] [] := by
        refine x_aload_n X dX7_entry_224 rfl 2 rfl ?_
        refine x_get (v := .ref (g.1 6)) X 0 14 in_X7 rfl rfl (by decide) m_X7_25 rfl dX7_entry_225 ?_
        refine x_iload_n X dX7_entry_228 rfl 3 rfl ?_
        refine x_aload_n X dX7_entry_229 rfl 2 rfl ?_
        obtain ⟨q23, e23, h⟩ := bd h
        refine x_callI X [] [.int p0, .ref (g.1 6)] (c_X7_u2 K.l K.D g (up (up q1.2 33 (Int32.toNatClampNeg p0) q1.1) 34 (Int32.toNatClampNeg p0) (u 3 0)) q23 e23) ok_X7_u2 m_X7_130 0 rfl rfl rfl rfl (Nat.le_of_ble_eq_true rfl) ⟨Nat.zero_le _, Nat.zero_le _⟩ ⟨rfl, rfl, by decide, by decide⟩ dX7_entry_230 ?_
        obtain ⟨i24, h⟩ := chk_some h
        refine x_iast (f := (q23.2 35)) (u2 := (up q23.2 35 (Int32.toNatClampNeg p0) q23.1)) X 6 0 rfl rfl i24 (wdM_35 g q23.2 (Int32.toNatClampNeg p0) q23.1) dX7_entry_233 ?_
        refine x_aload_n X dX7_entry_234 rfl 2 rfl ?_
        refine x_get (v := .ref (g.1 7)) X 0 15 in_X7 rfl rfl (by decide) m_X7_28 rfl dX7_entry_235 ?_
        refine x_iload_n X dX7_entry_238 rfl 3 rfl ?_
        refine x_aload_n X dX7_entry_239 rfl 2 rfl ?_
        obtain ⟨q25, e25, h⟩ := bd h
        refine x_callI X [] [.int p0, .ref (g.1 7)] (c_X7_u2 K.l K.D g (up q23.2 35 (Int32.toNatClampNeg p0) q23.1) q25 e25) ok_X7_u2 m_X7_130 0 rfl rfl rfl rfl (Nat.le_of_ble_eq_true rfl) ⟨Nat.zero_le _, Nat.zero_le _⟩ ⟨rfl, rfl, by decide, by decide⟩ dX7_entry_240 ?_
        obtain ⟨i26, h⟩ := chk_some h
        refine x_iast (f := (q25.2 36)) (u2 := (up q25.2 36 (Int32.toNatClampNeg p0) q25.1)) X 7 0 rfl rfl i26 (wdM_36 g q25.2 (Int32.toNatClampNeg p0) q25.1) dX7_entry_243 ?_
        refine x_iconst (v := 1) X dX7_entry_244 (by decide) ?_
        exact x_iret X (Option.some.inj h) dX7_entry_245
      rcases c5_4 with c5_4 | c5_4 <;> exact x_tableIn (off := 187) (tgt := 224) X dX7_entry_37 (by rw [c5_4]; decide) (by rw [c5_4]; decide) (by rw [c5_4]; decide) (by decide) k9
    replace h := if_f c5_4 h
    have k9 : XW K 0 0 6 (QI K g (wdM g) ret) (wdM g) (up (up q1.2 33 (Int32.toNatClampNeg p0) q1.1) 34 (Int32.toNatClampNeg p0) (u 3 0)) 246 [(4, .int q1.1), (3, .int (u 3 0)), (0, .ref (g.1 0)), (1, .int p0), (2, .int p1)] [] := by
      refine x_aload_n X dX7_entry_246 rfl 2 rfl ?_
      refine x_iconst (v := 5) X dX7_entry_247 (by decide) ?_
      refine x_iload_n X dX7_entry_248 rfl 1 rfl ?_
      obtain ⟨q27, e27, h⟩ := bd h
      refine x_callI X [.int 5, .int (u 3 0)] [] (c_X7_fail K.l K.D g 5 (u 3 0) (up (up q1.2 33 (Int32.toNatClampNeg p0) q1.1) 34 (Int32.toNatClampNeg p0) (u 3 0)) q27 e27) ok_X7_fail m_X7_89 0 rfl rfl rfl rfl (Nat.le_of_ble_eq_true rfl) ⟨Nat.zero_le _, Nat.zero_le _⟩ ⟨rfl, rfl, by decide, by decide⟩ dX7_entry_249 ?_
      refine x_pop X dX7_entry_252 rfl ?_
      refine x_iconst (v := 1) X dX7_entry_253 (by decide) ?_
      exact x_iret X (Option.some.inj h) dX7_entry_254
    by_cases d5_0 : q1.1 = 2
    · exact x_tableIn (off := 209) (tgt := 246) X dX7_entry_37 (by rw [d5_0]; decide) (by rw [d5_0]; decide) (by rw [d5_0]; decide) (by decide) k9
    by_cases d5_1 : q1.1 = 4
    · exact x_tableIn (off := 209) (tgt := 246) X dX7_entry_37 (by rw [d5_1]; decide) (by rw [d5_1]; decide) (by rw [d5_1]; decide) (by decide) k9
    by_cases d5_2 : q1.1 = 6
    · exact x_tableIn (off := 209) (tgt := 246) X dX7_entry_37 (by rw [d5_2]; decide) (by rw [d5_2]; decide) (by rw [d5_2]; decide) (by decide) k9
    by_cases d5_3 : q1.1 = 9
    · exact x_tableIn (off := 209) (tgt := 246) X dX7_entry_37 (by rw [d5_3]; decide) (by rw [d5_3]; decide) (by rw [d5_3]; decide) (by decide) k9
    by_cases d5_4 : q1.1 = 11
    · exact x_tableIn (off := 209) (tgt := 246) X dX7_entry_37 (by rw [d5_4]; decide) (by rw [d5_4]; decide) (by rw [d5_4]; decide) (by decide) k9
    have n5_1 := lv_neT (a := 1) c5_0 (by decide)
    have n5_2 := lv_neT (a := 2) d5_0 (by decide)
    have n5_3 := lv_neT (a := 3) c5_1 (by decide)
    have n5_4 := lv_neT (a := 4) d5_1 (by decide)
    have n5_5 := lv_neT (a := 5) c5_2 (by decide)
    have n5_6 := lv_neT (a := 6) d5_2 (by decide)
    have n5_7 := lv_neT (a := 7) (fun q9 => c5_3 (.inl q9)) (by decide)
    have n5_8 := lv_neT (a := 8) (fun q9 => c5_3 (.inr q9)) (by decide)
    have n5_9 := lv_neT (a := 9) d5_3 (by decide)
    have n5_10 := lv_neT (a := 10) (fun q9 => c5_4 (.inl q9)) (by decide)
    have n5_11 := lv_neT (a := 11) d5_4 (by decide)
    have n5_12 := lv_neT (a := 12) (fun q9 => c5_4 (.inr q9)) (by decide)
    exact x_tableOut (tgt := 246) X dX7_entry_37 (by omega) (by decide) k9
  · replace h := if_f c2 h
    refine x_iconst (v := 1) X dX7_entry_18 (by decide) ?_
    exact x_iret X (Option.some.inj h) dX7_entry_19
abbrev H_X7_readPool_26 (x1 : Int32) (K : Cx) (g : Gw) (ret : St) (a : Int32 × St) : Prop := XW K 0 0 4 (QV K g (wdM g) ret) (wdM g) a.2 26 [(0, .ref (g.1 0)), (1, .int x1), (2, .int a.1)] []
abbrev E_X7_readPool_26 (x1 : Int32) (K : Cx) (g : Gw) (ret : St) (q : (St) ⊕ (Int32 × St)) : Prop := Sum.elim (fun q => q = ret) (fun q => XW K 0 0 4 (QV K g (wdM g) ret) (wdM g) q.2 59 [(0, .ref (g.1 0)), (1, .int x1), (2, .int q.1)] []) q
set_option maxRecDepth 100000 in
set_option maxHeartbeats 4000000 in
theorem w_X7_readPool_j56_26 {K : Cx} {g : Gw} (ret : St) (X : XC K g cX7_readPool 4 RX7 none rm_X7_readPool) (x1 : Int32) (x2 : Int32) (u : St) (r : ((St) ⊕ (Int32 × St)) ⊕ (Int32 × St)) (h : f_X7_readPool_j56_26 x1 x2 u = some r) (k0 : ∀ q, r = .inl q → E_X7_readPool_26 x1 K g ret q) (k1 : ∀ q, r = .inr q → H_X7_readPool_26 x1 K g ret q) : XW K 0 0 4 (QV K g (wdM g) ret) (wdM g) u 56 [(0, .ref (g.1 0)), (1, .int x1), (2, .int x2)] [] := by
  unfold f_X7_readPool_j56_26 at h
  refine x_goto (tgt := 26) X dX7_readPool_56 (by decide) ?_
  have h9 := k1 _ (Option.some.inj h).symm
  exact h9
set_option maxRecDepth 100000 in
set_option maxHeartbeats 4000000 in
theorem w_X7_readPool_b26 {K : Cx} {g : Gw} (x1 : Int32) (ret : St) (X : XC K g cX7_readPool 4 RX7 none rm_X7_readPool) (a : Int32 × St) (r : ((St) ⊕ (Int32 × St)) ⊕ (Int32 × St)) (h : f_X7_readPool_b26 x1 a = some r) (k0 : ∀ q, r = .inl q → E_X7_readPool_26 x1 K g ret q) (k1 : ∀ q, r = .inr q → H_X7_readPool_26 x1 K g ret q) : H_X7_readPool_26 x1 K g ret a := by
  unfold f_X7_readPool_b26 at h
  show XW K 0 0 4 (QV K g (wdM g) ret) (wdM g) a.2 26 [(0, .ref (g.1 0)), (1, .int x1), (2, .int a.1)] []
  refine x_iload_n X dX7_readPool_26 rfl 2 rfl ?_
  refine x_iload_n X dX7_readPool_27 rfl 1 rfl ?_
  refine x_icmp_ge (tgt := 59) X dX7_readPool_28 (by decide) (fun c3 => ?_) (fun c3 => ?_)
  · replace h := if_t c3 h
    have h9 := k0 _ (Option.some.inj h).symm
    exact h9
  · replace h := if_f c3 h
    refine x_aload_n X dX7_readPool_31 rfl 0 rfl ?_
    refine x_get (v := .int (a.2 7 0)) X 0 9 in_X7 rfl rfl (by decide) m_X7_71 rfl dX7_readPool_32 ?_
    refine x_if_ne (tgt := 59) X dX7_readPool_35 (by decide) (fun c4 => ?_) (fun c4 => ?_)
    · replace h := if_f c4 h
      have h9 := k0 _ (Option.some.inj h).symm
      exact h9
    · replace h := if_t c4 h
      refine x_aload_n X dX7_readPool_38 rfl 0 rfl ?_
      refine x_iload_n X dX7_readPool_39 rfl 2 rfl ?_
      refine x_iload_n X dX7_readPool_40 rfl 1 rfl ?_
      obtain ⟨q5, e5, h⟩ := bd h
      refine x_callI X [.int a.1, .int x1] [] (c_X7_entry K.l K.D g a.1 x1 a.2 q5 e5) ok_X7_entry m_X7_140 0 rfl rfl rfl rfl (Nat.le_of_ble_eq_true rfl) ⟨Nat.zero_le _, Nat.zero_le _⟩ ⟨rfl, rfl, by decide, by decide⟩ dX7_readPool_41 ?_
      refine x_istore_n (lv2 := [(3, .int q5.1), (0, .ref (g.1 0)), (1, .int x1), (2, .int a.1)]) X dX7_readPool_44 rfl (by decide) rfl ?_
      refine x_aload_n X dX7_readPool_45 rfl 1 rfl ?_
      refine x_get (v := .int (q5.2 7 0)) X 0 9 in_X7 rfl rfl (by decide) m_X7_71 rfl dX7_readPool_46 ?_
      refine x_if_ne (tgt := 56) X dX7_readPool_49 (by decide) (fun c6 => ?_) (fun c6 => ?_)
      · replace h := if_f c6 h
        refine x_sub [1, 2, 3] rfl ?_
        exact w_X7_readPool_j56_26 ret X x1 a.1 q5.2 r h k0 k1
      · replace h := if_t c6 h
        refine x_iload_n X dX7_readPool_52 rfl 3 rfl ?_
        refine x_iload_n X dX7_readPool_53 rfl 0 rfl ?_
        refine x_iadd X dX7_readPool_54 ?_
        refine x_istore_n (lv2 := [(2, .int (a.1 + q5.1)), (3, .int q5.1), (0, .ref (g.1 0)), (1, .int x1)]) X dX7_readPool_55 rfl (by decide) rfl ?_
        refine x_sub [2, 3, 0] rfl ?_
        exact w_X7_readPool_j56_26 ret X x1 (a.1 + q5.1) q5.2 r h k0 k1
set_option maxRecDepth 100000 in
set_option maxHeartbeats 4000000 in
theorem w_X7_readPool_j85 {K : Cx} {g : Gw} (ret : St) (X : XC K g cX7_readPool 4 RX7 none rm_X7_readPool) (x2 : Int32) (u : St) (h : f_X7_readPool_j85 x2 u = some ret) : XW K 0 0 4 (QV K g (wdM g) ret) (wdM g) u 85 [(0, .ref (g.1 0)), (2, .int x2)] [] := by
  unfold f_X7_readPool_j85 at h
  refine x_aload_n X dX7_readPool_85 rfl 0 rfl ?_
  refine x_iload_n X dX7_readPool_86 rfl 1 rfl ?_
  refine x_put (ty := .int) (u2 := (up u 9 0 x2)) X 0 16 in_X7 tk_X7 nk_X7 rfl rfl (by decide) m_X7_98 rfl rfl rfl rfl (Nat.le_of_ble_eq_true rfl) (wdM_9 g u x2) dX7_readPool_87 ?_
  exact x_vret X (Option.some.inj h) dX7_readPool_90
set_option maxRecDepth 100000 in
set_option maxHeartbeats 4000000 in
theorem w_X7_readPool_j84 {K : Cx} {g : Gw} (ret : St) (X : XC K g cX7_readPool 4 RX7 none rm_X7_readPool) (x2 : Int32) (z1 : Int32) (z2 : Int32) (u : St) (h : f_X7_readPool_j84 x2 z1 z2 u = some ret) : XW K 0 0 4 (QV K g (wdM g) ret) (wdM g) u 84 [(0, .ref (g.1 0)), (2, .int x2)] [.int z2, .int z1, .ref (g.1 3)] := by
  unfold f_X7_readPool_j84 at h
  obtain ⟨i10, h⟩ := chk_some h
  refine x_iast (f := (u 32)) (u2 := (up u 32 (Int32.toNatClampNeg z1) z2)) X 3 0 rfl rfl i10 (wdM_32 g u (Int32.toNatClampNeg z1) z2) dX7_readPool_84 ?_
  exact w_X7_readPool_j85 ret X x2 (up u 32 (Int32.toNatClampNeg z1) z2) h
set_option maxRecDepth 100000 in
set_option maxHeartbeats 4000000 in
theorem w_X7_readPool_j59 {K : Cx} {g : Gw} (ret : St) (X : XC K g cX7_readPool 4 RX7 none rm_X7_readPool) (x1 : Int32) (x2 : Int32) (u : St) (h : f_X7_readPool_j59 x1 x2 u = some ret) : XW K 0 0 4 (QV K g (wdM g) ret) (wdM g) u 59 [(0, .ref (g.1 0)), (1, .int x1), (2, .int x2)] [] := by
  unfold f_X7_readPool_j59 at h
  refine x_iload_n X dX7_readPool_59 rfl 1 rfl ?_
  refine x_if_le (tgt := 85) X dX7_readPool_60 (by decide) (fun c8 => ?_) (fun c8 => ?_)
  · replace h := if_t c8 h
    refine x_sub [0, 2] rfl ?_
    exact w_X7_readPool_j85 ret X x2 u h
  · replace h := if_f c8 h
    refine x_aload_n X dX7_readPool_63 rfl 0 rfl ?_
    refine x_get (v := .ref (g.1 3)) X 0 11 in_X7 rfl rfl (by decide) m_X7_16 rfl dX7_readPool_64 ?_
    refine x_iconst (v := 0) X dX7_readPool_67 (by decide) ?_
    refine x_aload_n X dX7_readPool_68 rfl 0 rfl ?_
    refine x_get (v := .int (u 7 0)) X 0 9 in_X7 rfl rfl (by decide) m_X7_71 rfl dX7_readPool_69 ?_
    refine x_bipush (v := 7) X dX7_readPool_72 (by decide) ?_
    refine x_icmp_ne (tgt := 81) X dX7_readPool_74 (by decide) (fun c9 => ?_) (fun c9 => ?_)
    · replace h := if_f c9 h
      refine x_iload_n X dX7_readPool_81 rfl 2 rfl ?_
      refine x_iconst (v := 1) X dX7_readPool_82 (by decide) ?_
      refine x_isub X dX7_readPool_83 ?_
      refine x_sub [0, 2] rfl ?_
      exact w_X7_readPool_j84 ret X x2 0 (x2 - 1) u h
    · replace h := if_t c9 h
      refine x_iload_n X dX7_readPool_77 rfl 2 rfl ?_
      refine x_goto (tgt := 84) X dX7_readPool_78 (by decide) ?_
      refine x_sub [0, 2] rfl ?_
      exact w_X7_readPool_j84 ret X x2 0 x2 u h
set_option maxRecDepth 100000 in
set_option maxHeartbeats 4000000 in
theorem w_X7_readPool_j24 {K : Cx} {g : Gw} (ret : St) (X : XC K g cX7_readPool 4 RX7 none rm_X7_readPool) (x1 : Int32) (u : St) (h : f_X7_readPool_j24 x1 u = some ret) : XW K 0 0 4 (QV K g (wdM g) ret) (wdM g) u 24 [(0, .ref (g.1 0)), (1, .int x1)] [] := by
  unfold f_X7_readPool_j24 at h
  refine x_iconst (v := 1) X dX7_readPool_24 (by decide) ?_
  refine x_istore_n (lv2 := [(2, .int 1), (0, .ref (g.1 0)), (1, .int x1)]) X dX7_readPool_25 rfl (by decide) rfl ?_
  refine x_sub [1, 2, 0] rfl ?_
  obtain ⟨q70, e7, h⟩ := bd h
  refine loopF_w (WH := H_X7_readPool_26 x1 K g ret) (KB := E_X7_readPool_26 x1 K g ret) (fun a9 r9 h9 k8 k7 => w_X7_readPool_b26 x1 ret X a9 r9 h9 k8 k7) FU (1, u) q70 e7 ?_
  rcases q70 with q7 | q7
  · replace h := sl h
    exact (Option.some.inj h)
  · replace h := sr h
    show XW K 0 0 4 (QV K g (wdM g) ret) (wdM g) q7.2 59 [(0, .ref (g.1 0)), (1, .int x1), (2, .int q7.1)] []
    exact w_X7_readPool_j59 ret X x1 q7.1 q7.2 h
set_option maxRecDepth 100000 in
set_option maxHeartbeats 4000000 in
theorem c_X7_readPool (l : Launch) (D : va_G) (g : Gw) (u : St) (ret : St) (h : f_X7_readPool u = some ret) : metV l D g (wdM g) yX7_readPool cX7_readPool 4 rm_X7_readPool [.ref (g.1 0)] u ret := by
  refine metV_of (own := RX7) (lv := [(0, .ref (g.1 0))]) (by decide) rfl rfl (Nat.le_of_ble_eq_true rfl) (fun K hl9 hD9 X => ?_)
  subst hl9
  subst hD9
  unfold f_X7_readPool at h
  refine x_aload_n X dX7_readPool_0 rfl 0 rfl ?_
  obtain ⟨q1, e1, h⟩ := bd h
  refine x_callI X [] [] (c_X7_u2 K.l K.D g u q1 e1) ok_X7_u2 m_X7_130 0 rfl rfl rfl rfl (Nat.le_of_ble_eq_true rfl) ⟨Nat.zero_le _, Nat.zero_le _⟩ ⟨rfl, rfl, by decide, by decide⟩ dX7_readPool_1 ?_
  refine x_istore_n (lv2 := [(1, .int q1.1), (0, .ref (g.1 0))]) X dX7_readPool_4 rfl (by decide) rfl ?_
  refine x_aload_n X dX7_readPool_5 rfl 1 rfl ?_
  refine x_get (v := .int (q1.2 7 0)) X 0 9 in_X7 rfl rfl (by decide) m_X7_71 rfl dX7_readPool_6 ?_
  refine x_if_ne (tgt := 24) X dX7_readPool_9 (by decide) (fun c2 => ?_) (fun c2 => ?_)
  · replace h := if_f c2 h
    refine x_sub [1, 0] rfl ?_
    exact w_X7_readPool_j24 ret X q1.1 q1.2 h
  · replace h := if_t c2 h
    refine x_iload_n X dX7_readPool_12 rfl 0 rfl ?_
    refine x_if_ne (tgt := 24) X dX7_readPool_13 (by decide) (fun c11 => ?_) (fun c11 => ?_)
    · replace h := if_f c11 h
      refine x_sub [1, 0] rfl ?_
      exact w_X7_readPool_j24 ret X q1.1 q1.2 h
    · replace h := if_t c11 h
      refine x_aload_n X dX7_readPool_16 rfl 1 rfl ?_
      refine x_iconst (v := 4) X dX7_readPool_17 (by decide) ?_
      refine x_bipush (v := 8) X dX7_readPool_18 (by decide) ?_
      obtain ⟨q12, e12, h⟩ := bd h
      refine x_callI X [.int 4, .int 8] [] (c_X7_fail K.l K.D g 4 8 q1.2 q12 e12) ok_X7_fail m_X7_89 0 rfl rfl rfl rfl (Nat.le_of_ble_eq_true rfl) ⟨Nat.zero_le _, Nat.zero_le _⟩ ⟨rfl, rfl, by decide, by decide⟩ dX7_readPool_20 ?_
      refine x_pop X dX7_readPool_23 rfl ?_
      refine x_sub [1, 0] rfl ?_
      exact w_X7_readPool_j24 ret X q1.1 q12.2 h
set_option maxRecDepth 100000 in
set_option maxHeartbeats 4000000 in
theorem w_X7_names_j22 {K : Cx} {g : Gw} (ret : Int32) (X : XC K g cX7_names 2 RX7 (some .boolean) rm_X7_names) (x1 : Int32) (u : St) (h : f_X7_names_j22 x1 u = some ret) : XW K 0 0 2 (QI K g (wdM g) (ret, u)) (wdM g) u 22 [(0, .ref (g.1 0)), (1, .int x1)] [] := by
  unfold f_X7_names_j22 at h
  refine x_aload_n X dX7_names_22 rfl 0 rfl ?_
  refine x_aload_n X dX7_names_23 rfl 0 rfl ?_
  refine x_get (v := .ref (g.1 6)) X 0 14 in_X7 rfl rfl (by decide) m_X7_25 rfl dX7_names_24 ?_
  refine x_iload_n X dX7_names_27 rfl 1 rfl ?_
  obtain ⟨i3, h⟩ := chk_some h
  refine x_iald (f := (u 35)) X 6 0 rfl rfl i3 dX7_names_28 ?_
  refine x_iconst (v := 1) X dX7_names_29 (by decide) ?_
  obtain ⟨q4, e4, h⟩ := bd h
  refine x_callR X [.int ((u 35) (Int32.toNatClampNeg x1)), .int 1] [] (c_X7_is K.l K.D g ((u 35) (Int32.toNatClampNeg x1)) 1 u q4 e4) ok_X7_is m_X7_143 0 rfl rfl rfl rfl (Nat.le_of_ble_eq_true rfl) ⟨Nat.zero_le _, Nat.zero_le _⟩ ⟨rfl, rfl, by decide, by decide⟩ dX7_names_30 ?_
  obtain ⟨b5, h⟩ := bchk_some h
  exact x_zret X b5 (roE (Option.some.inj h)) dX7_names_33
set_option maxRecDepth 100000 in
set_option maxHeartbeats 4000000 in
theorem w_X7_names_j125 {K : Cx} {g : Gw} (ret : Int32) (X : XC K g cX7_names 2 RX7 (some .boolean) rm_X7_names) (z0 : Int32) (u : St) (h : f_X7_names_j125 z0 u = some ret) : XW K 0 0 2 (QI K g (wdM g) (ret, u)) (wdM g) u 125 [] [.int z0] := by
  unfold f_X7_names_j125 at h
  obtain ⟨b12, h⟩ := bchk_some h
  exact x_zret X b12 (roE (Option.some.inj h)) dX7_names_125
set_option maxRecDepth 100000 in
set_option maxHeartbeats 4000000 in
theorem w_X7_names_j120 {K : Cx} {g : Gw} (ret : Int32) (X : XC K g cX7_names 2 RX7 (some .boolean) rm_X7_names) (u : St) (h : f_X7_names_j120 u = some ret) : XW K 0 0 2 (QI K g (wdM g) (ret, u)) (wdM g) u 120 [] [] := by
  unfold f_X7_names_j120 at h
  refine x_iconst (v := 1) X dX7_names_120 (by decide) ?_
  refine x_goto (tgt := 125) X dX7_names_121 (by decide) ?_
  exact w_X7_names_j125 ret X 1 u h
set_option maxRecDepth 100000 in
set_option maxHeartbeats 4000000 in
theorem w_X7_names_j124 {K : Cx} {g : Gw} (ret : Int32) (X : XC K g cX7_names 2 RX7 (some .boolean) rm_X7_names) (u : St) (h : f_X7_names_j124 u = some ret) : XW K 0 0 2 (QI K g (wdM g) (ret, u)) (wdM g) u 124 [] [] := by
  unfold f_X7_names_j124 at h
  refine x_iconst (v := 0) X dX7_names_124 (by decide) ?_
  exact w_X7_names_j125 ret X 0 u h
set_option maxRecDepth 100000 in
set_option maxHeartbeats 4000000 in
theorem w_X7_names_j80 {K : Cx} {g : Gw} (ret : Int32) (X : XC K g cX7_names 2 RX7 (some .boolean) rm_X7_names) (z0 : Int32) (u : St) (h : f_X7_names_j80 z0 u = some ret) : XW K 0 0 2 (QI K g (wdM g) (ret, u)) (wdM g) u 80 [] [.int z0] := by
  unfold f_X7_names_j80 at h
  obtain ⟨b22, h⟩ := bchk_some h
  exact x_zret X b22 (roE (Option.some.inj h)) dX7_names_80
set_option maxRecDepth 100000 in
set_option maxHeartbeats 4000000 in
theorem w_X7_names_j79 {K : Cx} {g : Gw} (ret : Int32) (X : XC K g cX7_names 2 RX7 (some .boolean) rm_X7_names) (u : St) (h : f_X7_names_j79 u = some ret) : XW K 0 0 2 (QI K g (wdM g) (ret, u)) (wdM g) u 79 [] [] := by
  unfold f_X7_names_j79 at h
  refine x_iconst (v := 0) X dX7_names_79 (by decide) ?_
  exact w_X7_names_j80 ret X 0 u h
set_option maxRecDepth 100000 in
set_option maxHeartbeats 4000000 in
theorem c_X7_names (l : Launch) (D : va_G) (g : Gw) (p0 : Int32) (u : St) (ret : Int32) (h : f_X7_names p0 u = some ret) : metI l D g (wdM g) yX7_names cX7_names 2 .boolean rm_X7_names [.ref (g.1 0), .int p0] u (ret, u) := by
  refine metI_of (own := RX7) (lv := [(0, .ref (g.1 0)), (1, .int p0)]) (by decide) rfl rfl (Nat.le_of_ble_eq_true rfl) (fun K hl9 hD9 X => ?_)
  subst hl9
  subst hD9
  unfold f_X7_names at h
  refine x_aload_n X dX7_names_0 rfl 0 rfl ?_
  refine x_get (v := .ref (g.1 4)) X 0 12 in_X7 rfl rfl (by decide) m_X7_19 rfl dX7_names_1 ?_
  refine x_iload_n X dX7_names_4 rfl 1 rfl ?_
  obtain ⟨i1, h⟩ := chk_some h
  refine x_iald (f := (u 33)) X 4 0 rfl rfl i1 dX7_names_5 ?_
  refine x_bipush (v := 7) X dX7_names_6 (by decide) ?_
  refine x_icmp_eq (tgt := 22) X dX7_names_8 (by decide) (fun c2 => ?_) (fun c2 => ?_)
  · replace h := if_t c2 h
    exact w_X7_names_j22 ret X p0 u h
  · replace h := if_f c2 h
    refine x_aload_n X dX7_names_11 rfl 0 rfl ?_
    refine x_get (v := .ref (g.1 4)) X 0 12 in_X7 rfl rfl (by decide) m_X7_19 rfl dX7_names_12 ?_
    refine x_iload_n X dX7_names_15 rfl 1 rfl ?_
    obtain ⟨i6, h⟩ := chk_some h
    refine x_iald (f := (u 33)) X 4 0 rfl rfl i6 dX7_names_16 ?_
    refine x_bipush (v := 8) X dX7_names_17 (by decide) ?_
    refine x_icmp_ne (tgt := 34) X dX7_names_19 (by decide) (fun c7 => ?_) (fun c7 => ?_)
    · replace h := if_f c7 h
      refine x_aload_n X dX7_names_34 rfl 0 rfl ?_
      refine x_get (v := .ref (g.1 4)) X 0 12 in_X7 rfl rfl (by decide) m_X7_19 rfl dX7_names_35 ?_
      refine x_iload_n X dX7_names_38 rfl 1 rfl ?_
      obtain ⟨i8, h⟩ := chk_some h
      refine x_iald (f := (u 33)) X 4 0 rfl rfl i8 dX7_names_39 ?_
      refine x_bipush (v := 10) X dX7_names_40 (by decide) ?_
      refine x_icmp_ne (tgt := 81) X dX7_names_42 (by decide) (fun c9 => ?_) (fun c9 => ?_)
      · replace h := if_f c9 h
        refine x_aload_n X dX7_names_81 rfl 0 rfl ?_
        refine x_get (v := .ref (g.1 4)) X 0 12 in_X7 rfl rfl (by decide) m_X7_19 rfl dX7_names_82 ?_
        refine x_iload_n X dX7_names_85 rfl 1 rfl ?_
        obtain ⟨i10, h⟩ := chk_some h
        refine x_iald (f := (u 33)) X 4 0 rfl rfl i10 dX7_names_86 ?_
        refine x_bipush (v := 12) X dX7_names_87 (by decide) ?_
        refine x_icmp_ne (tgt := 120) X dX7_names_89 (by decide) (fun c11 => ?_) (fun c11 => ?_)
        · replace h := if_f c11 h
          refine x_sub [] rfl ?_
          exact w_X7_names_j120 ret X u h
        · replace h := if_t c11 h
          refine x_aload_n X dX7_names_92 rfl 0 rfl ?_
          refine x_aload_n X dX7_names_93 rfl 0 rfl ?_
          refine x_get (v := .ref (g.1 6)) X 0 14 in_X7 rfl rfl (by decide) m_X7_25 rfl dX7_names_94 ?_
          refine x_iload_n X dX7_names_97 rfl 1 rfl ?_
          obtain ⟨i13, h⟩ := chk_some h
          refine x_iald (f := (u 35)) X 6 0 rfl rfl i13 dX7_names_98 ?_
          refine x_iconst (v := 1) X dX7_names_99 (by decide) ?_
          obtain ⟨q14, e14, h⟩ := bd h
          refine x_callR X [.int ((u 35) (Int32.toNatClampNeg p0)), .int 1] [] (c_X7_is K.l K.D g ((u 35) (Int32.toNatClampNeg p0)) 1 u q14 e14) ok_X7_is m_X7_143 0 rfl rfl rfl rfl (Nat.le_of_ble_eq_true rfl) ⟨Nat.zero_le _, Nat.zero_le _⟩ ⟨rfl, rfl, by decide, by decide⟩ dX7_names_100 ?_
          refine x_if_eq (tgt := 124) X dX7_names_103 (by decide) (fun c15 => ?_) (fun c15 => ?_)
          · replace h := if_t c15 h
            refine x_sub [] rfl ?_
            exact w_X7_names_j124 ret X u h
          · replace h := if_f c15 h
            refine x_aload_n X dX7_names_106 rfl 0 rfl ?_
            refine x_aload_n X dX7_names_107 rfl 0 rfl ?_
            refine x_get (v := .ref (g.1 7)) X 0 15 in_X7 rfl rfl (by decide) m_X7_28 rfl dX7_names_108 ?_
            refine x_iload_n X dX7_names_111 rfl 1 rfl ?_
            obtain ⟨i16, h⟩ := chk_some h
            refine x_iald (f := (u 36)) X 7 0 rfl rfl i16 dX7_names_112 ?_
            refine x_iconst (v := 1) X dX7_names_113 (by decide) ?_
            obtain ⟨q17, e17, h⟩ := bd h
            refine x_callR X [.int ((u 36) (Int32.toNatClampNeg p0)), .int 1] [] (c_X7_is K.l K.D g ((u 36) (Int32.toNatClampNeg p0)) 1 u q17 e17) ok_X7_is m_X7_143 0 rfl rfl rfl rfl (Nat.le_of_ble_eq_true rfl) ⟨Nat.zero_le _, Nat.zero_le _⟩ ⟨rfl, rfl, by decide, by decide⟩ dX7_names_114 ?_
            refine x_if_eq (tgt := 124) X dX7_names_117 (by decide) (fun c18 => ?_) (fun c18 => ?_)
            · replace h := if_t c18 h
              refine x_sub [] rfl ?_
              exact w_X7_names_j124 ret X u h
            · replace h := if_f c18 h
              refine x_sub [] rfl ?_
              exact w_X7_names_j120 ret X u h
      · replace h := if_t c9 h
        refine x_aload_n X dX7_names_45 rfl 0 rfl ?_
        refine x_aload_n X dX7_names_46 rfl 0 rfl ?_
        refine x_get (v := .ref (g.1 6)) X 0 14 in_X7 rfl rfl (by decide) m_X7_25 rfl dX7_names_47 ?_
        refine x_iload_n X dX7_names_50 rfl 1 rfl ?_
        obtain ⟨i19, h⟩ := chk_some h
        refine x_iald (f := (u 35)) X 6 0 rfl rfl i19 dX7_names_51 ?_
        refine x_bipush (v := 7) X dX7_names_52 (by decide) ?_
        obtain ⟨q20, e20, h⟩ := bd h
        refine x_callR X [.int ((u 35) (Int32.toNatClampNeg p0)), .int 7] [] (c_X7_is K.l K.D g ((u 35) (Int32.toNatClampNeg p0)) 7 u q20 e20) ok_X7_is m_X7_143 0 rfl rfl rfl rfl (Nat.le_of_ble_eq_true rfl) ⟨Nat.zero_le _, Nat.zero_le _⟩ ⟨rfl, rfl, by decide, by decide⟩ dX7_names_54 ?_
        refine x_if_eq (tgt := 79) X dX7_names_57 (by decide) (fun c21 => ?_) (fun c21 => ?_)
        · replace h := if_t c21 h
          refine x_sub [] rfl ?_
          exact w_X7_names_j79 ret X u h
        · replace h := if_f c21 h
          refine x_aload_n X dX7_names_60 rfl 0 rfl ?_
          refine x_aload_n X dX7_names_61 rfl 0 rfl ?_
          refine x_get (v := .ref (g.1 7)) X 0 15 in_X7 rfl rfl (by decide) m_X7_28 rfl dX7_names_62 ?_
          refine x_iload_n X dX7_names_65 rfl 1 rfl ?_
          obtain ⟨i23, h⟩ := chk_some h
          refine x_iald (f := (u 36)) X 7 0 rfl rfl i23 dX7_names_66 ?_
          refine x_bipush (v := 12) X dX7_names_67 (by decide) ?_
          obtain ⟨q24, e24, h⟩ := bd h
          refine x_callR X [.int ((u 36) (Int32.toNatClampNeg p0)), .int 12] [] (c_X7_is K.l K.D g ((u 36) (Int32.toNatClampNeg p0)) 12 u q24 e24) ok_X7_is m_X7_143 0 rfl rfl rfl rfl (Nat.le_of_ble_eq_true rfl) ⟨Nat.zero_le _, Nat.zero_le _⟩ ⟨rfl, rfl, by decide, by decide⟩ dX7_names_69 ?_
          refine x_if_eq (tgt := 79) X dX7_names_72 (by decide) (fun c25 => ?_) (fun c25 => ?_)
          · replace h := if_t c25 h
            refine x_sub [] rfl ?_
            exact w_X7_names_j79 ret X u h
          · replace h := if_f c25 h
            refine x_iconst (v := 1) X dX7_names_75 (by decide) ?_
            refine x_goto (tgt := 80) X dX7_names_76 (by decide) ?_
            refine x_sub [] rfl ?_
            exact w_X7_names_j80 ret X 1 u h
    · replace h := if_t c7 h
      exact w_X7_names_j22 ret X p0 u h
