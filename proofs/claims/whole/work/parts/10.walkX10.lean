set_option maxRecDepth 100000 in
set_option maxHeartbeats 4000000 in
theorem c_X0_wideSize (l : Launch) (D : va_G) (g : Gw) (p0 : Int32) (u : St) (ret : Int32) (h : f_X0_wideSize p0 u = some ret) : metI l D g (wdX g) yX0_wideSize cX0_wideSize 2 .int rm_X0_wideSize [.ref (g.1 5), .int p0] u (ret, u) := by
  refine metI_of (own := RX0) (lv := [(0, .ref (g.1 5)), (1, .int p0)]) (by decide) rfl rfl (Nat.le_of_ble_eq_true rfl) (fun K hl9 hD9 X => ?_)
  subst hl9
  subst hD9
  unfold f_X0_wideSize at h
  refine x_iload_n X dX0_wideSize_0 rfl 1 rfl ?_
  refine x_iconst (v := 1) X dX0_wideSize_1 (by decide) ?_
  refine x_iadd X dX0_wideSize_2 ?_
  refine x_aload_n X dX0_wideSize_3 rfl 0 rfl ?_
  refine x_get (v := .int (u 10 0)) X 5 6 in_X0 rfl rfl (by decide) m_X0_45 rfl dX0_wideSize_4 ?_
  refine x_icmp_lt (tgt := 12) X dX0_wideSize_7 (by decide) (fun c1 => ?_) (fun c1 => ?_)
  · replace h := if_t c1 h
    refine x_aload_n X dX0_wideSize_12 rfl 0 rfl ?_
    refine x_get (v := .ref (g.1 1)) X 5 0 in_X0 rfl rfl (by decide) m_X0_27 rfl dX0_wideSize_13 ?_
    refine x_get (v := .ref (g.1 8)) X 1 0 in_X1 rfl rfl (by decide) m_X0_71 rfl dX0_wideSize_16 ?_
    refine x_aload_n X dX0_wideSize_19 rfl 0 rfl ?_
    refine x_get (v := .int (u 9 0)) X 5 5 in_X0 rfl rfl (by decide) m_X0_48 rfl dX0_wideSize_20 ?_
    refine x_iload_n X dX0_wideSize_23 rfl 1 rfl ?_
    refine x_iadd X dX0_wideSize_24 ?_
    refine x_iconst (v := 1) X dX0_wideSize_25 (by decide) ?_
    refine x_iadd X dX0_wideSize_26 ?_
    obtain ⟨i2, h⟩ := chk_some h
    refine x_iald (f := (u 22)) X 8 0 rfl rfl i2 dX0_wideSize_27 ?_
    by_cases c3_0 : ((u 22) (Int32.toNatClampNeg (((u 9 0) + p0) + 1))) = 21 ∨ ((u 22) (Int32.toNatClampNeg (((u 9 0) + p0) + 1))) = 54
    · replace h := if_t c3_0 h
      have k9 : XW K 0 0 2 (QI K g (wdX g) (ret, u)) (wdX g) u 64 [(0, .ref (g.1 5)), (1, .int p0)] [] := by
        refine x_iconst (v := 4) X dX0_wideSize_64 (by decide) ?_
        exact x_iret X (roE (Option.some.inj h)) dX0_wideSize_65
      rcases c3_0 with c3_0 | c3_0 <;> exact x_lookup (off := 36) (tgt := 64) X dX0_wideSize_28 (by decide) (by rw [c3_0]; decide) (by decide) k9
    replace h := if_f c3_0 h
    by_cases c3_1 : ((u 22) (Int32.toNatClampNeg (((u 9 0) + p0) + 1))) = 132
    · replace h := if_t c3_1 h
      have k9 : XW K 0 0 2 (QI K g (wdX g) (ret, u)) (wdX g) u 66 [(0, .ref (g.1 5)), (1, .int p0)] [] := by
        refine x_bipush (v := 6) X dX0_wideSize_66 (by decide) ?_
        exact x_iret X (roE (Option.some.inj h)) dX0_wideSize_68
      exact x_lookup (off := 38) (tgt := 66) X dX0_wideSize_28 (by decide) (by rw [c3_1]; decide) (by decide) k9
    replace h := if_f c3_1 h
    refine x_lookup (off := 41) (tgt := 69) X dX0_wideSize_28 (by decide) ((lv_osw (fun q9 => c3_0 (.inl q9)) (by decide)).trans ((lv_osw (fun q9 => c3_0 (.inr q9)) (by decide)).trans ((lv_osw c3_1 (by decide)).trans rfl))) (by decide) ?_
    refine x_iconst (v := 0) X dX0_wideSize_69 (by decide) ?_
    exact x_iret X (roE (Option.some.inj h)) dX0_wideSize_70
  · replace h := if_f c1 h
    refine x_iconst (v := 0) X dX0_wideSize_10 (by decide) ?_
    exact x_iret X (roE (Option.some.inj h)) dX0_wideSize_11
set_option maxRecDepth 100000 in
set_option maxHeartbeats 4000000 in
theorem c_X0_sizeOf (l : Launch) (D : va_G) (g : Gw) (p0 : Int32) (u : St) (ret : Int32) (h : f_X0_sizeOf p0 u = some ret) : metI l D g (wdX g) yX0_sizeOf cX0_sizeOf 2 .int rm_X0_sizeOf [.ref (g.1 5), .int p0] u (ret, u) := by
  refine metI_of (own := RX0) (lv := [(0, .ref (g.1 5)), (1, .int p0)]) (by decide) rfl rfl (Nat.le_of_ble_eq_true rfl) (fun K hl9 hD9 X => ?_)
  subst hl9
  subst hD9
  unfold f_X0_sizeOf at h
  refine x_aload_n X dX0_sizeOf_0 rfl 0 rfl ?_
  refine x_get (v := .ref (g.1 1)) X 5 0 in_X0 rfl rfl (by decide) m_X0_27 rfl dX0_sizeOf_1 ?_
  refine x_get (v := .ref (g.1 8)) X 1 0 in_X1 rfl rfl (by decide) m_X0_71 rfl dX0_sizeOf_4 ?_
  refine x_aload_n X dX0_sizeOf_7 rfl 0 rfl ?_
  refine x_get (v := .int (u 9 0)) X 5 5 in_X0 rfl rfl (by decide) m_X0_48 rfl dX0_sizeOf_8 ?_
  refine x_iload_n X dX0_sizeOf_11 rfl 1 rfl ?_
  refine x_iadd X dX0_sizeOf_12 ?_
  obtain ⟨i1, h⟩ := chk_some h
  refine x_iald (f := (u 22)) X 8 0 rfl rfl i1 dX0_sizeOf_13 ?_
  by_cases c2_0 : ((u 22) (Int32.toNatClampNeg ((u 9 0) + p0))) = 0 ∨ ((u 22) (Int32.toNatClampNeg ((u 9 0) + p0))) = 1 ∨ ((u 22) (Int32.toNatClampNeg ((u 9 0) + p0))) = 3 ∨ ((u 22) (Int32.toNatClampNeg ((u 9 0) + p0))) = 87 ∨ ((u 22) (Int32.toNatClampNeg ((u 9 0) + p0))) = 96 ∨ ((u 22) (Int32.toNatClampNeg ((u 9 0) + p0))) = 172 ∨ ((u 22) (Int32.toNatClampNeg ((u 9 0) + p0))) = 177 ∨ ((u 22) (Int32.toNatClampNeg ((u 9 0) + p0))) = 191
  · replace h := if_t c2_0 h
    have k9 : XW K 0 0 2 (QI K g (wdX g) (ret, u)) (wdX g) u 176 [(0, .ref (g.1 5)), (1, .int p0)] [] := by
      refine x_iconst (v := 1) X dX0_sizeOf_176 (by decide) ?_
      exact x_iret X (roE (Option.some.inj h)) dX0_sizeOf_177
    rcases c2_0 with c2_0 | c2_0 | c2_0 | c2_0 | c2_0 | c2_0 | c2_0 | c2_0 <;> exact x_lookup (off := 162) (tgt := 176) X dX0_sizeOf_14 (by decide) (by rw [c2_0]; decide) (by decide) k9
  replace h := if_f c2_0 h
  by_cases c2_1 : ((u 22) (Int32.toNatClampNeg ((u 9 0) + p0))) = 16 ∨ ((u 22) (Int32.toNatClampNeg ((u 9 0) + p0))) = 18 ∨ ((u 22) (Int32.toNatClampNeg ((u 9 0) + p0))) = 21 ∨ ((u 22) (Int32.toNatClampNeg ((u 9 0) + p0))) = 54
  · replace h := if_t c2_1 h
    have k9 : XW K 0 0 2 (QI K g (wdX g) (ret, u)) (wdX g) u 178 [(0, .ref (g.1 5)), (1, .int p0)] [] := by
      refine x_iconst (v := 2) X dX0_sizeOf_178 (by decide) ?_
      exact x_iret X (roE (Option.some.inj h)) dX0_sizeOf_179
    rcases c2_1 with c2_1 | c2_1 | c2_1 | c2_1 <;> exact x_lookup (off := 164) (tgt := 178) X dX0_sizeOf_14 (by decide) (by rw [c2_1]; decide) (by decide) k9
  replace h := if_f c2_1 h
  by_cases c2_2 : ((u 22) (Int32.toNatClampNeg ((u 9 0) + p0))) = 17 ∨ ((u 22) (Int32.toNatClampNeg ((u 9 0) + p0))) = 132 ∨ ((u 22) (Int32.toNatClampNeg ((u 9 0) + p0))) = 153 ∨ ((u 22) (Int32.toNatClampNeg ((u 9 0) + p0))) = 167 ∨ ((u 22) (Int32.toNatClampNeg ((u 9 0) + p0))) = 184
  · replace h := if_t c2_2 h
    have k9 : XW K 0 0 2 (QI K g (wdX g) (ret, u)) (wdX g) u 180 [(0, .ref (g.1 5)), (1, .int p0)] [] := by
      refine x_iconst (v := 3) X dX0_sizeOf_180 (by decide) ?_
      exact x_iret X (roE (Option.some.inj h)) dX0_sizeOf_181
    rcases c2_2 with c2_2 | c2_2 | c2_2 | c2_2 | c2_2 <;> exact x_lookup (off := 166) (tgt := 180) X dX0_sizeOf_14 (by decide) (by rw [c2_2]; decide) (by decide) k9
  replace h := if_f c2_2 h
  by_cases c2_3 : ((u 22) (Int32.toNatClampNeg ((u 9 0) + p0))) = 170
  · replace h := if_t c2_3 h
    have k9 : XW K 0 0 2 (QI K g (wdX g) (ret, u)) (wdX g) u 182 [(0, .ref (g.1 5)), (1, .int p0)] [] := by
      refine x_aload_n X dX0_sizeOf_182 rfl 0 rfl ?_
      refine x_iload_n X dX0_sizeOf_183 rfl 1 rfl ?_
      obtain ⟨q3, e3, h⟩ := bd h
      refine x_callR X [.int p0] [] (c_X0_tableSize K.l K.D g p0 u q3 e3) ok_X0_tableSize m_X0_77 5 rfl rfl rfl rfl (Nat.le_of_ble_eq_true rfl) ⟨Nat.zero_le _, Nat.zero_le _⟩ ⟨rfl, rfl, by decide, by decide⟩ dX0_sizeOf_184 ?_
      exact x_iret X (roE (Option.some.inj h)) dX0_sizeOf_187
    exact x_lookup (off := 168) (tgt := 182) X dX0_sizeOf_14 (by decide) (by rw [c2_3]; decide) (by decide) k9
  replace h := if_f c2_3 h
  by_cases c2_4 : ((u 22) (Int32.toNatClampNeg ((u 9 0) + p0))) = 196
  · replace h := if_t c2_4 h
    have k9 : XW K 0 0 2 (QI K g (wdX g) (ret, u)) (wdX g) u 188 [(0, .ref (g.1 5)), (1, .int p0)] [] := by
      refine x_aload_n X dX0_sizeOf_188 rfl 0 rfl ?_
      refine x_iload_n X dX0_sizeOf_189 rfl 1 rfl ?_
      obtain ⟨q4, e4, h⟩ := bd h
      refine x_callR X [.int p0] [] (c_X0_wideSize K.l K.D g p0 u q4 e4) ok_X0_wideSize m_X0_80 5 rfl rfl rfl rfl (Nat.le_of_ble_eq_true rfl) ⟨Nat.zero_le _, Nat.zero_le _⟩ ⟨rfl, rfl, by decide, by decide⟩ dX0_sizeOf_190 ?_
      exact x_iret X (roE (Option.some.inj h)) dX0_sizeOf_193
    exact x_lookup (off := 174) (tgt := 188) X dX0_sizeOf_14 (by decide) (by rw [c2_4]; decide) (by decide) k9
  replace h := if_f c2_4 h
  refine x_lookup (off := 180) (tgt := 194) X dX0_sizeOf_14 (by decide) ((lv_osw (fun q9 => c2_0 (.inl q9)) (by decide)).trans ((lv_osw (fun q9 => c2_0 (.inr (.inl q9))) (by decide)).trans ((lv_osw (fun q9 => c2_0 (.inr (.inr (.inl q9)))) (by decide)).trans ((lv_osw (fun q9 => c2_1 (.inl q9)) (by decide)).trans ((lv_osw (fun q9 => c2_2 (.inl q9)) (by decide)).trans ((lv_osw (fun q9 => c2_1 (.inr (.inl q9))) (by decide)).trans ((lv_osw (fun q9 => c2_1 (.inr (.inr (.inl q9)))) (by decide)).trans ((lv_osw (fun q9 => c2_1 (.inr (.inr (.inr q9)))) (by decide)).trans ((lv_osw (fun q9 => c2_0 (.inr (.inr (.inr (.inl q9))))) (by decide)).trans ((lv_osw (fun q9 => c2_0 (.inr (.inr (.inr (.inr (.inl q9)))))) (by decide)).trans ((lv_osw (fun q9 => c2_2 (.inr (.inl q9))) (by decide)).trans ((lv_osw (fun q9 => c2_2 (.inr (.inr (.inl q9)))) (by decide)).trans ((lv_osw (fun q9 => c2_2 (.inr (.inr (.inr (.inl q9))))) (by decide)).trans ((lv_osw c2_3 (by decide)).trans ((lv_osw (fun q9 => c2_0 (.inr (.inr (.inr (.inr (.inr (.inl q9))))))) (by decide)).trans ((lv_osw (fun q9 => c2_0 (.inr (.inr (.inr (.inr (.inr (.inr (.inl q9)))))))) (by decide)).trans ((lv_osw (fun q9 => c2_2 (.inr (.inr (.inr (.inr q9))))) (by decide)).trans ((lv_osw (fun q9 => c2_0 (.inr (.inr (.inr (.inr (.inr (.inr (.inr q9)))))))) (by decide)).trans ((lv_osw c2_4 (by decide)).trans rfl))))))))))))))))))) (by decide) ?_
  refine x_iconst (v := 0) X dX0_sizeOf_194 (by decide) ?_
  exact x_iret X (roE (Option.some.inj h)) dX0_sizeOf_195
set_option maxRecDepth 100000 in
set_option maxHeartbeats 4000000 in
theorem w_X0_operandsFit_j126 {K : Cx} {g : Gw} (ret : Int32) (X : XC K g cX0_operandsFit 3 RX0 (some .boolean) rm_X0_operandsFit) (z0 : Int32) (u : St) (h : f_X0_operandsFit_j126 z0 u = some ret) : XW K 0 0 3 (QI K g (wdX g) (ret, u)) (wdX g) u 126 [] [.int z0] := by
  unfold f_X0_operandsFit_j126 at h
  obtain ⟨b6, h⟩ := bchk_some h
  exact x_zret X b6 (roE (Option.some.inj h)) dX0_operandsFit_126
set_option maxRecDepth 100000 in
set_option maxHeartbeats 4000000 in
theorem w_X0_operandsFit_j121 {K : Cx} {g : Gw} (ret : Int32) (X : XC K g cX0_operandsFit 3 RX0 (some .boolean) rm_X0_operandsFit) (u : St) (h : f_X0_operandsFit_j121 u = some ret) : XW K 0 0 3 (QI K g (wdX g) (ret, u)) (wdX g) u 121 [] [] := by
  unfold f_X0_operandsFit_j121 at h
  refine x_iconst (v := 1) X dX0_operandsFit_121 (by decide) ?_
  refine x_goto (tgt := 126) X dX0_operandsFit_122 (by decide) ?_
  exact w_X0_operandsFit_j126 ret X 1 u h
set_option maxRecDepth 100000 in
set_option maxHeartbeats 4000000 in
theorem w_X0_operandsFit_j148 {K : Cx} {g : Gw} (ret : Int32) (X : XC K g cX0_operandsFit 3 RX0 (some .boolean) rm_X0_operandsFit) (z0 : Int32) (u : St) (h : f_X0_operandsFit_j148 z0 u = some ret) : XW K 0 0 3 (QI K g (wdX g) (ret, u)) (wdX g) u 148 [] [.int z0] := by
  unfold f_X0_operandsFit_j148 at h
  obtain ⟨b12, h⟩ := bchk_some h
  exact x_zret X b12 (roE (Option.some.inj h)) dX0_operandsFit_148
set_option maxRecDepth 100000 in
set_option maxHeartbeats 4000000 in
theorem w_X0_operandsFit_j174 {K : Cx} {g : Gw} (ret : Int32) (X : XC K g cX0_operandsFit 3 RX0 (some .boolean) rm_X0_operandsFit) (z0 : Int32) (u : St) (h : f_X0_operandsFit_j174 z0 u = some ret) : XW K 0 0 3 (QI K g (wdX g) (ret, u)) (wdX g) u 174 [] [.int z0] := by
  unfold f_X0_operandsFit_j174 at h
  obtain ⟨b16, h⟩ := bchk_some h
  exact x_zret X b16 (roE (Option.some.inj h)) dX0_operandsFit_174
set_option maxRecDepth 100000 in
set_option maxHeartbeats 4000000 in
theorem w_X0_operandsFit_j197 {K : Cx} {g : Gw} (ret : Int32) (X : XC K g cX0_operandsFit 3 RX0 (some .boolean) rm_X0_operandsFit) (z0 : Int32) (u : St) (h : f_X0_operandsFit_j197 z0 u = some ret) : XW K 0 0 3 (QI K g (wdX g) (ret, u)) (wdX g) u 197 [] [.int z0] := by
  unfold f_X0_operandsFit_j197 at h
  obtain ⟨b19, h⟩ := bchk_some h
  exact x_zret X b19 (roE (Option.some.inj h)) dX0_operandsFit_197
set_option maxRecDepth 100000 in
set_option maxHeartbeats 4000000 in
theorem c_X0_operandsFit (l : Launch) (D : va_G) (g : Gw) (p0 : Int32) (u : St) (ret : Int32) (h : f_X0_operandsFit p0 u = some ret) : metI l D g (wdX g) yX0_operandsFit cX0_operandsFit 3 .boolean rm_X0_operandsFit [.ref (g.1 5), .int p0] u (ret, u) := by
  refine metI_of (own := RX0) (lv := [(0, .ref (g.1 5)), (1, .int p0)]) (by decide) rfl rfl (Nat.le_of_ble_eq_true rfl) (fun K hl9 hD9 X => ?_)
  subst hl9
  subst hD9
  unfold f_X0_operandsFit at h
  refine x_aload_n X dX0_operandsFit_0 rfl 0 rfl ?_
  refine x_get (v := .int (u 9 0)) X 5 5 in_X0 rfl rfl (by decide) m_X0_48 rfl dX0_operandsFit_1 ?_
  refine x_iload_n X dX0_operandsFit_4 rfl 1 rfl ?_
  refine x_iadd X dX0_operandsFit_5 ?_
  refine x_iconst (v := 1) X dX0_operandsFit_6 (by decide) ?_
  refine x_iadd X dX0_operandsFit_7 ?_
  refine x_istore_n (lv2 := [(2, .int (((u 9 0) + p0) + 1)), (0, .ref (g.1 5)), (1, .int p0)]) X dX0_operandsFit_8 rfl (by decide) rfl ?_
  refine x_aload_n X dX0_operandsFit_9 rfl 1 rfl ?_
  refine x_get (v := .ref (g.1 1)) X 5 0 in_X0 rfl rfl (by decide) m_X0_27 rfl dX0_operandsFit_10 ?_
  refine x_get (v := .ref (g.1 8)) X 1 0 in_X1 rfl rfl (by decide) m_X0_71 rfl dX0_operandsFit_13 ?_
  refine x_aload_n X dX0_operandsFit_16 rfl 1 rfl ?_
  refine x_get (v := .int (u 9 0)) X 5 5 in_X0 rfl rfl (by decide) m_X0_48 rfl dX0_operandsFit_17 ?_
  refine x_iload_n X dX0_operandsFit_20 rfl 2 rfl ?_
  refine x_iadd X dX0_operandsFit_21 ?_
  obtain ⟨i1, h⟩ := chk_some h
  refine x_iald (f := (u 22)) X 8 0 rfl rfl i1 dX0_operandsFit_22 ?_
  by_cases c2_0 : ((u 22) (Int32.toNatClampNeg ((u 9 0) + p0))) = 18
  · replace h := if_t c2_0 h
    have k9 : XW K 0 0 3 (QI K g (wdX g) (ret, u)) (wdX g) u 80 [(2, .int (((u 9 0) + p0) + 1)), (0, .ref (g.1 5)), (1, .int p0)] [] := by
      refine x_aload_n X dX0_operandsFit_80 rfl 1 rfl ?_
      refine x_get (v := .ref (g.1 4)) X 5 2 in_X0 rfl rfl (by decide) m_X0_28 rfl dX0_operandsFit_81 ?_
      refine x_aload_n X dX0_operandsFit_84 rfl 1 rfl ?_
      refine x_get (v := .ref (g.1 1)) X 5 0 in_X0 rfl rfl (by decide) m_X0_27 rfl dX0_operandsFit_85 ?_
      refine x_get (v := .ref (g.1 8)) X 1 0 in_X1 rfl rfl (by decide) m_X0_71 rfl dX0_operandsFit_88 ?_
      refine x_iload_n X dX0_operandsFit_91 rfl 0 rfl ?_
      obtain ⟨i3, h⟩ := chk_some h
      refine x_iald (f := (u 22)) X 8 0 rfl rfl i3 dX0_operandsFit_92 ?_
      obtain ⟨q4, e4, h⟩ := bd h
      refine x_callR X [.int ((u 22) (Int32.toNatClampNeg (((u 9 0) + p0) + 1)))] [] (c_X4_kindOf K.l K.D g ((u 22) (Int32.toNatClampNeg (((u 9 0) + p0) + 1))) u q4 e4) ok_X4_kindOf m_X0_88 4 rfl rfl rfl rfl (Nat.le_of_ble_eq_true rfl) ⟨Nat.zero_le _, Nat.zero_le _⟩ ⟨rfl, rfl, by decide, by decide⟩ dX0_operandsFit_93 ?_
      refine x_iconst (v := 3) X dX0_operandsFit_96 (by decide) ?_
      refine x_icmp_eq (tgt := 121) X dX0_operandsFit_97 (by decide) (fun c5 => ?_) (fun c5 => ?_)
      · replace h := if_t c5 h
        refine x_sub [] rfl ?_
        exact w_X0_operandsFit_j121 ret X u h
      · replace h := if_f c5 h
        refine x_aload_n X dX0_operandsFit_100 rfl 1 rfl ?_
        refine x_get (v := .ref (g.1 4)) X 5 2 in_X0 rfl rfl (by decide) m_X0_28 rfl dX0_operandsFit_101 ?_
        refine x_aload_n X dX0_operandsFit_104 rfl 1 rfl ?_
        refine x_get (v := .ref (g.1 1)) X 5 0 in_X0 rfl rfl (by decide) m_X0_27 rfl dX0_operandsFit_105 ?_
        refine x_get (v := .ref (g.1 8)) X 1 0 in_X1 rfl rfl (by decide) m_X0_71 rfl dX0_operandsFit_108 ?_
        refine x_iload_n X dX0_operandsFit_111 rfl 0 rfl ?_
        obtain ⟨i7, h⟩ := chk_some h
        refine x_iald (f := (u 22)) X 8 0 rfl rfl i7 dX0_operandsFit_112 ?_
        obtain ⟨q8, e8, h⟩ := bd h
        refine x_callR X [.int ((u 22) (Int32.toNatClampNeg (((u 9 0) + p0) + 1)))] [] (c_X4_kindOf K.l K.D g ((u 22) (Int32.toNatClampNeg (((u 9 0) + p0) + 1))) u q8 e8) ok_X4_kindOf m_X0_88 4 rfl rfl rfl rfl (Nat.le_of_ble_eq_true rfl) ⟨Nat.zero_le _, Nat.zero_le _⟩ ⟨rfl, rfl, by decide, by decide⟩ dX0_operandsFit_113 ?_
        refine x_bipush (v := 8) X dX0_operandsFit_116 (by decide) ?_
        refine x_icmp_ne (tgt := 125) X dX0_operandsFit_118 (by decide) (fun c9 => ?_) (fun c9 => ?_)
        · replace h := if_f c9 h
          refine x_iconst (v := 0) X dX0_operandsFit_125 (by decide) ?_
          refine x_sub [] rfl ?_
          exact w_X0_operandsFit_j126 ret X 0 u h
        · replace h := if_t c9 h
          refine x_sub [] rfl ?_
          exact w_X0_operandsFit_j121 ret X u h
    exact x_lookup (off := 57) (tgt := 80) X dX0_operandsFit_23 (by decide) (by rw [c2_0]; decide) (by decide) k9
  replace h := if_f c2_0 h
  by_cases c2_1 : ((u 22) (Int32.toNatClampNeg ((u 9 0) + p0))) = 21 ∨ ((u 22) (Int32.toNatClampNeg ((u 9 0) + p0))) = 54 ∨ ((u 22) (Int32.toNatClampNeg ((u 9 0) + p0))) = 132
  · replace h := if_t c2_1 h
    have k9 : XW K 0 0 3 (QI K g (wdX g) (ret, u)) (wdX g) u 127 [(2, .int (((u 9 0) + p0) + 1)), (0, .ref (g.1 5)), (1, .int p0)] [] := by
      refine x_aload_n X dX0_operandsFit_127 rfl 1 rfl ?_
      refine x_get (v := .ref (g.1 1)) X 5 0 in_X0 rfl rfl (by decide) m_X0_27 rfl dX0_operandsFit_128 ?_
      refine x_get (v := .ref (g.1 8)) X 1 0 in_X1 rfl rfl (by decide) m_X0_71 rfl dX0_operandsFit_131 ?_
      refine x_iload_n X dX0_operandsFit_134 rfl 0 rfl ?_
      obtain ⟨i10, h⟩ := chk_some h
      refine x_iald (f := (u 22)) X 8 0 rfl rfl i10 dX0_operandsFit_135 ?_
      refine x_aload_n X dX0_operandsFit_136 rfl 1 rfl ?_
      refine x_get (v := .int (u 11 0)) X 5 7 in_X0 rfl rfl (by decide) m_X0_38 rfl dX0_operandsFit_137 ?_
      refine x_icmp_ge (tgt := 147) X dX0_operandsFit_140 (by decide) (fun c11 => ?_) (fun c11 => ?_)
      · replace h := if_t c11 h
        refine x_iconst (v := 0) X dX0_operandsFit_147 (by decide) ?_
        refine x_sub [] rfl ?_
        exact w_X0_operandsFit_j148 ret X 0 u h
      · replace h := if_f c11 h
        refine x_iconst (v := 1) X dX0_operandsFit_143 (by decide) ?_
        refine x_goto (tgt := 148) X dX0_operandsFit_144 (by decide) ?_
        refine x_sub [] rfl ?_
        exact w_X0_operandsFit_j148 ret X 1 u h
    rcases c2_1 with c2_1 | c2_1 | c2_1 <;> exact x_lookup (off := 104) (tgt := 127) X dX0_operandsFit_23 (by decide) (by rw [c2_1]; decide) (by decide) k9
  replace h := if_f c2_1 h
  by_cases c2_2 : ((u 22) (Int32.toNatClampNeg ((u 9 0) + p0))) = 184
  · replace h := if_t c2_2 h
    have k9 : XW K 0 0 3 (QI K g (wdX g) (ret, u)) (wdX g) u 149 [(2, .int (((u 9 0) + p0) + 1)), (0, .ref (g.1 5)), (1, .int p0)] [] := by
      refine x_aload_n X dX0_operandsFit_149 rfl 1 rfl ?_
      refine x_get (v := .ref (g.1 4)) X 5 2 in_X0 rfl rfl (by decide) m_X0_28 rfl dX0_operandsFit_150 ?_
      refine x_aload_n X dX0_operandsFit_153 rfl 1 rfl ?_
      refine x_get (v := .ref (g.1 1)) X 5 0 in_X0 rfl rfl (by decide) m_X0_27 rfl dX0_operandsFit_154 ?_
      refine x_iload_n X dX0_operandsFit_157 rfl 0 rfl ?_
      obtain ⟨q13, e13, h⟩ := bd h
      refine x_callR X [.int (((u 9 0) + p0) + 1)] [.ref (g.1 4)] (c_X1_u2 K.l K.D g (((u 9 0) + p0) + 1) u q13 e13) ok_X1_u2 m_X0_32 1 rfl rfl rfl rfl (Nat.le_of_ble_eq_true rfl) ⟨Nat.zero_le _, Nat.zero_le _⟩ ⟨rfl, rfl, by decide, by decide⟩ dX0_operandsFit_158 ?_
      obtain ⟨q14, e14, h⟩ := bd h
      refine x_callR X [.int q13] [] (c_X4_kindOf K.l K.D g q13 u q14 e14) ok_X4_kindOf m_X0_88 4 rfl rfl rfl rfl (Nat.le_of_ble_eq_true rfl) ⟨Nat.zero_le _, Nat.zero_le _⟩ ⟨rfl, rfl, by decide, by decide⟩ dX0_operandsFit_161 ?_
      refine x_bipush (v := 10) X dX0_operandsFit_164 (by decide) ?_
      refine x_icmp_ne (tgt := 173) X dX0_operandsFit_166 (by decide) (fun c15 => ?_) (fun c15 => ?_)
      · replace h := if_f c15 h
        refine x_iconst (v := 0) X dX0_operandsFit_173 (by decide) ?_
        refine x_sub [] rfl ?_
        exact w_X0_operandsFit_j174 ret X 0 u h
      · replace h := if_t c15 h
        refine x_iconst (v := 1) X dX0_operandsFit_169 (by decide) ?_
        refine x_goto (tgt := 174) X dX0_operandsFit_170 (by decide) ?_
        refine x_sub [] rfl ?_
        exact w_X0_operandsFit_j174 ret X 1 u h
    exact x_lookup (off := 126) (tgt := 149) X dX0_operandsFit_23 (by decide) (by rw [c2_2]; decide) (by decide) k9
  replace h := if_f c2_2 h
  by_cases c2_3 : ((u 22) (Int32.toNatClampNeg ((u 9 0) + p0))) = 196
  · replace h := if_t c2_3 h
    have k9 : XW K 0 0 3 (QI K g (wdX g) (ret, u)) (wdX g) u 175 [(2, .int (((u 9 0) + p0) + 1)), (0, .ref (g.1 5)), (1, .int p0)] [] := by
      refine x_aload_n X dX0_operandsFit_175 rfl 1 rfl ?_
      refine x_get (v := .ref (g.1 1)) X 5 0 in_X0 rfl rfl (by decide) m_X0_27 rfl dX0_operandsFit_176 ?_
      refine x_iload_n X dX0_operandsFit_179 rfl 0 rfl ?_
      refine x_iconst (v := 1) X dX0_operandsFit_180 (by decide) ?_
      refine x_iadd X dX0_operandsFit_181 ?_
      obtain ⟨q17, e17, h⟩ := bd h
      refine x_callR X [.int ((((u 9 0) + p0) + 1) + 1)] [] (c_X1_u2 K.l K.D g ((((u 9 0) + p0) + 1) + 1) u q17 e17) ok_X1_u2 m_X0_32 1 rfl rfl rfl rfl (Nat.le_of_ble_eq_true rfl) ⟨Nat.zero_le _, Nat.zero_le _⟩ ⟨rfl, rfl, by decide, by decide⟩ dX0_operandsFit_182 ?_
      refine x_aload_n X dX0_operandsFit_185 rfl 1 rfl ?_
      refine x_get (v := .int (u 11 0)) X 5 7 in_X0 rfl rfl (by decide) m_X0_38 rfl dX0_operandsFit_186 ?_
      refine x_icmp_ge (tgt := 196) X dX0_operandsFit_189 (by decide) (fun c18 => ?_) (fun c18 => ?_)
      · replace h := if_t c18 h
        refine x_iconst (v := 0) X dX0_operandsFit_196 (by decide) ?_
        refine x_sub [] rfl ?_
        exact w_X0_operandsFit_j197 ret X 0 u h
      · replace h := if_f c18 h
        refine x_iconst (v := 1) X dX0_operandsFit_192 (by decide) ?_
        refine x_goto (tgt := 197) X dX0_operandsFit_193 (by decide) ?_
        refine x_sub [] rfl ?_
        exact w_X0_operandsFit_j197 ret X 1 u h
    exact x_lookup (off := 152) (tgt := 175) X dX0_operandsFit_23 (by decide) (by rw [c2_3]; decide) (by decide) k9
  replace h := if_f c2_3 h
  refine x_lookup (off := 175) (tgt := 198) X dX0_operandsFit_23 (by decide) ((lv_osw c2_0 (by decide)).trans ((lv_osw (fun q9 => c2_1 (.inl q9)) (by decide)).trans ((lv_osw (fun q9 => c2_1 (.inr (.inl q9))) (by decide)).trans ((lv_osw (fun q9 => c2_1 (.inr (.inr q9))) (by decide)).trans ((lv_osw c2_2 (by decide)).trans ((lv_osw c2_3 (by decide)).trans rfl)))))) (by decide) ?_
  refine x_iconst (v := 1) X dX0_operandsFit_198 (by decide) ?_
  exact x_zret X rfl (roE (Option.some.inj h)) dX0_operandsFit_199
abbrev H_X0_judgeInstructions_2 (K : Cx) (g : Gw) (ret : Int32 × St) (a : Int32 × St) : Prop := XW K 0 0 3 (QI K g (wdX g) ret) (wdX g) a.2 2 [(0, .ref (g.1 5)), (1, .int a.1)] []
abbrev E_X0_judgeInstructions_2 (K : Cx) (g : Gw) (ret : Int32 × St) (q : (Int32 × St) ⊕ (St)) : Prop := Sum.elim (fun q => q = ret) (fun q => XW K 0 0 3 (QI K g (wdX g) ret) (wdX g) q 23 [(0, .ref (g.1 5))] []) q
set_option maxRecDepth 100000 in
set_option maxHeartbeats 4000000 in
theorem w_X0_judgeInstructions_b2 {K : Cx} {g : Gw} (ret : Int32 × St) (X : XC K g cX0_judgeInstructions 3 RX0 (some .boolean) rm_X0_judgeInstructions) (a : Int32 × St) (r : ((Int32 × St) ⊕ (St)) ⊕ (Int32 × St)) (h : f_X0_judgeInstructions_b2 a = some r) (k0 : ∀ q, r = .inl q → E_X0_judgeInstructions_2 K g ret q) (k1 : ∀ q, r = .inr q → H_X0_judgeInstructions_2 K g ret q) : H_X0_judgeInstructions_2 K g ret a := by
  unfold f_X0_judgeInstructions_b2 at h
  show XW K 0 0 3 (QI K g (wdX g) ret) (wdX g) a.2 2 [(0, .ref (g.1 5)), (1, .int a.1)] []
  refine x_iload_n X dX0_judgeInstructions_2 rfl 1 rfl ?_
  refine x_aload_n X dX0_judgeInstructions_3 rfl 0 rfl ?_
  refine x_get (v := .int (a.2 10 0)) X 5 6 in_X0 rfl rfl (by decide) m_X0_45 rfl dX0_judgeInstructions_4 ?_
  refine x_icmp_ge (tgt := 23) X dX0_judgeInstructions_7 (by decide) (fun c1 => ?_) (fun c1 => ?_)
  · replace h := if_t c1 h
    refine x_sub [0] rfl ?_
    have h9 := k0 _ (Option.some.inj h).symm
    exact h9
  · replace h := if_f c1 h
    refine x_aload_n X dX0_judgeInstructions_10 rfl 0 rfl ?_
    refine x_get (v := .ref (g.1 13)) X 5 3 in_X0 rfl rfl (by decide) m_X0_9 rfl dX0_judgeInstructions_11 ?_
    refine x_iload_n X dX0_judgeInstructions_14 rfl 1 rfl ?_
    refine x_iconst (v := 0) X dX0_judgeInstructions_15 (by decide) ?_
    obtain ⟨i2, h⟩ := chk_some h
    refine x_zast (f := (a.2 27)) (u2 := (up a.2 27 (Int32.toNatClampNeg a.1) (vp_nar .boolean 0))) X 13 1 rfl rfl i2 (wdX_27 g a.2 (Int32.toNatClampNeg a.1) (vp_nar .boolean 0)) dX0_judgeInstructions_16 ?_
    refine x_iinc (v := (a.1 + 1)) (lv2 := [(1, .int (a.1 + 1)), (0, .ref (g.1 5))]) X dX0_judgeInstructions_17 1 rfl rfl (by decide) rfl ?_
    refine x_goto (tgt := 2) X dX0_judgeInstructions_20 (by decide) ?_
    refine x_sub [1, 0] rfl ?_
    have h9 := k1 _ (Option.some.inj h).symm
    exact h9
abbrev H_X0_judgeInstructions_25 (K : Cx) (g : Gw) (ret : Int32 × St) (a : Int32 × St) : Prop := XW K 0 0 3 (QI K g (wdX g) ret) (wdX g) a.2 25 [(0, .ref (g.1 5)), (1, .int a.1)] []
abbrev E_X0_judgeInstructions_25 (K : Cx) (g : Gw) (ret : Int32 × St) (q : (Int32 × St) ⊕ (St)) : Prop := Sum.elim (fun q => q = ret) (fun q => XW K 0 0 3 (QI K g (wdX g) ret) (wdX g) q 128 [] []) q
set_option maxRecDepth 100000 in
set_option maxHeartbeats 4000000 in
theorem w_X0_judgeInstructions_j54_25 {K : Cx} {g : Gw} (ret : Int32 × St) (X : XC K g cX0_judgeInstructions 3 RX0 (some .boolean) rm_X0_judgeInstructions) (x1 : Int32) (u : St) (r : ((Int32 × St) ⊕ (St)) ⊕ (Int32 × St)) (h : f_X0_judgeInstructions_j54_25 x1 u = some r) (k0 : ∀ q, r = .inl q → E_X0_judgeInstructions_25 K g ret q) (k1 : ∀ q, r = .inr q → H_X0_judgeInstructions_25 K g ret q) : XW K 0 0 3 (QI K g (wdX g) ret) (wdX g) u 54 [(0, .ref (g.1 5)), (1, .int x1)] [] := by
  unfold f_X0_judgeInstructions_j54_25 at h
  refine x_aload_n X dX0_judgeInstructions_54 rfl 0 rfl ?_
  refine x_get (v := .ref (g.1 3)) X 5 1 in_X0 rfl rfl (by decide) m_X0_17 rfl dX0_judgeInstructions_55 ?_
  refine x_bipush (v := 23) X dX0_judgeInstructions_58 (by decide) ?_
  refine x_aload_n X dX0_judgeInstructions_60 rfl 0 rfl ?_
  refine x_get (v := .int (u 9 0)) X 5 5 in_X0 rfl rfl (by decide) m_X0_48 rfl dX0_judgeInstructions_61 ?_
  refine x_iload_n X dX0_judgeInstructions_64 rfl 1 rfl ?_
  refine x_iadd X dX0_judgeInstructions_65 ?_
  obtain ⟨q7, e7, h⟩ := bd h
  refine x_callI X [.int 23, .int ((u 9 0) + x1)] [] (c_X5_broken K.l K.D g 23 ((u 9 0) + x1) u q7 e7) ok_X5_broken m_X0_60 3 rfl rfl rfl rfl (Nat.le_of_ble_eq_true rfl) ⟨Nat.zero_le _, Nat.zero_le _⟩ ⟨rfl, rfl, by decide, by decide⟩ dX0_judgeInstructions_66 ?_
  obtain ⟨b8, h⟩ := bchk_some h
  exact x_zret X b8 (k0 _ (Option.some.inj h).symm) dX0_judgeInstructions_69
set_option maxRecDepth 100000 in
set_option maxHeartbeats 4000000 in
theorem w_X0_judgeInstructions_b25 {K : Cx} {g : Gw} (ret : Int32 × St) (X : XC K g cX0_judgeInstructions 3 RX0 (some .boolean) rm_X0_judgeInstructions) (a : Int32 × St) (r : ((Int32 × St) ⊕ (St)) ⊕ (Int32 × St)) (h : f_X0_judgeInstructions_b25 a = some r) (k0 : ∀ q, r = .inl q → E_X0_judgeInstructions_25 K g ret q) (k1 : ∀ q, r = .inr q → H_X0_judgeInstructions_25 K g ret q) : H_X0_judgeInstructions_25 K g ret a := by
  unfold f_X0_judgeInstructions_b25 at h
  show XW K 0 0 3 (QI K g (wdX g) ret) (wdX g) a.2 25 [(0, .ref (g.1 5)), (1, .int a.1)] []
  refine x_iload_n X dX0_judgeInstructions_25 rfl 1 rfl ?_
  refine x_aload_n X dX0_judgeInstructions_26 rfl 0 rfl ?_
  refine x_get (v := .int (a.2 10 0)) X 5 6 in_X0 rfl rfl (by decide) m_X0_45 rfl dX0_judgeInstructions_27 ?_
  refine x_icmp_ge (tgt := 128) X dX0_judgeInstructions_30 (by decide) (fun c4 => ?_) (fun c4 => ?_)
  · replace h := if_t c4 h
    refine x_sub [] rfl ?_
    have h9 := k0 _ (Option.some.inj h).symm
    exact h9
  · replace h := if_f c4 h
    refine x_aload_n X dX0_judgeInstructions_33 rfl 0 rfl ?_
    refine x_iload_n X dX0_judgeInstructions_34 rfl 1 rfl ?_
    obtain ⟨q5, e5, h⟩ := bd h
    refine x_callR X [.int a.1] [] (c_X0_sizeOf K.l K.D g a.1 a.2 q5 e5) ok_X0_sizeOf m_X0_57 5 rfl rfl rfl rfl (Nat.le_of_ble_eq_true rfl) ⟨Nat.zero_le _, Nat.zero_le _⟩ ⟨rfl, rfl, by decide, by decide⟩ dX0_judgeInstructions_35 ?_
    refine x_istore_n (lv2 := [(2, .int q5), (0, .ref (g.1 5)), (1, .int a.1)]) X dX0_judgeInstructions_38 rfl (by decide) rfl ?_
    refine x_iload_n X dX0_judgeInstructions_39 rfl 0 rfl ?_
    refine x_iconst (v := 1) X dX0_judgeInstructions_40 (by decide) ?_
    refine x_icmp_lt (tgt := 54) X dX0_judgeInstructions_41 (by decide) (fun c6 => ?_) (fun c6 => ?_)
    · replace h := if_t c6 h
      refine x_sub [1, 2] rfl ?_
      exact w_X0_judgeInstructions_j54_25 ret X a.1 a.2 r h k0 k1
    · replace h := if_f c6 h
      refine x_iload_n X dX0_judgeInstructions_44 rfl 0 rfl ?_
      refine x_aload_n X dX0_judgeInstructions_45 rfl 1 rfl ?_
      refine x_get (v := .int (a.2 10 0)) X 5 6 in_X0 rfl rfl (by decide) m_X0_45 rfl dX0_judgeInstructions_46 ?_
      refine x_iload_n X dX0_judgeInstructions_49 rfl 2 rfl ?_
      refine x_isub X dX0_judgeInstructions_50 ?_
      refine x_icmp_le (tgt := 70) X dX0_judgeInstructions_51 (by decide) (fun c9 => ?_) (fun c9 => ?_)
      · replace h := if_t c9 h
        refine x_aload_n X dX0_judgeInstructions_70 rfl 1 rfl ?_
        refine x_iload_n X dX0_judgeInstructions_71 rfl 2 rfl ?_
        obtain ⟨q10, e10, h⟩ := bd h
        refine x_callR X [.int a.1] [] (c_X0_operandsFit K.l K.D g a.1 a.2 q10 e10) ok_X0_operandsFit m_X0_64 5 rfl rfl rfl rfl (Nat.le_of_ble_eq_true rfl) ⟨Nat.zero_le _, Nat.zero_le _⟩ ⟨rfl, rfl, by decide, by decide⟩ dX0_judgeInstructions_72 ?_
        refine x_if_ne (tgt := 94) X dX0_judgeInstructions_75 (by decide) (fun c11 => ?_) (fun c11 => ?_)
        · replace h := if_f c11 h
          refine x_aload_n X dX0_judgeInstructions_94 rfl 1 rfl ?_
          refine x_get (v := .ref (g.1 13)) X 5 3 in_X0 rfl rfl (by decide) m_X0_9 rfl dX0_judgeInstructions_95 ?_
          refine x_iload_n X dX0_judgeInstructions_98 rfl 2 rfl ?_
          refine x_iconst (v := 1) X dX0_judgeInstructions_99 (by decide) ?_
          obtain ⟨i12, h⟩ := chk_some h
          refine x_zast (f := (a.2 27)) (u2 := (up a.2 27 (Int32.toNatClampNeg a.1) (vp_nar .boolean 1))) X 13 1 rfl rfl i12 (wdX_27 g a.2 (Int32.toNatClampNeg a.1) (vp_nar .boolean 1)) dX0_judgeInstructions_100 ?_
          refine x_aload_n X dX0_judgeInstructions_101 rfl 1 rfl ?_
          refine x_get (v := .ref (g.1 14)) X 5 4 in_X0 rfl rfl (by decide) m_X0_13 rfl dX0_judgeInstructions_102 ?_
          refine x_aload_n X dX0_judgeInstructions_105 rfl 1 rfl ?_
          refine x_get (v := .int (a.2 12 0)) X 5 8 in_X0 rfl rfl (by decide) m_X0_54 rfl dX0_judgeInstructions_106 ?_
          refine x_iload_n X dX0_judgeInstructions_109 rfl 2 rfl ?_
          obtain ⟨i13, h⟩ := chk_some h
          refine x_iast (f := (a.2 28)) (u2 := (up (up a.2 27 (Int32.toNatClampNeg a.1) (vp_nar .boolean 1)) 28 (Int32.toNatClampNeg (a.2 12 0)) a.1)) X 14 0 rfl rfl i13 (wdX_28 g (up a.2 27 (Int32.toNatClampNeg a.1) (vp_nar .boolean 1)) (Int32.toNatClampNeg (a.2 12 0)) a.1) dX0_judgeInstructions_110 ?_
          refine x_aload_n X dX0_judgeInstructions_111 rfl 1 rfl ?_
          refine x_dup X dX0_judgeInstructions_112 rfl ?_
          refine x_get (v := .int (a.2 12 0)) X 5 8 in_X0 rfl rfl (by decide) m_X0_54 rfl dX0_judgeInstructions_113 ?_
          refine x_iconst (v := 1) X dX0_judgeInstructions_116 (by decide) ?_
          refine x_iadd X dX0_judgeInstructions_117 ?_
          refine x_put (ty := .int) (u2 := (up (up (up a.2 27 (Int32.toNatClampNeg a.1) (vp_nar .boolean 1)) 28 (Int32.toNatClampNeg (a.2 12 0)) a.1) 12 0 ((a.2 12 0) + 1))) X 5 8 in_X0 tk_X0 nk_X0 rfl rfl (by decide) m_X0_54 rfl rfl rfl rfl (Nat.le_of_ble_eq_true rfl) (wdX_12 g (up (up a.2 27 (Int32.toNatClampNeg a.1) (vp_nar .boolean 1)) 28 (Int32.toNatClampNeg (a.2 12 0)) a.1) ((a.2 12 0) + 1)) dX0_judgeInstructions_118 ?_
          refine x_iload_n X dX0_judgeInstructions_121 rfl 2 rfl ?_
          refine x_iload_n X dX0_judgeInstructions_122 rfl 0 rfl ?_
          refine x_iadd X dX0_judgeInstructions_123 ?_
          refine x_istore_n (lv2 := [(1, .int (a.1 + q5)), (2, .int q5), (0, .ref (g.1 5))]) X dX0_judgeInstructions_124 rfl (by decide) rfl ?_
          refine x_goto (tgt := 25) X dX0_judgeInstructions_125 (by decide) ?_
          refine x_sub [2, 0] rfl ?_
          have h9 := k1 _ (Option.some.inj h).symm
          exact h9
        · replace h := if_t c11 h
          refine x_aload_n X dX0_judgeInstructions_78 rfl 1 rfl ?_
          refine x_get (v := .ref (g.1 3)) X 5 1 in_X0 rfl rfl (by decide) m_X0_17 rfl dX0_judgeInstructions_79 ?_
          refine x_bipush (v := 24) X dX0_judgeInstructions_82 (by decide) ?_
          refine x_aload_n X dX0_judgeInstructions_84 rfl 1 rfl ?_
          refine x_get (v := .int (a.2 9 0)) X 5 5 in_X0 rfl rfl (by decide) m_X0_48 rfl dX0_judgeInstructions_85 ?_
          refine x_iload_n X dX0_judgeInstructions_88 rfl 2 rfl ?_
          refine x_iadd X dX0_judgeInstructions_89 ?_
          obtain ⟨q14, e14, h⟩ := bd h
          refine x_callI X [.int 24, .int ((a.2 9 0) + a.1)] [] (c_X5_broken K.l K.D g 24 ((a.2 9 0) + a.1) a.2 q14 e14) ok_X5_broken m_X0_60 3 rfl rfl rfl rfl (Nat.le_of_ble_eq_true rfl) ⟨Nat.zero_le _, Nat.zero_le _⟩ ⟨rfl, rfl, by decide, by decide⟩ dX0_judgeInstructions_90 ?_
          obtain ⟨b15, h⟩ := bchk_some h
          exact x_zret X b15 (k0 _ (Option.some.inj h).symm) dX0_judgeInstructions_93
      · replace h := if_f c9 h
        refine x_sub [1, 2] rfl ?_
        exact w_X0_judgeInstructions_j54_25 ret X a.1 a.2 r h k0 k1
set_option maxRecDepth 100000 in
set_option maxHeartbeats 4000000 in
theorem c_X0_judgeInstructions (l : Launch) (D : va_G) (g : Gw) (u : St) (ret : Int32 × St) (h : f_X0_judgeInstructions u = some ret) : metI l D g (wdX g) yX0_judgeInstructions cX0_judgeInstructions 3 .boolean rm_X0_judgeInstructions [.ref (g.1 5)] u ret := by
  refine metI_of (own := RX0) (lv := [(0, .ref (g.1 5))]) (by decide) rfl rfl (Nat.le_of_ble_eq_true rfl) (fun K hl9 hD9 X => ?_)
  subst hl9
  subst hD9
  unfold f_X0_judgeInstructions at h
  refine x_iconst (v := 0) X dX0_judgeInstructions_0 (by decide) ?_
  refine x_istore_n (lv2 := [(1, .int 0), (0, .ref (g.1 5))]) X dX0_judgeInstructions_1 rfl (by decide) rfl ?_
  refine x_sub [1, 0] rfl ?_
  obtain ⟨q30, e3, h⟩ := bd h
  refine loopF_w (WH := H_X0_judgeInstructions_2 K g ret) (KB := E_X0_judgeInstructions_2 K g ret) (fun a9 r9 h9 k8 k7 => w_X0_judgeInstructions_b2 ret X a9 r9 h9 k8 k7) FU (0, u) q30 e3 ?_
  rcases q30 with q3 | q3
  · replace h := sl h
    exact (Option.some.inj h)
  · replace h := sr h
    show XW K 0 0 3 (QI K g (wdX g) ret) (wdX g) q3 23 [(0, .ref (g.1 5))] []
    refine x_iconst (v := 0) X dX0_judgeInstructions_23 (by decide) ?_
    refine x_istore_n (lv2 := [(1, .int 0), (0, .ref (g.1 5))]) X dX0_judgeInstructions_24 rfl (by decide) rfl ?_
    refine x_sub [1, 0] rfl ?_
    obtain ⟨q160, e16, h⟩ := bd h
    refine loopF_w (WH := H_X0_judgeInstructions_25 K g ret) (KB := E_X0_judgeInstructions_25 K g ret) (fun a9 r9 h9 k8 k7 => w_X0_judgeInstructions_b25 ret X a9 r9 h9 k8 k7) FU (0, q3) q160 e16 ?_
    rcases q160 with q16 | q16
    · replace h := sl h
      exact (Option.some.inj h)
    · replace h := sr h
      show XW K 0 0 3 (QI K g (wdX g) ret) (wdX g) q16 128 [] []
      refine x_iconst (v := 1) X dX0_judgeInstructions_128 (by decide) ?_
      exact x_zret X rfl (Option.some.inj h) dX0_judgeInstructions_129
set_option maxRecDepth 100000 in
set_option maxHeartbeats 4000000 in
theorem w_X0_isInstruction_j31 {K : Cx} {g : Gw} (ret : Int32) (X : XC K g cX0_isInstruction 3 RX0 (some .boolean) rm_X0_isInstruction) (z0 : Int32) (u : St) (h : f_X0_isInstruction_j31 z0 u = some ret) : XW K 0 0 3 (QI K g (wdX g) (ret, u)) (wdX g) u 31 [] [.int z0] := by
  unfold f_X0_isInstruction_j31 at h
  obtain ⟨b2, h⟩ := bchk_some h
  exact x_zret X b2 (roE (Option.some.inj h)) dX0_isInstruction_31
set_option maxRecDepth 100000 in
set_option maxHeartbeats 4000000 in
theorem w_X0_isInstruction_j30 {K : Cx} {g : Gw} (ret : Int32) (X : XC K g cX0_isInstruction 3 RX0 (some .boolean) rm_X0_isInstruction) (u : St) (h : f_X0_isInstruction_j30 u = some ret) : XW K 0 0 3 (QI K g (wdX g) (ret, u)) (wdX g) u 30 [] [] := by
  unfold f_X0_isInstruction_j30 at h
  refine x_iconst (v := 0) X dX0_isInstruction_30 (by decide) ?_
  exact w_X0_isInstruction_j31 ret X 0 u h
set_option maxRecDepth 100000 in
set_option maxHeartbeats 4000000 in
theorem c_X0_isInstruction (l : Launch) (D : va_G) (g : Gw) (p0 : Int64) (u : St) (ret : Int32) (h : f_X0_isInstruction p0 u = some ret) : metI l D g (wdX g) yX0_isInstruction cX0_isInstruction 3 .boolean rm_X0_isInstruction [.ref (g.1 5), .long p0] u (ret, u) := by
  refine metI_of (own := RX0) (lv := [(0, .ref (g.1 5)), (1, .long p0)]) (by decide) rfl rfl (Nat.le_of_ble_eq_true rfl) (fun K hl9 hD9 X => ?_)
  subst hl9
  subst hD9
  unfold f_X0_isInstruction at h
  refine x_lload_n X dX0_isInstruction_0 rfl 1 rfl ?_
  refine x_lconst (v := 0) X dX0_isInstruction_1 (by decide) ?_
  refine x_lcmp X dX0_isInstruction_2 ?_
  refine x_if_lt (tgt := 30) X dX0_isInstruction_3 (by decide) (fun c1 => ?_) (fun c1 => ?_)
  · replace h := if_t c1 h
    refine x_sub [] rfl ?_
    exact w_X0_isInstruction_j30 ret X u h
  · replace h := if_f c1 h
    refine x_lload_n X dX0_isInstruction_6 rfl 1 rfl ?_
    refine x_aload_n X dX0_isInstruction_7 rfl 0 rfl ?_
    refine x_get (v := .int (u 10 0)) X 5 6 in_X0 rfl rfl (by decide) m_X0_45 rfl dX0_isInstruction_8 ?_
    refine x_i2l X dX0_isInstruction_11 ?_
    refine x_lcmp X dX0_isInstruction_12 ?_
    refine x_if_ge (tgt := 30) X dX0_isInstruction_13 (by decide) (fun c3 => ?_) (fun c3 => ?_)
    · replace h := if_t c3 h
      refine x_sub [] rfl ?_
      exact w_X0_isInstruction_j30 ret X u h
    · replace h := if_f c3 h
      refine x_aload_n X dX0_isInstruction_16 rfl 0 rfl ?_
      refine x_get (v := .ref (g.1 13)) X 5 3 in_X0 rfl rfl (by decide) m_X0_9 rfl dX0_isInstruction_17 ?_
      refine x_lload_n X dX0_isInstruction_20 rfl 1 rfl ?_
      refine x_l2i X dX0_isInstruction_21 ?_
      obtain ⟨i4, h⟩ := chk_some h
      refine x_zald (f := (u 27)) X 13 1 rfl rfl i4 dX0_isInstruction_22 ?_
      refine x_if_eq (tgt := 30) X dX0_isInstruction_23 (by decide) (fun c5 => ?_) (fun c5 => ?_)
      · replace h := if_t c5 h
        refine x_sub [] rfl ?_
        exact w_X0_isInstruction_j30 ret X u h
      · replace h := if_f c5 h
        refine x_iconst (v := 1) X dX0_isInstruction_26 (by decide) ?_
        refine x_goto (tgt := 31) X dX0_isInstruction_27 (by decide) ?_
        refine x_sub [] rfl ?_
        exact w_X0_isInstruction_j31 ret X 1 u h
