set_option maxRecDepth 100000 in
set_option maxHeartbeats 4000000 in
theorem c_X4_second (l : Launch) (D : va_G) (g : Gw) (p0 : Int32) (u : St) (ret : Int32) (h : f_X4_second p0 u = some ret) : metI l D g (wdX g) yX4_second cX4_second 2 .int rm_X4_second [.ref (g.1 4), .int p0] u (ret, u) := by
  refine metI_of (own := RX4) (lv := [(0, .ref (g.1 4)), (1, .int p0)]) (by decide) rfl rfl (Nat.le_of_ble_eq_true rfl) (fun K hl9 hD9 X => ?_)
  subst hl9
  subst hD9
  unfold f_X4_second at h
  refine x_aload_n X dX4_second_0 rfl 0 rfl ?_
  refine x_get (v := .ref (g.1 1)) X 4 0 in_X4 rfl rfl (by decide) m_X4_30 rfl dX4_second_1 ?_
  refine x_aload_n X dX4_second_4 rfl 0 rfl ?_
  refine x_get (v := .ref (g.1 12)) X 4 3 in_X4 rfl rfl (by decide) m_X4_17 rfl dX4_second_5 ?_
  refine x_iload_n X dX4_second_8 rfl 1 rfl ?_
  obtain ⟨i1, h⟩ := chk_some h
  refine x_iald (f := (u 26)) X 12 0 rfl rfl i1 dX4_second_9 ?_
  refine x_iconst (v := 3) X dX4_second_10 (by decide) ?_
  refine x_iadd X dX4_second_11 ?_
  obtain ⟨q2, e2, h⟩ := bd h
  refine x_callR X [.int (((u 26) (Int32.toNatClampNeg p0)) + 3)] [] (c_X1_u2 K.l K.D g (((u 26) (Int32.toNatClampNeg p0)) + 3) u q2 e2) ok_X1_u2 m_X4_42 1 rfl rfl rfl rfl (Nat.le_of_ble_eq_true rfl) ⟨Nat.zero_le _, Nat.zero_le _⟩ ⟨rfl, rfl, by decide, by decide⟩ dX4_second_12 ?_
  exact x_iret X (roE (Option.some.inj h)) dX4_second_15
set_option maxRecDepth 100000 in
set_option maxHeartbeats 4000000 in
theorem w_X4_referencesFit_j62 {K : Cx} {g : Gw} (ret : Int32) (X : XC K g cX4_referencesFit 2 RX4 (some .boolean) rm_X4_referencesFit) (z0 : Int32) (u : St) (h : f_X4_referencesFit_j62 z0 u = some ret) : XW K 0 0 2 (QI K g (wdX g) (ret, u)) (wdX g) u 62 [] [.int z0] := by
  unfold f_X4_referencesFit_j62 at h
  obtain ⟨b6, h⟩ := bchk_some h
  exact x_zret X b6 (roE (Option.some.inj h)) dX4_referencesFit_62
set_option maxRecDepth 100000 in
set_option maxHeartbeats 4000000 in
theorem w_X4_referencesFit_j96 {K : Cx} {g : Gw} (ret : Int32) (X : XC K g cX4_referencesFit 2 RX4 (some .boolean) rm_X4_referencesFit) (z0 : Int32) (u : St) (h : f_X4_referencesFit_j96 z0 u = some ret) : XW K 0 0 2 (QI K g (wdX g) (ret, u)) (wdX g) u 96 [] [.int z0] := by
  unfold f_X4_referencesFit_j96 at h
  obtain ⟨b10, h⟩ := bchk_some h
  exact x_zret X b10 (roE (Option.some.inj h)) dX4_referencesFit_96
set_option maxRecDepth 100000 in
set_option maxHeartbeats 4000000 in
theorem w_X4_referencesFit_j95 {K : Cx} {g : Gw} (ret : Int32) (X : XC K g cX4_referencesFit 2 RX4 (some .boolean) rm_X4_referencesFit) (u : St) (h : f_X4_referencesFit_j95 u = some ret) : XW K 0 0 2 (QI K g (wdX g) (ret, u)) (wdX g) u 95 [] [] := by
  unfold f_X4_referencesFit_j95 at h
  refine x_iconst (v := 0) X dX4_referencesFit_95 (by decide) ?_
  exact w_X4_referencesFit_j96 ret X 0 u h
set_option maxRecDepth 100000 in
set_option maxHeartbeats 4000000 in
theorem w_X4_referencesFit_j128 {K : Cx} {g : Gw} (ret : Int32) (X : XC K g cX4_referencesFit 2 RX4 (some .boolean) rm_X4_referencesFit) (z0 : Int32) (u : St) (h : f_X4_referencesFit_j128 z0 u = some ret) : XW K 0 0 2 (QI K g (wdX g) (ret, u)) (wdX g) u 128 [] [.int z0] := by
  unfold f_X4_referencesFit_j128 at h
  obtain ⟨b17, h⟩ := bchk_some h
  exact x_zret X b17 (roE (Option.some.inj h)) dX4_referencesFit_128
set_option maxRecDepth 100000 in
set_option maxHeartbeats 4000000 in
theorem w_X4_referencesFit_j127 {K : Cx} {g : Gw} (ret : Int32) (X : XC K g cX4_referencesFit 2 RX4 (some .boolean) rm_X4_referencesFit) (u : St) (h : f_X4_referencesFit_j127 u = some ret) : XW K 0 0 2 (QI K g (wdX g) (ret, u)) (wdX g) u 127 [] [] := by
  unfold f_X4_referencesFit_j127 at h
  refine x_iconst (v := 0) X dX4_referencesFit_127 (by decide) ?_
  exact w_X4_referencesFit_j128 ret X 0 u h
set_option maxRecDepth 100000 in
set_option maxHeartbeats 4000000 in
theorem c_X4_referencesFit (l : Launch) (D : va_G) (g : Gw) (p0 : Int32) (u : St) (ret : Int32) (h : f_X4_referencesFit p0 u = some ret) : metI l D g (wdX g) yX4_referencesFit cX4_referencesFit 2 .boolean rm_X4_referencesFit [.ref (g.1 4), .int p0] u (ret, u) := by
  refine metI_of (own := RX4) (lv := [(0, .ref (g.1 4)), (1, .int p0)]) (by decide) rfl rfl (Nat.le_of_ble_eq_true rfl) (fun K hl9 hD9 X => ?_)
  subst hl9
  subst hD9
  unfold f_X4_referencesFit at h
  refine x_aload_n X dX4_referencesFit_0 rfl 0 rfl ?_
  refine x_get (v := .ref (g.1 11)) X 4 2 in_X4 rfl rfl (by decide) m_X4_13 rfl dX4_referencesFit_1 ?_
  refine x_iload_n X dX4_referencesFit_4 rfl 1 rfl ?_
  obtain ⟨i1, h⟩ := chk_some h
  refine x_iald (f := (u 25)) X 11 0 rfl rfl i1 dX4_referencesFit_5 ?_
  by_cases c2_0 : ((u 25) (Int32.toNatClampNeg p0)) = 7 ∨ ((u 25) (Int32.toNatClampNeg p0)) = 8
  · replace h := if_t c2_0 h
    have k9 : XW K 0 0 2 (QI K g (wdX g) (ret, u)) (wdX g) u 44 [(0, .ref (g.1 4)), (1, .int p0)] [] := by
      refine x_aload_n X dX4_referencesFit_44 rfl 0 rfl ?_
      refine x_aload_n X dX4_referencesFit_45 rfl 0 rfl ?_
      refine x_iload_n X dX4_referencesFit_46 rfl 1 rfl ?_
      obtain ⟨q3, e3, h⟩ := bd h
      refine x_callR X [.int p0] [.ref (g.1 4)] (c_X4_first K.l K.D g p0 u q3 e3) ok_X4_first m_X4_74 4 rfl rfl rfl rfl (Nat.le_of_ble_eq_true rfl) ⟨Nat.zero_le _, Nat.zero_le _⟩ ⟨rfl, rfl, by decide, by decide⟩ dX4_referencesFit_47 ?_
      obtain ⟨q4, e4, h⟩ := bd h
      refine x_callR X [.int q3] [] (c_X4_kindOf K.l K.D g q3 u q4 e4) ok_X4_kindOf m_X4_77 4 rfl rfl rfl rfl (Nat.le_of_ble_eq_true rfl) ⟨Nat.zero_le _, Nat.zero_le _⟩ ⟨rfl, rfl, by decide, by decide⟩ dX4_referencesFit_50 ?_
      refine x_iconst (v := 1) X dX4_referencesFit_53 (by decide) ?_
      refine x_icmp_ne (tgt := 61) X dX4_referencesFit_54 (by decide) (fun c5 => ?_) (fun c5 => ?_)
      · replace h := if_f c5 h
        refine x_iconst (v := 0) X dX4_referencesFit_61 (by decide) ?_
        refine x_sub [] rfl ?_
        exact w_X4_referencesFit_j62 ret X 0 u h
      · replace h := if_t c5 h
        refine x_iconst (v := 1) X dX4_referencesFit_57 (by decide) ?_
        refine x_goto (tgt := 62) X dX4_referencesFit_58 (by decide) ?_
        refine x_sub [] rfl ?_
        exact w_X4_referencesFit_j62 ret X 1 u h
    rcases c2_0 with c2_0 | c2_0 <;> exact x_tableIn (off := 38) (tgt := 44) X dX4_referencesFit_6 (by rw [c2_0]; decide) (by rw [c2_0]; decide) (by rw [c2_0]; decide) (by decide) k9
  replace h := if_f c2_0 h
  by_cases c2_1 : ((u 25) (Int32.toNatClampNeg p0)) = 10
  · replace h := if_t c2_1 h
    have k9 : XW K 0 0 2 (QI K g (wdX g) (ret, u)) (wdX g) u 63 [(0, .ref (g.1 4)), (1, .int p0)] [] := by
      refine x_aload_n X dX4_referencesFit_63 rfl 0 rfl ?_
      refine x_aload_n X dX4_referencesFit_64 rfl 0 rfl ?_
      refine x_iload_n X dX4_referencesFit_65 rfl 1 rfl ?_
      obtain ⟨q7, e7, h⟩ := bd h
      refine x_callR X [.int p0] [.ref (g.1 4)] (c_X4_first K.l K.D g p0 u q7 e7) ok_X4_first m_X4_74 4 rfl rfl rfl rfl (Nat.le_of_ble_eq_true rfl) ⟨Nat.zero_le _, Nat.zero_le _⟩ ⟨rfl, rfl, by decide, by decide⟩ dX4_referencesFit_66 ?_
      obtain ⟨q8, e8, h⟩ := bd h
      refine x_callR X [.int q7] [] (c_X4_kindOf K.l K.D g q7 u q8 e8) ok_X4_kindOf m_X4_77 4 rfl rfl rfl rfl (Nat.le_of_ble_eq_true rfl) ⟨Nat.zero_le _, Nat.zero_le _⟩ ⟨rfl, rfl, by decide, by decide⟩ dX4_referencesFit_69 ?_
      refine x_bipush (v := 7) X dX4_referencesFit_72 (by decide) ?_
      refine x_icmp_ne (tgt := 95) X dX4_referencesFit_74 (by decide) (fun c9 => ?_) (fun c9 => ?_)
      · replace h := if_f c9 h
        refine x_sub [] rfl ?_
        exact w_X4_referencesFit_j95 ret X u h
      · replace h := if_t c9 h
        refine x_aload_n X dX4_referencesFit_77 rfl 0 rfl ?_
        refine x_aload_n X dX4_referencesFit_78 rfl 0 rfl ?_
        refine x_iload_n X dX4_referencesFit_79 rfl 1 rfl ?_
        obtain ⟨q11, e11, h⟩ := bd h
        refine x_callR X [.int p0] [.ref (g.1 4)] (c_X4_second K.l K.D g p0 u q11 e11) ok_X4_second m_X4_80 4 rfl rfl rfl rfl (Nat.le_of_ble_eq_true rfl) ⟨Nat.zero_le _, Nat.zero_le _⟩ ⟨rfl, rfl, by decide, by decide⟩ dX4_referencesFit_80 ?_
        obtain ⟨q12, e12, h⟩ := bd h
        refine x_callR X [.int q11] [] (c_X4_kindOf K.l K.D g q11 u q12 e12) ok_X4_kindOf m_X4_77 4 rfl rfl rfl rfl (Nat.le_of_ble_eq_true rfl) ⟨Nat.zero_le _, Nat.zero_le _⟩ ⟨rfl, rfl, by decide, by decide⟩ dX4_referencesFit_83 ?_
        refine x_bipush (v := 12) X dX4_referencesFit_86 (by decide) ?_
        refine x_icmp_ne (tgt := 95) X dX4_referencesFit_88 (by decide) (fun c13 => ?_) (fun c13 => ?_)
        · replace h := if_f c13 h
          refine x_sub [] rfl ?_
          exact w_X4_referencesFit_j95 ret X u h
        · replace h := if_t c13 h
          refine x_iconst (v := 1) X dX4_referencesFit_91 (by decide) ?_
          refine x_goto (tgt := 96) X dX4_referencesFit_92 (by decide) ?_
          refine x_sub [] rfl ?_
          exact w_X4_referencesFit_j96 ret X 1 u h
    exact x_tableIn (off := 57) (tgt := 63) X dX4_referencesFit_6 (by rw [c2_1]; decide) (by rw [c2_1]; decide) (by rw [c2_1]; decide) (by decide) k9
  replace h := if_f c2_1 h
  by_cases c2_2 : ((u 25) (Int32.toNatClampNeg p0)) = 12
  · replace h := if_t c2_2 h
    have k9 : XW K 0 0 2 (QI K g (wdX g) (ret, u)) (wdX g) u 97 [(0, .ref (g.1 4)), (1, .int p0)] [] := by
      refine x_aload_n X dX4_referencesFit_97 rfl 0 rfl ?_
      refine x_aload_n X dX4_referencesFit_98 rfl 0 rfl ?_
      refine x_iload_n X dX4_referencesFit_99 rfl 1 rfl ?_
      obtain ⟨q14, e14, h⟩ := bd h
      refine x_callR X [.int p0] [.ref (g.1 4)] (c_X4_first K.l K.D g p0 u q14 e14) ok_X4_first m_X4_74 4 rfl rfl rfl rfl (Nat.le_of_ble_eq_true rfl) ⟨Nat.zero_le _, Nat.zero_le _⟩ ⟨rfl, rfl, by decide, by decide⟩ dX4_referencesFit_100 ?_
      obtain ⟨q15, e15, h⟩ := bd h
      refine x_callR X [.int q14] [] (c_X4_kindOf K.l K.D g q14 u q15 e15) ok_X4_kindOf m_X4_77 4 rfl rfl rfl rfl (Nat.le_of_ble_eq_true rfl) ⟨Nat.zero_le _, Nat.zero_le _⟩ ⟨rfl, rfl, by decide, by decide⟩ dX4_referencesFit_103 ?_
      refine x_iconst (v := 1) X dX4_referencesFit_106 (by decide) ?_
      refine x_icmp_ne (tgt := 127) X dX4_referencesFit_107 (by decide) (fun c16 => ?_) (fun c16 => ?_)
      · replace h := if_f c16 h
        refine x_sub [] rfl ?_
        exact w_X4_referencesFit_j127 ret X u h
      · replace h := if_t c16 h
        refine x_aload_n X dX4_referencesFit_110 rfl 0 rfl ?_
        refine x_aload_n X dX4_referencesFit_111 rfl 0 rfl ?_
        refine x_iload_n X dX4_referencesFit_112 rfl 1 rfl ?_
        obtain ⟨q18, e18, h⟩ := bd h
        refine x_callR X [.int p0] [.ref (g.1 4)] (c_X4_second K.l K.D g p0 u q18 e18) ok_X4_second m_X4_80 4 rfl rfl rfl rfl (Nat.le_of_ble_eq_true rfl) ⟨Nat.zero_le _, Nat.zero_le _⟩ ⟨rfl, rfl, by decide, by decide⟩ dX4_referencesFit_113 ?_
        obtain ⟨q19, e19, h⟩ := bd h
        refine x_callR X [.int q18] [] (c_X4_kindOf K.l K.D g q18 u q19 e19) ok_X4_kindOf m_X4_77 4 rfl rfl rfl rfl (Nat.le_of_ble_eq_true rfl) ⟨Nat.zero_le _, Nat.zero_le _⟩ ⟨rfl, rfl, by decide, by decide⟩ dX4_referencesFit_116 ?_
        refine x_iconst (v := 1) X dX4_referencesFit_119 (by decide) ?_
        refine x_icmp_ne (tgt := 127) X dX4_referencesFit_120 (by decide) (fun c20 => ?_) (fun c20 => ?_)
        · replace h := if_f c20 h
          refine x_sub [] rfl ?_
          exact w_X4_referencesFit_j127 ret X u h
        · replace h := if_t c20 h
          refine x_iconst (v := 1) X dX4_referencesFit_123 (by decide) ?_
          refine x_goto (tgt := 128) X dX4_referencesFit_124 (by decide) ?_
          refine x_sub [] rfl ?_
          exact w_X4_referencesFit_j128 ret X 1 u h
    exact x_tableIn (off := 91) (tgt := 97) X dX4_referencesFit_6 (by rw [c2_2]; decide) (by rw [c2_2]; decide) (by rw [c2_2]; decide) (by decide) k9
  replace h := if_f c2_2 h
  have k9 : XW K 0 0 2 (QI K g (wdX g) (ret, u)) (wdX g) u 129 [(0, .ref (g.1 4)), (1, .int p0)] [] := by
    refine x_iconst (v := 1) X dX4_referencesFit_129 (by decide) ?_
    exact x_zret X rfl (roE (Option.some.inj h)) dX4_referencesFit_130
  by_cases d2_0 : ((u 25) (Int32.toNatClampNeg p0)) = 9
  · exact x_tableIn (off := 123) (tgt := 129) X dX4_referencesFit_6 (by rw [d2_0]; decide) (by rw [d2_0]; decide) (by rw [d2_0]; decide) (by decide) k9
  by_cases d2_1 : ((u 25) (Int32.toNatClampNeg p0)) = 11
  · exact x_tableIn (off := 123) (tgt := 129) X dX4_referencesFit_6 (by rw [d2_1]; decide) (by rw [d2_1]; decide) (by rw [d2_1]; decide) (by decide) k9
  have n2_7 := lv_neT (a := 7) (fun q9 => c2_0 (.inl q9)) (by decide)
  have n2_8 := lv_neT (a := 8) (fun q9 => c2_0 (.inr q9)) (by decide)
  have n2_9 := lv_neT (a := 9) d2_0 (by decide)
  have n2_10 := lv_neT (a := 10) c2_1 (by decide)
  have n2_11 := lv_neT (a := 11) d2_1 (by decide)
  have n2_12 := lv_neT (a := 12) c2_2 (by decide)
  exact x_tableOut (tgt := 129) X dX4_referencesFit_6 (by omega) (by decide) k9
abbrev H_X4_judgeReferences_2 (K : Cx) (g : Gw) (ret : Int32 × St) (a : Int32 × St) : Prop := XW K 0 0 2 (QI K g (wdX g) ret) (wdX g) a.2 2 [(0, .ref (g.1 4)), (1, .int a.1)] []
abbrev E_X4_judgeReferences_2 (K : Cx) (g : Gw) (ret : Int32 × St) (q : (Int32 × St) ⊕ (St)) : Prop := Sum.elim (fun q => q = ret) (fun q => XW K 0 0 2 (QI K g (wdX g) ret) (wdX g) q 40 [] []) q
set_option maxRecDepth 100000 in
set_option maxHeartbeats 4000000 in
theorem w_X4_judgeReferences_b2 {K : Cx} {g : Gw} (ret : Int32 × St) (X : XC K g cX4_judgeReferences 2 RX4 (some .boolean) rm_X4_judgeReferences) (a : Int32 × St) (r : ((Int32 × St) ⊕ (St)) ⊕ (Int32 × St)) (h : f_X4_judgeReferences_b2 a = some r) (k0 : ∀ q, r = .inl q → E_X4_judgeReferences_2 K g ret q) (k1 : ∀ q, r = .inr q → H_X4_judgeReferences_2 K g ret q) : H_X4_judgeReferences_2 K g ret a := by
  unfold f_X4_judgeReferences_b2 at h
  show XW K 0 0 2 (QI K g (wdX g) ret) (wdX g) a.2 2 [(0, .ref (g.1 4)), (1, .int a.1)] []
  refine x_iload_n X dX4_judgeReferences_2 rfl 1 rfl ?_
  refine x_aload_n X dX4_judgeReferences_3 rfl 0 rfl ?_
  refine x_get (v := .int (a.2 8 0)) X 4 4 in_X4 rfl rfl (by decide) m_X4_31 rfl dX4_judgeReferences_4 ?_
  refine x_icmp_gt (tgt := 40) X dX4_judgeReferences_7 (by decide) (fun c1 => ?_) (fun c1 => ?_)
  · replace h := if_t c1 h
    refine x_sub [] rfl ?_
    have h9 := k0 _ (Option.some.inj h).symm
    exact h9
  · replace h := if_f c1 h
    refine x_aload_n X dX4_judgeReferences_10 rfl 0 rfl ?_
    refine x_iload_n X dX4_judgeReferences_11 rfl 1 rfl ?_
    obtain ⟨q2, e2, h⟩ := bd h
    refine x_callR X [.int a.1] [] (c_X4_referencesFit K.l K.D g a.1 a.2 q2 e2) ok_X4_referencesFit m_X4_71 4 rfl rfl rfl rfl (Nat.le_of_ble_eq_true rfl) ⟨Nat.zero_le _, Nat.zero_le _⟩ ⟨rfl, rfl, by decide, by decide⟩ dX4_judgeReferences_12 ?_
    refine x_if_ne (tgt := 34) X dX4_judgeReferences_15 (by decide) (fun c3 => ?_) (fun c3 => ?_)
    · replace h := if_f c3 h
      refine x_iinc (v := (a.1 + 1)) (lv2 := [(1, .int (a.1 + 1)), (0, .ref (g.1 4))]) X dX4_judgeReferences_34 1 rfl rfl (by decide) rfl ?_
      refine x_goto (tgt := 2) X dX4_judgeReferences_37 (by decide) ?_
      refine x_sub [1, 0] rfl ?_
      have h9 := k1 _ (Option.some.inj h).symm
      exact h9
    · replace h := if_t c3 h
      refine x_aload_n X dX4_judgeReferences_18 rfl 0 rfl ?_
      refine x_get (v := .ref (g.1 3)) X 4 1 in_X4 rfl rfl (by decide) m_X4_20 rfl dX4_judgeReferences_19 ?_
      refine x_bipush (v := 8) X dX4_judgeReferences_22 (by decide) ?_
      refine x_aload_n X dX4_judgeReferences_24 rfl 0 rfl ?_
      refine x_get (v := .ref (g.1 12)) X 4 3 in_X4 rfl rfl (by decide) m_X4_17 rfl dX4_judgeReferences_25 ?_
      refine x_iload_n X dX4_judgeReferences_28 rfl 1 rfl ?_
      obtain ⟨i4, h⟩ := chk_some h
      refine x_iald (f := (a.2 26)) X 12 0 rfl rfl i4 dX4_judgeReferences_29 ?_
      obtain ⟨q5, e5, h⟩ := bd h
      refine x_callI X [.int 8, .int ((a.2 26) (Int32.toNatClampNeg a.1))] [] (c_X5_broken K.l K.D g 8 ((a.2 26) (Int32.toNatClampNeg a.1)) a.2 q5 e5) ok_X5_broken m_X4_46 3 rfl rfl rfl rfl (Nat.le_of_ble_eq_true rfl) ⟨Nat.zero_le _, Nat.zero_le _⟩ ⟨rfl, rfl, by decide, by decide⟩ dX4_judgeReferences_30 ?_
      obtain ⟨b6, h⟩ := bchk_some h
      exact x_zret X b6 (k0 _ (Option.some.inj h).symm) dX4_judgeReferences_33
set_option maxRecDepth 100000 in
set_option maxHeartbeats 4000000 in
theorem c_X4_judgeReferences (l : Launch) (D : va_G) (g : Gw) (u : St) (ret : Int32 × St) (h : f_X4_judgeReferences u = some ret) : metI l D g (wdX g) yX4_judgeReferences cX4_judgeReferences 2 .boolean rm_X4_judgeReferences [.ref (g.1 4)] u ret := by
  refine metI_of (own := RX4) (lv := [(0, .ref (g.1 4))]) (by decide) rfl rfl (Nat.le_of_ble_eq_true rfl) (fun K hl9 hD9 X => ?_)
  subst hl9
  subst hD9
  unfold f_X4_judgeReferences at h
  refine x_iconst (v := 1) X dX4_judgeReferences_0 (by decide) ?_
  refine x_istore_n (lv2 := [(1, .int 1), (0, .ref (g.1 4))]) X dX4_judgeReferences_1 rfl (by decide) rfl ?_
  refine x_sub [1, 0] rfl ?_
  obtain ⟨q70, e7, h⟩ := bd h
  refine loopF_w (WH := H_X4_judgeReferences_2 K g ret) (KB := E_X4_judgeReferences_2 K g ret) (fun a9 r9 h9 k8 k7 => w_X4_judgeReferences_b2 ret X a9 r9 h9 k8 k7) FU (1, u) q70 e7 ?_
  rcases q70 with q7 | q7
  · replace h := sl h
    exact (Option.some.inj h)
  · replace h := sr h
    show XW K 0 0 2 (QI K g (wdX g) ret) (wdX g) q7 40 [] []
    refine x_iconst (v := 1) X dX4_judgeReferences_40 (by decide) ?_
    exact x_zret X rfl (Option.some.inj h) dX4_judgeReferences_41
set_option maxRecDepth 100000 in
set_option maxHeartbeats 4000000 in
theorem c_X4_textStart (l : Launch) (D : va_G) (g : Gw) (p0 : Int32) (u : St) (ret : Int32) (h : f_X4_textStart p0 u = some ret) : metI l D g (wdX g) yX4_textStart cX4_textStart 2 .int rm_X4_textStart [.ref (g.1 4), .int p0] u (ret, u) := by
  refine metI_of (own := RX4) (lv := [(0, .ref (g.1 4)), (1, .int p0)]) (by decide) rfl rfl (Nat.le_of_ble_eq_true rfl) (fun K hl9 hD9 X => ?_)
  subst hl9
  subst hD9
  unfold f_X4_textStart at h
  refine x_aload_n X dX4_textStart_0 rfl 0 rfl ?_
  refine x_get (v := .ref (g.1 12)) X 4 3 in_X4 rfl rfl (by decide) m_X4_17 rfl dX4_textStart_1 ?_
  refine x_iload_n X dX4_textStart_4 rfl 1 rfl ?_
  obtain ⟨i1, h⟩ := chk_some h
  refine x_iald (f := (u 26)) X 12 0 rfl rfl i1 dX4_textStart_5 ?_
  refine x_iconst (v := 3) X dX4_textStart_6 (by decide) ?_
  refine x_iadd X dX4_textStart_7 ?_
  exact x_iret X (roE (Option.some.inj h)) dX4_textStart_8
set_option maxRecDepth 100000 in
set_option maxHeartbeats 4000000 in
theorem c_X4_textEnd (l : Launch) (D : va_G) (g : Gw) (p0 : Int32) (u : St) (ret : Int32) (h : f_X4_textEnd p0 u = some ret) : metI l D g (wdX g) yX4_textEnd cX4_textEnd 2 .int rm_X4_textEnd [.ref (g.1 4), .int p0] u (ret, u) := by
  refine metI_of (own := RX4) (lv := [(0, .ref (g.1 4)), (1, .int p0)]) (by decide) rfl rfl (Nat.le_of_ble_eq_true rfl) (fun K hl9 hD9 X => ?_)
  subst hl9
  subst hD9
  unfold f_X4_textEnd at h
  refine x_aload_n X dX4_textEnd_0 rfl 0 rfl ?_
  refine x_iload_n X dX4_textEnd_1 rfl 1 rfl ?_
  obtain ⟨q1, e1, h⟩ := bd h
  refine x_callR X [.int p0] [] (c_X4_textStart K.l K.D g p0 u q1 e1) ok_X4_textStart m_X4_86 4 rfl rfl rfl rfl (Nat.le_of_ble_eq_true rfl) ⟨Nat.zero_le _, Nat.zero_le _⟩ ⟨rfl, rfl, by decide, by decide⟩ dX4_textEnd_2 ?_
  refine x_aload_n X dX4_textEnd_5 rfl 0 rfl ?_
  refine x_iload_n X dX4_textEnd_6 rfl 1 rfl ?_
  obtain ⟨q2, e2, h⟩ := bd h
  refine x_callR X [.int p0] [.int q1] (c_X4_first K.l K.D g p0 u q2 e2) ok_X4_first m_X4_74 4 rfl rfl rfl rfl (Nat.le_of_ble_eq_true rfl) ⟨Nat.zero_le _, Nat.zero_le _⟩ ⟨rfl, rfl, by decide, by decide⟩ dX4_textEnd_7 ?_
  refine x_iadd X dX4_textEnd_10 ?_
  exact x_iret X (roE (Option.some.inj h)) dX4_textEnd_11
abbrev H_X3_isWord_s0_15 (x1 : Int32) (K : Cx) (g : Gw) (u : St) (ret : Int32) (a : Int32) : Prop := XW K 0 0 5 (QI K g (wdX g) (ret, u)) (wdX g) u 15 [(0, .ref (g.1 8)), (1, .int x1), (3, .ref (g.1 100)), (4, .int a)] []
abbrev E_X3_isWord_s0_15 (x1 : Int32) (K : Cx) (g : Gw) (u : St) (ret : Int32) (q : (Int32) ⊕ (Unit)) : Prop := Sum.elim (fun q => q = ret) (fun q => XW K 0 0 5 (QI K g (wdX g) (ret, u)) (wdX g) u 47 [] []) q
set_option maxRecDepth 100000 in
set_option maxHeartbeats 4000000 in
theorem w_X3_isWord_s0_b15 {K : Cx} {g : Gw} (x1 : Int32) (u : St) (ret : Int32) (X : XC K g cX3_isWord 5 RX3 (some .boolean) rm_X3_isWord) (a : Int32) (r : ((Int32) ⊕ (Unit)) ⊕ (Int32)) (h : f_X3_isWord_s0_b15 x1 u a = some r) (k0 : ∀ q, r = .inl q → E_X3_isWord_s0_15 x1 K g u ret q) (k1 : ∀ q, r = .inr q → H_X3_isWord_s0_15 x1 K g u ret q) : H_X3_isWord_s0_15 x1 K g u ret a := by
  unfold f_X3_isWord_s0_b15 at h
  show XW K 0 0 5 (QI K g (wdX g) (ret, u)) (wdX g) u 15 [(0, .ref (g.1 8)), (1, .int x1), (3, .ref (g.1 100)), (4, .int a)] []
  refine x_iload X dX3_isWord_15 3 rfl ?_
  refine x_aload_n X dX3_isWord_17 rfl 2 rfl ?_
  refine x_callSR X 0 (by decide) [] [.int a] (c_S_length K.l K.D g (wdX g) u 0 (by decide) 6 (by decide)) ok_S_length m_X3_34 rfl rfl (Nat.le_of_ble_eq_true rfl) ⟨Nat.zero_le _, Nat.zero_le _⟩ ⟨rfl, rfl, by decide, by decide⟩ dX3_isWord_18 ?_
  refine x_icmp_ge (tgt := 47) X dX3_isWord_21 (by decide) (fun c2 => ?_) (fun c2 => ?_)
  · replace h := if_t c2 h
    refine x_sub [] rfl ?_
    have h9 := k0 _ (Option.some.inj h).symm
    exact h9
  · replace h := if_f c2 h
    refine x_aload_n X dX3_isWord_24 rfl 0 rfl ?_
    refine x_iload_n X dX3_isWord_25 rfl 1 rfl ?_
    refine x_iload X dX3_isWord_26 3 rfl ?_
    refine x_iadd X dX3_isWord_28 ?_
    obtain ⟨i3, h⟩ := chk_some h
    refine x_iald (f := (u 22)) X 8 0 rfl rfl i3 dX3_isWord_29 ?_
    refine x_aload_n X dX3_isWord_30 rfl 2 rfl ?_
    refine x_iload X dX3_isWord_31 3 rfl ?_
    obtain ⟨i4, h⟩ := chk_some h
    refine x_callSR X 0 (by decide) [.int a] [.int ((u 22) (Int32.toNatClampNeg (x1 + a)))] (c_S_charAt K.l K.D g (wdX g) u 0 (by decide) a i4) ok_S_charAt m_X3_40 rfl rfl (Nat.le_of_ble_eq_true rfl) ⟨Nat.zero_le _, Nat.zero_le _⟩ ⟨rfl, rfl, by decide, by decide⟩ dX3_isWord_33 ?_
    refine x_icmp_eq (tgt := 41) X dX3_isWord_36 (by decide) (fun c5 => ?_) (fun c5 => ?_)
    · replace h := if_t c5 h
      refine x_iinc (v := (a + 1)) (lv2 := [(4, .int (a + 1)), (0, .ref (g.1 8)), (1, .int x1), (3, .ref (g.1 100))]) X dX3_isWord_41 3 rfl rfl (by decide) rfl ?_
      refine x_goto (tgt := 15) X dX3_isWord_44 (by decide) ?_
      refine x_sub [1, 2, 3, 0] rfl ?_
      have h9 := k1 _ (Option.some.inj h).symm
      exact h9
    · replace h := if_f c5 h
      refine x_iconst (v := 0) X dX3_isWord_39 (by decide) ?_
      exact x_zret X rfl (roE (k0 _ (Option.some.inj h).symm)) dX3_isWord_40
set_option maxRecDepth 100000 in
set_option maxHeartbeats 4000000 in
theorem c_X3_isWord_s0 (l : Launch) (D : va_G) (g : Gw) (p1 : Int32) (p2 : Int32) (u : St) (ret : Int32) (h : f_X3_isWord_s0 p1 p2 u = some ret) : metI l D g (wdX g) yX3_isWord cX3_isWord 5 .boolean rm_X3_isWord [.ref (g.1 8), .int p1, .int p2, .ref (g.1 100)] u (ret, u) := by
  refine metI_of (own := RX3) (lv := [(0, .ref (g.1 8)), (1, .int p1), (2, .int p2), (3, .ref (g.1 100))]) (by decide) rfl rfl (Nat.le_of_ble_eq_true rfl) (fun K hl9 hD9 X => ?_)
  subst hl9
  subst hD9
  unfold f_X3_isWord_s0 at h
  refine x_iload_n X dX3_isWord_0 rfl 2 rfl ?_
  refine x_iload_n X dX3_isWord_1 rfl 1 rfl ?_
  refine x_isub X dX3_isWord_2 ?_
  refine x_aload_n X dX3_isWord_3 rfl 3 rfl ?_
  refine x_callSR X 0 (by decide) [] [.int (p2 - p1)] (c_S_length K.l K.D g (wdX g) u 0 (by decide) 6 (by decide)) ok_S_length m_X3_34 rfl rfl (Nat.le_of_ble_eq_true rfl) ⟨Nat.zero_le _, Nat.zero_le _⟩ ⟨rfl, rfl, by decide, by decide⟩ dX3_isWord_4 ?_
  refine x_icmp_eq (tgt := 12) X dX3_isWord_7 (by decide) (fun c1 => ?_) (fun c1 => ?_)
  · replace h := if_t c1 h
    refine x_iconst (v := 0) X dX3_isWord_12 (by decide) ?_
    refine x_istore (lv2 := [(4, .int 0), (0, .ref (g.1 8)), (1, .int p1), (2, .int p2), (3, .ref (g.1 100))]) X dX3_isWord_13 (by decide) rfl ?_
    refine x_sub [1, 2, 4, 0] rfl ?_
    obtain ⟨q60, e6, h⟩ := bd h
    refine loopF_w (WH := H_X3_isWord_s0_15 p1 K g u ret) (KB := E_X3_isWord_s0_15 p1 K g u ret) (fun a9 r9 h9 k8 k7 => w_X3_isWord_s0_b15 p1 u ret X a9 r9 h9 k8 k7) FU 0 q60 e6 ?_
    rcases q60 with q6 | q6
    · replace h := sl h
      exact (Option.some.inj h)
    · replace h := sr h
      show XW K 0 0 5 (QI K g (wdX g) (ret, u)) (wdX g) u 47 [] []
      refine x_iconst (v := 1) X dX3_isWord_47 (by decide) ?_
      exact x_zret X rfl (roE (Option.some.inj h)) dX3_isWord_48
  · replace h := if_f c1 h
    refine x_iconst (v := 0) X dX3_isWord_10 (by decide) ?_
    exact x_zret X rfl (roE (Option.some.inj h)) dX3_isWord_11
abbrev H_X3_isWord_s1_15 (x1 : Int32) (K : Cx) (g : Gw) (u : St) (ret : Int32) (a : Int32) : Prop := XW K 0 0 5 (QI K g (wdX g) (ret, u)) (wdX g) u 15 [(0, .ref (g.1 8)), (1, .int x1), (3, .ref (g.1 101)), (4, .int a)] []
abbrev E_X3_isWord_s1_15 (x1 : Int32) (K : Cx) (g : Gw) (u : St) (ret : Int32) (q : (Int32) ⊕ (Unit)) : Prop := Sum.elim (fun q => q = ret) (fun q => XW K 0 0 5 (QI K g (wdX g) (ret, u)) (wdX g) u 47 [] []) q
set_option maxRecDepth 100000 in
set_option maxHeartbeats 4000000 in
theorem w_X3_isWord_s1_b15 {K : Cx} {g : Gw} (x1 : Int32) (u : St) (ret : Int32) (X : XC K g cX3_isWord 5 RX3 (some .boolean) rm_X3_isWord) (a : Int32) (r : ((Int32) ⊕ (Unit)) ⊕ (Int32)) (h : f_X3_isWord_s1_b15 x1 u a = some r) (k0 : ∀ q, r = .inl q → E_X3_isWord_s1_15 x1 K g u ret q) (k1 : ∀ q, r = .inr q → H_X3_isWord_s1_15 x1 K g u ret q) : H_X3_isWord_s1_15 x1 K g u ret a := by
  unfold f_X3_isWord_s1_b15 at h
  show XW K 0 0 5 (QI K g (wdX g) (ret, u)) (wdX g) u 15 [(0, .ref (g.1 8)), (1, .int x1), (3, .ref (g.1 101)), (4, .int a)] []
  refine x_iload X dX3_isWord_15 3 rfl ?_
  refine x_aload_n X dX3_isWord_17 rfl 2 rfl ?_
  refine x_callSR X 1 (by decide) [] [.int a] (c_S_length K.l K.D g (wdX g) u 1 (by decide) 8 (by decide)) ok_S_length m_X3_34 rfl rfl (Nat.le_of_ble_eq_true rfl) ⟨Nat.zero_le _, Nat.zero_le _⟩ ⟨rfl, rfl, by decide, by decide⟩ dX3_isWord_18 ?_
  refine x_icmp_ge (tgt := 47) X dX3_isWord_21 (by decide) (fun c2 => ?_) (fun c2 => ?_)
  · replace h := if_t c2 h
    refine x_sub [] rfl ?_
    have h9 := k0 _ (Option.some.inj h).symm
    exact h9
  · replace h := if_f c2 h
    refine x_aload_n X dX3_isWord_24 rfl 0 rfl ?_
    refine x_iload_n X dX3_isWord_25 rfl 1 rfl ?_
    refine x_iload X dX3_isWord_26 3 rfl ?_
    refine x_iadd X dX3_isWord_28 ?_
    obtain ⟨i3, h⟩ := chk_some h
    refine x_iald (f := (u 22)) X 8 0 rfl rfl i3 dX3_isWord_29 ?_
    refine x_aload_n X dX3_isWord_30 rfl 2 rfl ?_
    refine x_iload X dX3_isWord_31 3 rfl ?_
    obtain ⟨i4, h⟩ := chk_some h
    refine x_callSR X 1 (by decide) [.int a] [.int ((u 22) (Int32.toNatClampNeg (x1 + a)))] (c_S_charAt K.l K.D g (wdX g) u 1 (by decide) a i4) ok_S_charAt m_X3_40 rfl rfl (Nat.le_of_ble_eq_true rfl) ⟨Nat.zero_le _, Nat.zero_le _⟩ ⟨rfl, rfl, by decide, by decide⟩ dX3_isWord_33 ?_
    refine x_icmp_eq (tgt := 41) X dX3_isWord_36 (by decide) (fun c5 => ?_) (fun c5 => ?_)
    · replace h := if_t c5 h
      refine x_iinc (v := (a + 1)) (lv2 := [(4, .int (a + 1)), (0, .ref (g.1 8)), (1, .int x1), (3, .ref (g.1 101))]) X dX3_isWord_41 3 rfl rfl (by decide) rfl ?_
      refine x_goto (tgt := 15) X dX3_isWord_44 (by decide) ?_
      refine x_sub [1, 2, 3, 0] rfl ?_
      have h9 := k1 _ (Option.some.inj h).symm
      exact h9
    · replace h := if_f c5 h
      refine x_iconst (v := 0) X dX3_isWord_39 (by decide) ?_
      exact x_zret X rfl (roE (k0 _ (Option.some.inj h).symm)) dX3_isWord_40
set_option maxRecDepth 100000 in
set_option maxHeartbeats 4000000 in
theorem c_X3_isWord_s1 (l : Launch) (D : va_G) (g : Gw) (p1 : Int32) (p2 : Int32) (u : St) (ret : Int32) (h : f_X3_isWord_s1 p1 p2 u = some ret) : metI l D g (wdX g) yX3_isWord cX3_isWord 5 .boolean rm_X3_isWord [.ref (g.1 8), .int p1, .int p2, .ref (g.1 101)] u (ret, u) := by
  refine metI_of (own := RX3) (lv := [(0, .ref (g.1 8)), (1, .int p1), (2, .int p2), (3, .ref (g.1 101))]) (by decide) rfl rfl (Nat.le_of_ble_eq_true rfl) (fun K hl9 hD9 X => ?_)
  subst hl9
  subst hD9
  unfold f_X3_isWord_s1 at h
  refine x_iload_n X dX3_isWord_0 rfl 2 rfl ?_
  refine x_iload_n X dX3_isWord_1 rfl 1 rfl ?_
  refine x_isub X dX3_isWord_2 ?_
  refine x_aload_n X dX3_isWord_3 rfl 3 rfl ?_
  refine x_callSR X 1 (by decide) [] [.int (p2 - p1)] (c_S_length K.l K.D g (wdX g) u 1 (by decide) 8 (by decide)) ok_S_length m_X3_34 rfl rfl (Nat.le_of_ble_eq_true rfl) ⟨Nat.zero_le _, Nat.zero_le _⟩ ⟨rfl, rfl, by decide, by decide⟩ dX3_isWord_4 ?_
  refine x_icmp_eq (tgt := 12) X dX3_isWord_7 (by decide) (fun c1 => ?_) (fun c1 => ?_)
  · replace h := if_t c1 h
    refine x_iconst (v := 0) X dX3_isWord_12 (by decide) ?_
    refine x_istore (lv2 := [(4, .int 0), (0, .ref (g.1 8)), (1, .int p1), (2, .int p2), (3, .ref (g.1 101))]) X dX3_isWord_13 (by decide) rfl ?_
    refine x_sub [1, 2, 4, 0] rfl ?_
    obtain ⟨q60, e6, h⟩ := bd h
    refine loopF_w (WH := H_X3_isWord_s1_15 p1 K g u ret) (KB := E_X3_isWord_s1_15 p1 K g u ret) (fun a9 r9 h9 k8 k7 => w_X3_isWord_s1_b15 p1 u ret X a9 r9 h9 k8 k7) FU 0 q60 e6 ?_
    rcases q60 with q6 | q6
    · replace h := sl h
      exact (Option.some.inj h)
    · replace h := sr h
      show XW K 0 0 5 (QI K g (wdX g) (ret, u)) (wdX g) u 47 [] []
      refine x_iconst (v := 1) X dX3_isWord_47 (by decide) ?_
      exact x_zret X rfl (roE (Option.some.inj h)) dX3_isWord_48
  · replace h := if_f c1 h
    refine x_iconst (v := 0) X dX3_isWord_10 (by decide) ?_
    exact x_zret X rfl (roE (Option.some.inj h)) dX3_isWord_11
abbrev H_X3_isFieldName_2 (x1 : Int32) (x2 : Int32) (K : Cx) (g : Gw) (u : St) (ret : Int32) (a : Int32) : Prop := XW K 0 0 4 (QI K g (wdX g) (ret, u)) (wdX g) u 2 [(0, .ref (g.1 8)), (1, .int x1), (2, .int x2), (3, .int a)] []
abbrev E_X3_isFieldName_2 (x1 : Int32) (x2 : Int32) (K : Cx) (g : Gw) (u : St) (ret : Int32) (q : (Int32) ⊕ (Unit)) : Prop := Sum.elim (fun q => q = ret) (fun q => XW K 0 0 4 (QI K g (wdX g) (ret, u)) (wdX g) u 47 [(1, .int x1), (2, .int x2)] []) q
set_option maxRecDepth 100000 in
set_option maxHeartbeats 4000000 in
theorem w_X3_isFieldName_j39_2 {K : Cx} {g : Gw} (ret : Int32) (X : XC K g cX3_isFieldName 4 RX3 (some .boolean) rm_X3_isFieldName) (x1 : Int32) (x2 : Int32) (u : St) (r : ((Int32) ⊕ (Unit)) ⊕ (Int32)) (h : f_X3_isFieldName_j39_2 x1 x2 u = some r) (k0 : ∀ q, r = .inl q → E_X3_isFieldName_2 x1 x2 K g u ret q) (k1 : ∀ q, r = .inr q → H_X3_isFieldName_2 x1 x2 K g u ret q) : XW K 0 0 4 (QI K g (wdX g) (ret, u)) (wdX g) u 39 [(1, .int x1), (2, .int x2)] [] := by
  unfold f_X3_isFieldName_j39_2 at h
  refine x_iconst (v := 0) X dX3_isFieldName_39 (by decide) ?_
  exact x_zret X rfl (roE (k0 _ (Option.some.inj h).symm)) dX3_isFieldName_40
set_option maxRecDepth 100000 in
set_option maxHeartbeats 4000000 in
theorem w_X3_isFieldName_b2 {K : Cx} {g : Gw} (x1 : Int32) (x2 : Int32) (u : St) (ret : Int32) (X : XC K g cX3_isFieldName 4 RX3 (some .boolean) rm_X3_isFieldName) (a : Int32) (r : ((Int32) ⊕ (Unit)) ⊕ (Int32)) (h : f_X3_isFieldName_b2 x1 x2 u a = some r) (k0 : ∀ q, r = .inl q → E_X3_isFieldName_2 x1 x2 K g u ret q) (k1 : ∀ q, r = .inr q → H_X3_isFieldName_2 x1 x2 K g u ret q) : H_X3_isFieldName_2 x1 x2 K g u ret a := by
  unfold f_X3_isFieldName_b2 at h
  show XW K 0 0 4 (QI K g (wdX g) (ret, u)) (wdX g) u 2 [(0, .ref (g.1 8)), (1, .int x1), (2, .int x2), (3, .int a)] []
  refine x_iload_n X dX3_isFieldName_2 rfl 3 rfl ?_
  refine x_iload_n X dX3_isFieldName_3 rfl 2 rfl ?_
  refine x_icmp_ge (tgt := 47) X dX3_isFieldName_4 (by decide) (fun c1 => ?_) (fun c1 => ?_)
  · replace h := if_t c1 h
    refine x_sub [1, 2] rfl ?_
    have h9 := k0 _ (Option.some.inj h).symm
    exact h9
  · replace h := if_f c1 h
    refine x_aload_n X dX3_isFieldName_7 rfl 0 rfl ?_
    refine x_iload_n X dX3_isFieldName_8 rfl 3 rfl ?_
    obtain ⟨i2, h⟩ := chk_some h
    refine x_iald (f := (u 22)) X 8 0 rfl rfl i2 dX3_isFieldName_9 ?_
    refine x_bipush (v := 46) X dX3_isFieldName_10 (by decide) ?_
    refine x_icmp_eq (tgt := 39) X dX3_isFieldName_12 (by decide) (fun c3 => ?_) (fun c3 => ?_)
    · replace h := if_t c3 h
      refine x_sub [1, 2] rfl ?_
      exact w_X3_isFieldName_j39_2 ret X x1 x2 u r h k0 k1
    · replace h := if_f c3 h
      refine x_aload_n X dX3_isFieldName_15 rfl 0 rfl ?_
      refine x_iload_n X dX3_isFieldName_16 rfl 3 rfl ?_
      obtain ⟨i4, h⟩ := chk_some h
      refine x_iald (f := (u 22)) X 8 0 rfl rfl i4 dX3_isFieldName_17 ?_
      refine x_bipush (v := 59) X dX3_isFieldName_18 (by decide) ?_
      refine x_icmp_eq (tgt := 39) X dX3_isFieldName_20 (by decide) (fun c5 => ?_) (fun c5 => ?_)
      · replace h := if_t c5 h
        refine x_sub [1, 2] rfl ?_
        exact w_X3_isFieldName_j39_2 ret X x1 x2 u r h k0 k1
      · replace h := if_f c5 h
        refine x_aload_n X dX3_isFieldName_23 rfl 0 rfl ?_
        refine x_iload_n X dX3_isFieldName_24 rfl 3 rfl ?_
        obtain ⟨i6, h⟩ := chk_some h
        refine x_iald (f := (u 22)) X 8 0 rfl rfl i6 dX3_isFieldName_25 ?_
        refine x_bipush (v := 91) X dX3_isFieldName_26 (by decide) ?_
        refine x_icmp_eq (tgt := 39) X dX3_isFieldName_28 (by decide) (fun c7 => ?_) (fun c7 => ?_)
        · replace h := if_t c7 h
          refine x_sub [1, 2] rfl ?_
          exact w_X3_isFieldName_j39_2 ret X x1 x2 u r h k0 k1
        · replace h := if_f c7 h
          refine x_aload_n X dX3_isFieldName_31 rfl 0 rfl ?_
          refine x_iload_n X dX3_isFieldName_32 rfl 3 rfl ?_
          obtain ⟨i8, h⟩ := chk_some h
          refine x_iald (f := (u 22)) X 8 0 rfl rfl i8 dX3_isFieldName_33 ?_
          refine x_bipush (v := 47) X dX3_isFieldName_34 (by decide) ?_
          refine x_icmp_ne (tgt := 41) X dX3_isFieldName_36 (by decide) (fun c9 => ?_) (fun c9 => ?_)
          · replace h := if_f c9 h
            refine x_iinc (v := (a + 1)) (lv2 := [(3, .int (a + 1)), (0, .ref (g.1 8)), (1, .int x1), (2, .int x2)]) X dX3_isFieldName_41 3 rfl rfl (by decide) rfl ?_
            refine x_goto (tgt := 2) X dX3_isFieldName_44 (by decide) ?_
            refine x_sub [1, 2, 3, 0] rfl ?_
            have h9 := k1 _ (Option.some.inj h).symm
            exact h9
          · replace h := if_t c9 h
            refine x_sub [1, 2] rfl ?_
            exact w_X3_isFieldName_j39_2 ret X x1 x2 u r h k0 k1
set_option maxRecDepth 100000 in
set_option maxHeartbeats 4000000 in
theorem w_X3_isFieldName_j57 {K : Cx} {g : Gw} (ret : Int32) (X : XC K g cX3_isFieldName 4 RX3 (some .boolean) rm_X3_isFieldName) (z0 : Int32) (u : St) (h : f_X3_isFieldName_j57 z0 u = some ret) : XW K 0 0 4 (QI K g (wdX g) (ret, u)) (wdX g) u 57 [] [.int z0] := by
  unfold f_X3_isFieldName_j57 at h
  obtain ⟨b12, h⟩ := bchk_some h
  exact x_zret X b12 (roE (Option.some.inj h)) dX3_isFieldName_57
set_option maxRecDepth 100000 in
set_option maxHeartbeats 4000000 in
theorem c_X3_isFieldName (l : Launch) (D : va_G) (g : Gw) (p1 : Int32) (p2 : Int32) (u : St) (ret : Int32) (h : f_X3_isFieldName p1 p2 u = some ret) : metI l D g (wdX g) yX3_isFieldName cX3_isFieldName 4 .boolean rm_X3_isFieldName [.ref (g.1 8), .int p1, .int p2] u (ret, u) := by
  refine metI_of (own := RX3) (lv := [(0, .ref (g.1 8)), (1, .int p1), (2, .int p2)]) (by decide) rfl rfl (Nat.le_of_ble_eq_true rfl) (fun K hl9 hD9 X => ?_)
  subst hl9
  subst hD9
  unfold f_X3_isFieldName at h
  refine x_iload_n X dX3_isFieldName_0 rfl 1 rfl ?_
  refine x_istore_n (lv2 := [(3, .int p1), (0, .ref (g.1 8)), (1, .int p1), (2, .int p2)]) X dX3_isFieldName_1 rfl (by decide) rfl ?_
  refine x_sub [1, 2, 3, 0] rfl ?_
  obtain ⟨q100, e10, h⟩ := bd h
  refine loopF_w (WH := H_X3_isFieldName_2 p1 p2 K g u ret) (KB := E_X3_isFieldName_2 p1 p2 K g u ret) (fun a9 r9 h9 k8 k7 => w_X3_isFieldName_b2 p1 p2 u ret X a9 r9 h9 k8 k7) FU p1 q100 e10 ?_
  rcases q100 with q10 | q10
  · replace h := sl h
    exact (Option.some.inj h)
  · replace h := sr h
    show XW K 0 0 4 (QI K g (wdX g) (ret, u)) (wdX g) u 47 [(1, .int p1), (2, .int p2)] []
    refine x_iload_n X dX3_isFieldName_47 rfl 0 rfl ?_
    refine x_iload_n X dX3_isFieldName_48 rfl 1 rfl ?_
    refine x_icmp_ge (tgt := 56) X dX3_isFieldName_49 (by decide) (fun c11 => ?_) (fun c11 => ?_)
    · replace h := if_t c11 h
      refine x_iconst (v := 0) X dX3_isFieldName_56 (by decide) ?_
      refine x_sub [] rfl ?_
      exact w_X3_isFieldName_j57 ret X 0 u h
    · replace h := if_f c11 h
      refine x_iconst (v := 1) X dX3_isFieldName_52 (by decide) ?_
      refine x_goto (tgt := 57) X dX3_isFieldName_53 (by decide) ?_
      refine x_sub [] rfl ?_
      exact w_X3_isFieldName_j57 ret X 1 u h
