abbrev H_X0_tableFits_59 (x1 : Int32) (x2 : Int32) (x3 : Int32) (K : Cx) (g : Gw) (u : St) (ret : Int32) (a : Int32) : Prop := XW K 0 0 5 (QI K g (wdX g) (ret, u)) (wdX g) u 59 [(0, .ref (g.1 5)), (1, .int x1), (2, .int x2), (3, .int x3), (4, .int a)] []
abbrev E_X0_tableFits_59 (x1 : Int32) (x2 : Int32) (x3 : Int32) (K : Cx) (g : Gw) (u : St) (ret : Int32) (q : (Int32) ⊕ (Unit)) : Prop := Sum.elim (fun q => q = ret) (fun q => XW K 0 0 5 (QI K g (wdX g) (ret, u)) (wdX g) u 100 [] []) q
set_option maxRecDepth 100000 in
set_option maxHeartbeats 4000000 in
theorem w_X0_tableFits_b59 {K : Cx} {g : Gw} (x1 : Int32) (x2 : Int32) (x3 : Int32) (u : St) (ret : Int32) (X : XC K g cX0_tableFits 5 RX0 (some .boolean) rm_X0_tableFits) (a : Int32) (r : ((Int32) ⊕ (Unit)) ⊕ (Int32)) (h : f_X0_tableFits_b59 x1 x2 x3 u a = some r) (k0 : ∀ q, r = .inl q → E_X0_tableFits_59 x1 x2 x3 K g u ret q) (k1 : ∀ q, r = .inr q → H_X0_tableFits_59 x1 x2 x3 K g u ret q) : H_X0_tableFits_59 x1 x2 x3 K g u ret a := by
  unfold f_X0_tableFits_b59 at h
  show XW K 0 0 5 (QI K g (wdX g) (ret, u)) (wdX g) u 59 [(0, .ref (g.1 5)), (1, .int x1), (2, .int x2), (3, .int x3), (4, .int a)] []
  refine x_iload X dX0_tableFits_59 4 rfl ?_
  refine x_iload_n X dX0_tableFits_61 rfl 3 rfl ?_
  refine x_icmp_ge (tgt := 100) X dX0_tableFits_62 (by decide) (fun c7 => ?_) (fun c7 => ?_)
  · replace h := if_t c7 h
    refine x_sub [] rfl ?_
    have h9 := k0 _ (Option.some.inj h).symm
    exact h9
  · replace h := if_f c7 h
    refine x_aload_n X dX0_tableFits_65 rfl 0 rfl ?_
    refine x_iload_n X dX0_tableFits_66 rfl 1 rfl ?_
    refine x_i2l X dX0_tableFits_67 ?_
    refine x_aload_n X dX0_tableFits_68 rfl 0 rfl ?_
    refine x_get (v := .ref (g.1 1)) X 5 0 in_X0 rfl rfl (by decide) m_X0_27 rfl dX0_tableFits_69 ?_
    refine x_iload_n X dX0_tableFits_72 rfl 2 rfl ?_
    refine x_bipush (v := 12) X dX0_tableFits_73 (by decide) ?_
    refine x_iadd X dX0_tableFits_75 ?_
    refine x_iconst (v := 4) X dX0_tableFits_76 (by decide) ?_
    refine x_iload X dX0_tableFits_77 4 rfl ?_
    refine x_imul X dX0_tableFits_79 ?_
    refine x_iadd X dX0_tableFits_80 ?_
    obtain ⟨q8, e8, h⟩ := bd h
    refine x_callR X [.int ((x2 + 12) + (4 * a))] [.long (x1.toInt64), .ref (g.1 5)] (c_X1_u4 K.l K.D g ((x2 + 12) + (4 * a)) u q8 e8) ok_X1_u4 m_X0_42 1 rfl rfl rfl rfl (Nat.le_of_ble_eq_true rfl) ⟨Nat.zero_le _, Nat.zero_le _⟩ ⟨rfl, rfl, by decide, by decide⟩ dX0_tableFits_81 ?_
    refine x_i2l X dX0_tableFits_84 ?_
    refine x_ladd X dX0_tableFits_85 ?_
    obtain ⟨q9, e9, h⟩ := bd h
    refine x_callR X [.long ((x1.toInt64) + (q8.toInt64))] [] (c_X0_isInstruction K.l K.D g ((x1.toInt64) + (q8.toInt64)) u q9 e9) ok_X0_isInstruction m_X0_93 5 rfl rfl rfl rfl (Nat.le_of_ble_eq_true rfl) ⟨Nat.zero_le _, Nat.zero_le _⟩ ⟨rfl, rfl, by decide, by decide⟩ dX0_tableFits_86 ?_
    refine x_if_ne (tgt := 94) X dX0_tableFits_89 (by decide) (fun c10 => ?_) (fun c10 => ?_)
    · replace h := if_f c10 h
      refine x_iinc (v := (a + 1)) (lv2 := [(4, .int (a + 1)), (0, .ref (g.1 5)), (1, .int x1), (2, .int x2), (3, .int x3)]) X dX0_tableFits_94 4 rfl rfl (by decide) rfl ?_
      refine x_goto (tgt := 59) X dX0_tableFits_97 (by decide) ?_
      refine x_sub [1, 2, 3, 4, 0] rfl ?_
      have h9 := k1 _ (Option.some.inj h).symm
      exact h9
    · replace h := if_t c10 h
      refine x_iconst (v := 0) X dX0_tableFits_92 (by decide) ?_
      exact x_zret X rfl (roE (k0 _ (Option.some.inj h).symm)) dX0_tableFits_93
set_option maxRecDepth 100000 in
set_option maxHeartbeats 4000000 in
theorem c_X0_tableFits (l : Launch) (D : va_G) (g : Gw) (p0 : Int32) (u : St) (ret : Int32) (h : f_X0_tableFits p0 u = some ret) : metI l D g (wdX g) yX0_tableFits cX0_tableFits 5 .boolean rm_X0_tableFits [.ref (g.1 5), .int p0] u (ret, u) := by
  refine metI_of (own := RX0) (lv := [(0, .ref (g.1 5)), (1, .int p0)]) (by decide) rfl rfl (Nat.le_of_ble_eq_true rfl) (fun K hl9 hD9 X => ?_)
  subst hl9
  subst hD9
  unfold f_X0_tableFits at h
  refine x_aload_n X dX0_tableFits_0 rfl 0 rfl ?_
  refine x_get (v := .int (u 9 0)) X 5 5 in_X0 rfl rfl (by decide) m_X0_48 rfl dX0_tableFits_1 ?_
  refine x_iload_n X dX0_tableFits_4 rfl 1 rfl ?_
  obtain ⟨q1, e1, h⟩ := bd h
  refine x_scallR X [.int p0] [.int (u 9 0)] (c_X0_tableOf K.l K.D g p0 u q1 e1) ok_X0_tableOf m_X0_83 rfl rfl (Nat.le_of_ble_eq_true rfl) ⟨Nat.zero_le _, Nat.zero_le _⟩ ⟨rfl, rfl, by decide, by decide⟩ dX0_tableFits_5 ?_
  refine x_iadd X dX0_tableFits_8 ?_
  refine x_istore_n (lv2 := [(2, .int ((u 9 0) + q1)), (0, .ref (g.1 5)), (1, .int p0)]) X dX0_tableFits_9 rfl (by decide) rfl ?_
  refine x_aload_n X dX0_tableFits_10 rfl 1 rfl ?_
  refine x_iload_n X dX0_tableFits_11 rfl 2 rfl ?_
  refine x_i2l X dX0_tableFits_12 ?_
  refine x_aload_n X dX0_tableFits_13 rfl 1 rfl ?_
  refine x_get (v := .ref (g.1 1)) X 5 0 in_X0 rfl rfl (by decide) m_X0_27 rfl dX0_tableFits_14 ?_
  refine x_iload_n X dX0_tableFits_17 rfl 0 rfl ?_
  obtain ⟨q2, e2, h⟩ := bd h
  refine x_callR X [.int ((u 9 0) + q1)] [.long (p0.toInt64), .ref (g.1 5)] (c_X1_u4 K.l K.D g ((u 9 0) + q1) u q2 e2) ok_X1_u4 m_X0_42 1 rfl rfl rfl rfl (Nat.le_of_ble_eq_true rfl) ⟨Nat.zero_le _, Nat.zero_le _⟩ ⟨rfl, rfl, by decide, by decide⟩ dX0_tableFits_18 ?_
  refine x_i2l X dX0_tableFits_21 ?_
  refine x_ladd X dX0_tableFits_22 ?_
  obtain ⟨q3, e3, h⟩ := bd h
  refine x_callR X [.long ((p0.toInt64) + (q2.toInt64))] [] (c_X0_isInstruction K.l K.D g ((p0.toInt64) + (q2.toInt64)) u q3 e3) ok_X0_isInstruction m_X0_93 5 rfl rfl rfl rfl (Nat.le_of_ble_eq_true rfl) ⟨Nat.zero_le _, Nat.zero_le _⟩ ⟨rfl, rfl, by decide, by decide⟩ dX0_tableFits_23 ?_
  refine x_if_ne (tgt := 31) X dX0_tableFits_26 (by decide) (fun c4 => ?_) (fun c4 => ?_)
  · replace h := if_f c4 h
    refine x_aload_n X dX0_tableFits_31 rfl 1 rfl ?_
    refine x_get (v := .ref (g.1 1)) X 5 0 in_X0 rfl rfl (by decide) m_X0_27 rfl dX0_tableFits_32 ?_
    refine x_iload_n X dX0_tableFits_35 rfl 0 rfl ?_
    refine x_bipush (v := 8) X dX0_tableFits_36 (by decide) ?_
    refine x_iadd X dX0_tableFits_38 ?_
    obtain ⟨q5, e5, h⟩ := bd h
    refine x_callR X [.int (((u 9 0) + q1) + 8)] [] (c_X1_u4 K.l K.D g (((u 9 0) + q1) + 8) u q5 e5) ok_X1_u4 m_X0_42 1 rfl rfl rfl rfl (Nat.le_of_ble_eq_true rfl) ⟨Nat.zero_le _, Nat.zero_le _⟩ ⟨rfl, rfl, by decide, by decide⟩ dX0_tableFits_39 ?_
    refine x_aload_n X dX0_tableFits_42 rfl 1 rfl ?_
    refine x_get (v := .ref (g.1 1)) X 5 0 in_X0 rfl rfl (by decide) m_X0_27 rfl dX0_tableFits_43 ?_
    refine x_iload_n X dX0_tableFits_46 rfl 0 rfl ?_
    refine x_iconst (v := 4) X dX0_tableFits_47 (by decide) ?_
    refine x_iadd X dX0_tableFits_48 ?_
    obtain ⟨q6, e6, h⟩ := bd h
    refine x_callR X [.int (((u 9 0) + q1) + 4)] [.int q5] (c_X1_u4 K.l K.D g (((u 9 0) + q1) + 4) u q6 e6) ok_X1_u4 m_X0_42 1 rfl rfl rfl rfl (Nat.le_of_ble_eq_true rfl) ⟨Nat.zero_le _, Nat.zero_le _⟩ ⟨rfl, rfl, by decide, by decide⟩ dX0_tableFits_49 ?_
    refine x_isub X dX0_tableFits_52 ?_
    refine x_iconst (v := 1) X dX0_tableFits_53 (by decide) ?_
    refine x_iadd X dX0_tableFits_54 ?_
    refine x_istore_n (lv2 := [(3, .int ((q5 - q6) + 1)), (2, .int ((u 9 0) + q1)), (0, .ref (g.1 5)), (1, .int p0)]) X dX0_tableFits_55 rfl (by decide) rfl ?_
    refine x_iconst (v := 0) X dX0_tableFits_56 (by decide) ?_
    refine x_istore (lv2 := [(4, .int 0), (3, .int ((q5 - q6) + 1)), (2, .int ((u 9 0) + q1)), (0, .ref (g.1 5)), (1, .int p0)]) X dX0_tableFits_57 (by decide) rfl ?_
    refine x_sub [3, 4, 2, 1, 0] rfl ?_
    obtain ⟨q110, e11, h⟩ := bd h
    refine loopF_w (WH := H_X0_tableFits_59 p0 ((u 9 0) + q1) ((q5 - q6) + 1) K g u ret) (KB := E_X0_tableFits_59 p0 ((u 9 0) + q1) ((q5 - q6) + 1) K g u ret) (fun a9 r9 h9 k8 k7 => w_X0_tableFits_b59 p0 ((u 9 0) + q1) ((q5 - q6) + 1) u ret X a9 r9 h9 k8 k7) FU 0 q110 e11 ?_
    rcases q110 with q11 | q11
    · replace h := sl h
      exact (Option.some.inj h)
    · replace h := sr h
      show XW K 0 0 5 (QI K g (wdX g) (ret, u)) (wdX g) u 100 [] []
      refine x_iconst (v := 1) X dX0_tableFits_100 (by decide) ?_
      exact x_zret X rfl (roE (Option.some.inj h)) dX0_tableFits_101
  · replace h := if_t c4 h
    refine x_iconst (v := 0) X dX0_tableFits_29 (by decide) ?_
    exact x_zret X rfl (roE (Option.some.inj h)) dX0_tableFits_30
set_option maxRecDepth 100000 in
set_option maxHeartbeats 4000000 in
theorem c_X0_jumpsFit (l : Launch) (D : va_G) (g : Gw) (p0 : Int32) (u : St) (ret : Int32) (h : f_X0_jumpsFit p0 u = some ret) : metI l D g (wdX g) yX0_jumpsFit cX0_jumpsFit 2 .boolean rm_X0_jumpsFit [.ref (g.1 5), .int p0] u (ret, u) := by
  refine metI_of (own := RX0) (lv := [(0, .ref (g.1 5)), (1, .int p0)]) (by decide) rfl rfl (Nat.le_of_ble_eq_true rfl) (fun K hl9 hD9 X => ?_)
  subst hl9
  subst hD9
  unfold f_X0_jumpsFit at h
  refine x_aload_n X dX0_jumpsFit_0 rfl 0 rfl ?_
  refine x_get (v := .ref (g.1 1)) X 5 0 in_X0 rfl rfl (by decide) m_X0_27 rfl dX0_jumpsFit_1 ?_
  refine x_get (v := .ref (g.1 8)) X 1 0 in_X1 rfl rfl (by decide) m_X0_71 rfl dX0_jumpsFit_4 ?_
  refine x_aload_n X dX0_jumpsFit_7 rfl 0 rfl ?_
  refine x_get (v := .int (u 9 0)) X 5 5 in_X0 rfl rfl (by decide) m_X0_48 rfl dX0_jumpsFit_8 ?_
  refine x_iload_n X dX0_jumpsFit_11 rfl 1 rfl ?_
  refine x_iadd X dX0_jumpsFit_12 ?_
  obtain ⟨i1, h⟩ := chk_some h
  refine x_iald (f := (u 22)) X 8 0 rfl rfl i1 dX0_jumpsFit_13 ?_
  by_cases c2_0 : ((u 22) (Int32.toNatClampNeg ((u 9 0) + p0))) = 153 ∨ ((u 22) (Int32.toNatClampNeg ((u 9 0) + p0))) = 167
  · replace h := if_t c2_0 h
    have k9 : XW K 0 0 2 (QI K g (wdX g) (ret, u)) (wdX g) u 48 [(0, .ref (g.1 5)), (1, .int p0)] [] := by
      refine x_aload_n X dX0_jumpsFit_48 rfl 0 rfl ?_
      refine x_iload_n X dX0_jumpsFit_49 rfl 1 rfl ?_
      refine x_aload_n X dX0_jumpsFit_50 rfl 0 rfl ?_
      refine x_get (v := .ref (g.1 1)) X 5 0 in_X0 rfl rfl (by decide) m_X0_27 rfl dX0_jumpsFit_51 ?_
      refine x_aload_n X dX0_jumpsFit_54 rfl 0 rfl ?_
      refine x_get (v := .int (u 9 0)) X 5 5 in_X0 rfl rfl (by decide) m_X0_48 rfl dX0_jumpsFit_55 ?_
      refine x_iload_n X dX0_jumpsFit_58 rfl 1 rfl ?_
      refine x_iadd X dX0_jumpsFit_59 ?_
      refine x_iconst (v := 1) X dX0_jumpsFit_60 (by decide) ?_
      refine x_iadd X dX0_jumpsFit_61 ?_
      obtain ⟨q3, e3, h⟩ := bd h
      refine x_callR X [.int (((u 9 0) + p0) + 1)] [.int p0, .ref (g.1 5)] (c_X1_u2 K.l K.D g (((u 9 0) + p0) + 1) u q3 e3) ok_X1_u2 m_X0_32 1 rfl rfl rfl rfl (Nat.le_of_ble_eq_true rfl) ⟨Nat.zero_le _, Nat.zero_le _⟩ ⟨rfl, rfl, by decide, by decide⟩ dX0_jumpsFit_62 ?_
      refine x_i2s X dX0_jumpsFit_65 ?_
      refine x_iadd X dX0_jumpsFit_66 ?_
      refine x_i2l X dX0_jumpsFit_67 ?_
      obtain ⟨q4, e4, h⟩ := bd h
      refine x_callR X [.long ((p0 + (q3.toInt16.toInt32)).toInt64)] [] (c_X0_isInstruction K.l K.D g ((p0 + (q3.toInt16.toInt32)).toInt64) u q4 e4) ok_X0_isInstruction m_X0_93 5 rfl rfl rfl rfl (Nat.le_of_ble_eq_true rfl) ⟨Nat.zero_le _, Nat.zero_le _⟩ ⟨rfl, rfl, by decide, by decide⟩ dX0_jumpsFit_68 ?_
      obtain ⟨b5, h⟩ := bchk_some h
      exact x_zret X b5 (roE (Option.some.inj h)) dX0_jumpsFit_71
    rcases c2_0 with c2_0 | c2_0 <;> exact x_lookup (off := 34) (tgt := 48) X dX0_jumpsFit_14 (by decide) (by rw [c2_0]; decide) (by decide) k9
  replace h := if_f c2_0 h
  by_cases c2_1 : ((u 22) (Int32.toNatClampNeg ((u 9 0) + p0))) = 170
  · replace h := if_t c2_1 h
    have k9 : XW K 0 0 2 (QI K g (wdX g) (ret, u)) (wdX g) u 72 [(0, .ref (g.1 5)), (1, .int p0)] [] := by
      refine x_aload_n X dX0_jumpsFit_72 rfl 0 rfl ?_
      refine x_iload_n X dX0_jumpsFit_73 rfl 1 rfl ?_
      obtain ⟨q6, e6, h⟩ := bd h
      refine x_callR X [.int p0] [] (c_X0_tableFits K.l K.D g p0 u q6 e6) ok_X0_tableFits m_X0_97 5 rfl rfl rfl rfl (Nat.le_of_ble_eq_true rfl) ⟨Nat.zero_le _, Nat.zero_le _⟩ ⟨rfl, rfl, by decide, by decide⟩ dX0_jumpsFit_74 ?_
      obtain ⟨b7, h⟩ := bchk_some h
      exact x_zret X b7 (roE (Option.some.inj h)) dX0_jumpsFit_77
    exact x_lookup (off := 58) (tgt := 72) X dX0_jumpsFit_14 (by decide) (by rw [c2_1]; decide) (by decide) k9
  replace h := if_f c2_1 h
  refine x_lookup (off := 64) (tgt := 78) X dX0_jumpsFit_14 (by decide) ((lv_osw (fun q9 => c2_0 (.inl q9)) (by decide)).trans ((lv_osw (fun q9 => c2_0 (.inr q9)) (by decide)).trans ((lv_osw c2_1 (by decide)).trans rfl))) (by decide) ?_
  refine x_iconst (v := 1) X dX0_jumpsFit_78 (by decide) ?_
  exact x_zret X rfl (roE (Option.some.inj h)) dX0_jumpsFit_79
abbrev H_X0_judgeJumps_2 (K : Cx) (g : Gw) (ret : Int32 × St) (a : Int32 × St) : Prop := XW K 0 0 2 (QI K g (wdX g) ret) (wdX g) a.2 2 [(0, .ref (g.1 5)), (1, .int a.1)] []
abbrev E_X0_judgeJumps_2 (K : Cx) (g : Gw) (ret : Int32 × St) (q : (Int32 × St) ⊕ (St)) : Prop := Sum.elim (fun q => q = ret) (fun q => XW K 0 0 2 (QI K g (wdX g) ret) (wdX g) q 50 [] []) q
set_option maxRecDepth 100000 in
set_option maxHeartbeats 4000000 in
theorem w_X0_judgeJumps_b2 {K : Cx} {g : Gw} (ret : Int32 × St) (X : XC K g cX0_judgeJumps 2 RX0 (some .boolean) rm_X0_judgeJumps) (a : Int32 × St) (r : ((Int32 × St) ⊕ (St)) ⊕ (Int32 × St)) (h : f_X0_judgeJumps_b2 a = some r) (k0 : ∀ q, r = .inl q → E_X0_judgeJumps_2 K g ret q) (k1 : ∀ q, r = .inr q → H_X0_judgeJumps_2 K g ret q) : H_X0_judgeJumps_2 K g ret a := by
  unfold f_X0_judgeJumps_b2 at h
  show XW K 0 0 2 (QI K g (wdX g) ret) (wdX g) a.2 2 [(0, .ref (g.1 5)), (1, .int a.1)] []
  refine x_iload_n X dX0_judgeJumps_2 rfl 1 rfl ?_
  refine x_aload_n X dX0_judgeJumps_3 rfl 0 rfl ?_
  refine x_get (v := .int (a.2 12 0)) X 5 8 in_X0 rfl rfl (by decide) m_X0_54 rfl dX0_judgeJumps_4 ?_
  refine x_icmp_ge (tgt := 50) X dX0_judgeJumps_7 (by decide) (fun c1 => ?_) (fun c1 => ?_)
  · replace h := if_t c1 h
    refine x_sub [] rfl ?_
    have h9 := k0 _ (Option.some.inj h).symm
    exact h9
  · replace h := if_f c1 h
    refine x_aload_n X dX0_judgeJumps_10 rfl 0 rfl ?_
    refine x_aload_n X dX0_judgeJumps_11 rfl 0 rfl ?_
    refine x_get (v := .ref (g.1 14)) X 5 4 in_X0 rfl rfl (by decide) m_X0_13 rfl dX0_judgeJumps_12 ?_
    refine x_iload_n X dX0_judgeJumps_15 rfl 1 rfl ?_
    obtain ⟨i2, h⟩ := chk_some h
    refine x_iald (f := (a.2 28)) X 14 0 rfl rfl i2 dX0_judgeJumps_16 ?_
    obtain ⟨q3, e3, h⟩ := bd h
    refine x_callR X [.int ((a.2 28) (Int32.toNatClampNeg a.1))] [] (c_X0_jumpsFit K.l K.D g ((a.2 28) (Int32.toNatClampNeg a.1)) a.2 q3 e3) ok_X0_jumpsFit m_X0_68 5 rfl rfl rfl rfl (Nat.le_of_ble_eq_true rfl) ⟨Nat.zero_le _, Nat.zero_le _⟩ ⟨rfl, rfl, by decide, by decide⟩ dX0_judgeJumps_17 ?_
    refine x_if_ne (tgt := 44) X dX0_judgeJumps_20 (by decide) (fun c4 => ?_) (fun c4 => ?_)
    · replace h := if_f c4 h
      refine x_iinc (v := (a.1 + 1)) (lv2 := [(1, .int (a.1 + 1)), (0, .ref (g.1 5))]) X dX0_judgeJumps_44 1 rfl rfl (by decide) rfl ?_
      refine x_goto (tgt := 2) X dX0_judgeJumps_47 (by decide) ?_
      refine x_sub [1, 0] rfl ?_
      have h9 := k1 _ (Option.some.inj h).symm
      exact h9
    · replace h := if_t c4 h
      refine x_aload_n X dX0_judgeJumps_23 rfl 0 rfl ?_
      refine x_get (v := .ref (g.1 3)) X 5 1 in_X0 rfl rfl (by decide) m_X0_17 rfl dX0_judgeJumps_24 ?_
      refine x_bipush (v := 25) X dX0_judgeJumps_27 (by decide) ?_
      refine x_aload_n X dX0_judgeJumps_29 rfl 0 rfl ?_
      refine x_get (v := .int (a.2 9 0)) X 5 5 in_X0 rfl rfl (by decide) m_X0_48 rfl dX0_judgeJumps_30 ?_
      refine x_aload_n X dX0_judgeJumps_33 rfl 0 rfl ?_
      refine x_get (v := .ref (g.1 14)) X 5 4 in_X0 rfl rfl (by decide) m_X0_13 rfl dX0_judgeJumps_34 ?_
      refine x_iload_n X dX0_judgeJumps_37 rfl 1 rfl ?_
      obtain ⟨i5, h⟩ := chk_some h
      refine x_iald (f := (a.2 28)) X 14 0 rfl rfl i5 dX0_judgeJumps_38 ?_
      refine x_iadd X dX0_judgeJumps_39 ?_
      obtain ⟨q6, e6, h⟩ := bd h
      refine x_callI X [.int 25, .int ((a.2 9 0) + ((a.2 28) (Int32.toNatClampNeg a.1)))] [] (c_X5_broken K.l K.D g 25 ((a.2 9 0) + ((a.2 28) (Int32.toNatClampNeg a.1))) a.2 q6 e6) ok_X5_broken m_X0_60 3 rfl rfl rfl rfl (Nat.le_of_ble_eq_true rfl) ⟨Nat.zero_le _, Nat.zero_le _⟩ ⟨rfl, rfl, by decide, by decide⟩ dX0_judgeJumps_40 ?_
      obtain ⟨b7, h⟩ := bchk_some h
      exact x_zret X b7 (k0 _ (Option.some.inj h).symm) dX0_judgeJumps_43
set_option maxRecDepth 100000 in
set_option maxHeartbeats 4000000 in
theorem c_X0_judgeJumps (l : Launch) (D : va_G) (g : Gw) (u : St) (ret : Int32 × St) (h : f_X0_judgeJumps u = some ret) : metI l D g (wdX g) yX0_judgeJumps cX0_judgeJumps 2 .boolean rm_X0_judgeJumps [.ref (g.1 5)] u ret := by
  refine metI_of (own := RX0) (lv := [(0, .ref (g.1 5))]) (by decide) rfl rfl (Nat.le_of_ble_eq_true rfl) (fun K hl9 hD9 X => ?_)
  subst hl9
  subst hD9
  unfold f_X0_judgeJumps at h
  refine x_iconst (v := 0) X dX0_judgeJumps_0 (by decide) ?_
  refine x_istore_n (lv2 := [(1, .int 0), (0, .ref (g.1 5))]) X dX0_judgeJumps_1 rfl (by decide) rfl ?_
  refine x_sub [1, 0] rfl ?_
  obtain ⟨q80, e8, h⟩ := bd h
  refine loopF_w (WH := H_X0_judgeJumps_2 K g ret) (KB := E_X0_judgeJumps_2 K g ret) (fun a9 r9 h9 k8 k7 => w_X0_judgeJumps_b2 ret X a9 r9 h9 k8 k7) FU (0, u) q80 e8 ?_
  rcases q80 with q8 | q8
  · replace h := sl h
    exact (Option.some.inj h)
  · replace h := sr h
    show XW K 0 0 2 (QI K g (wdX g) ret) (wdX g) q8 50 [] []
    refine x_iconst (v := 1) X dX0_judgeJumps_50 (by decide) ?_
    exact x_zret X rfl (Option.some.inj h) dX0_judgeJumps_51
set_option maxRecDepth 100000 in
set_option maxHeartbeats 4000000 in
theorem c_X0_judgeLast (l : Launch) (D : va_G) (g : Gw) (u : St) (ret : Int32 × St) (h : f_X0_judgeLast u = some ret) : metI l D g (wdX g) yX0_judgeLast cX0_judgeLast 2 .boolean rm_X0_judgeLast [.ref (g.1 5)] u ret := by
  refine metI_of (own := RX0) (lv := [(0, .ref (g.1 5))]) (by decide) rfl rfl (Nat.le_of_ble_eq_true rfl) (fun K hl9 hD9 X => ?_)
  subst hl9
  subst hD9
  unfold f_X0_judgeLast at h
  refine x_aload_n X dX0_judgeLast_0 rfl 0 rfl ?_
  refine x_get (v := .ref (g.1 14)) X 5 4 in_X0 rfl rfl (by decide) m_X0_13 rfl dX0_judgeLast_1 ?_
  refine x_aload_n X dX0_judgeLast_4 rfl 0 rfl ?_
  refine x_get (v := .int (u 12 0)) X 5 8 in_X0 rfl rfl (by decide) m_X0_54 rfl dX0_judgeLast_5 ?_
  refine x_iconst (v := 1) X dX0_judgeLast_8 (by decide) ?_
  refine x_isub X dX0_judgeLast_9 ?_
  obtain ⟨i1, h⟩ := chk_some h
  refine x_iald (f := (u 28)) X 14 0 rfl rfl i1 dX0_judgeLast_10 ?_
  refine x_istore_n (lv2 := [(1, .int ((u 28) (Int32.toNatClampNeg ((u 12 0) - 1)))), (0, .ref (g.1 5))]) X dX0_judgeLast_11 rfl (by decide) rfl ?_
  refine x_aload_n X dX0_judgeLast_12 rfl 1 rfl ?_
  refine x_get (v := .ref (g.1 1)) X 5 0 in_X0 rfl rfl (by decide) m_X0_27 rfl dX0_judgeLast_13 ?_
  refine x_get (v := .ref (g.1 8)) X 1 0 in_X1 rfl rfl (by decide) m_X0_71 rfl dX0_judgeLast_16 ?_
  refine x_aload_n X dX0_judgeLast_19 rfl 1 rfl ?_
  refine x_get (v := .int (u 9 0)) X 5 5 in_X0 rfl rfl (by decide) m_X0_48 rfl dX0_judgeLast_20 ?_
  refine x_iload_n X dX0_judgeLast_23 rfl 0 rfl ?_
  refine x_iadd X dX0_judgeLast_24 ?_
  obtain ⟨i2, h⟩ := chk_some h
  refine x_iald (f := (u 22)) X 8 0 rfl rfl i2 dX0_judgeLast_25 ?_
  by_cases c3_0 : ((u 22) (Int32.toNatClampNeg ((u 9 0) + ((u 28) (Int32.toNatClampNeg ((u 12 0) - 1)))))) = 167 ∨ ((u 22) (Int32.toNatClampNeg ((u 9 0) + ((u 28) (Int32.toNatClampNeg ((u 12 0) - 1)))))) = 170 ∨ ((u 22) (Int32.toNatClampNeg ((u 9 0) + ((u 28) (Int32.toNatClampNeg ((u 12 0) - 1)))))) = 172 ∨ ((u 22) (Int32.toNatClampNeg ((u 9 0) + ((u 28) (Int32.toNatClampNeg ((u 12 0) - 1)))))) = 177 ∨ ((u 22) (Int32.toNatClampNeg ((u 9 0) + ((u 28) (Int32.toNatClampNeg ((u 12 0) - 1)))))) = 191
  · replace h := if_t c3_0 h
    have k9 : XW K 0 0 2 (QI K g (wdX g) ret) (wdX g) u 76 [(1, .int ((u 28) (Int32.toNatClampNeg ((u 12 0) - 1)))), (0, .ref (g.1 5))] [] := by
      refine x_iconst (v := 1) X dX0_judgeLast_76 (by decide) ?_
      exact x_zret X rfl (Option.some.inj h) dX0_judgeLast_77
    rcases c3_0 with c3_0 | c3_0 | c3_0 | c3_0 | c3_0 <;> exact x_lookup (off := 50) (tgt := 76) X dX0_judgeLast_26 (by decide) (by rw [c3_0]; decide) (by decide) k9
  replace h := if_f c3_0 h
  refine x_lookup (off := 52) (tgt := 78) X dX0_judgeLast_26 (by decide) ((lv_osw (fun q9 => c3_0 (.inl q9)) (by decide)).trans ((lv_osw (fun q9 => c3_0 (.inr (.inl q9))) (by decide)).trans ((lv_osw (fun q9 => c3_0 (.inr (.inr (.inl q9)))) (by decide)).trans ((lv_osw (fun q9 => c3_0 (.inr (.inr (.inr (.inl q9))))) (by decide)).trans ((lv_osw (fun q9 => c3_0 (.inr (.inr (.inr (.inr q9))))) (by decide)).trans rfl))))) (by decide) ?_
  refine x_aload_n X dX0_judgeLast_78 rfl 1 rfl ?_
  refine x_get (v := .ref (g.1 3)) X 5 1 in_X0 rfl rfl (by decide) m_X0_17 rfl dX0_judgeLast_79 ?_
  refine x_bipush (v := 26) X dX0_judgeLast_82 (by decide) ?_
  refine x_aload_n X dX0_judgeLast_84 rfl 1 rfl ?_
  refine x_get (v := .int (u 9 0)) X 5 5 in_X0 rfl rfl (by decide) m_X0_48 rfl dX0_judgeLast_85 ?_
  refine x_iload_n X dX0_judgeLast_88 rfl 0 rfl ?_
  refine x_iadd X dX0_judgeLast_89 ?_
  obtain ⟨q4, e4, h⟩ := bd h
  refine x_callI X [.int 26, .int ((u 9 0) + ((u 28) (Int32.toNatClampNeg ((u 12 0) - 1))))] [] (c_X5_broken K.l K.D g 26 ((u 9 0) + ((u 28) (Int32.toNatClampNeg ((u 12 0) - 1)))) u q4 e4) ok_X5_broken m_X0_60 3 rfl rfl rfl rfl (Nat.le_of_ble_eq_true rfl) ⟨Nat.zero_le _, Nat.zero_le _⟩ ⟨rfl, rfl, by decide, by decide⟩ dX0_judgeLast_90 ?_
  obtain ⟨b5, h⟩ := bchk_some h
  exact x_zret X b5 (Option.some.inj h) dX0_judgeLast_93
set_option maxRecDepth 100000 in
set_option maxHeartbeats 4000000 in
theorem w_X0_handlerFits_j106 {K : Cx} {g : Gw} (ret : Int32) (X : XC K g cX0_handlerFits 5 RX0 (some .boolean) rm_X0_handlerFits) (z0 : Int32) (u : St) (h : f_X0_handlerFits_j106 z0 u = some ret) : XW K 0 0 5 (QI K g (wdX g) (ret, u)) (wdX g) u 106 [] [.int z0] := by
  unfold f_X0_handlerFits_j106 at h
  obtain ⟨b6, h⟩ := bchk_some h
  exact x_zret X b6 (roE (Option.some.inj h)) dX0_handlerFits_106
set_option maxRecDepth 100000 in
set_option maxHeartbeats 4000000 in
theorem w_X0_handlerFits_j105 {K : Cx} {g : Gw} (ret : Int32) (X : XC K g cX0_handlerFits 5 RX0 (some .boolean) rm_X0_handlerFits) (u : St) (h : f_X0_handlerFits_j105 u = some ret) : XW K 0 0 5 (QI K g (wdX g) (ret, u)) (wdX g) u 105 [] [] := by
  unfold f_X0_handlerFits_j105 at h
  refine x_iconst (v := 0) X dX0_handlerFits_105 (by decide) ?_
  exact w_X0_handlerFits_j106 ret X 0 u h
set_option maxRecDepth 100000 in
set_option maxHeartbeats 4000000 in
theorem w_X0_handlerFits_j101 {K : Cx} {g : Gw} (ret : Int32) (X : XC K g cX0_handlerFits 5 RX0 (some .boolean) rm_X0_handlerFits) (u : St) (h : f_X0_handlerFits_j101 u = some ret) : XW K 0 0 5 (QI K g (wdX g) (ret, u)) (wdX g) u 101 [] [] := by
  unfold f_X0_handlerFits_j101 at h
  refine x_iconst (v := 1) X dX0_handlerFits_101 (by decide) ?_
  refine x_goto (tgt := 106) X dX0_handlerFits_102 (by decide) ?_
  exact w_X0_handlerFits_j106 ret X 1 u h
set_option maxRecDepth 100000 in
set_option maxHeartbeats 4000000 in
theorem w_X0_handlerFits_j59 {K : Cx} {g : Gw} (ret : Int32) (X : XC K g cX0_handlerFits 5 RX0 (some .boolean) rm_X0_handlerFits) (x1 : Int32) (x2 : Int32) (x3 : Int32) (x4 : Int32) (u : St) (h : f_X0_handlerFits_j59 x1 x2 x3 x4 u = some ret) : XW K 0 0 5 (QI K g (wdX g) (ret, u)) (wdX g) u 59 [(0, .ref (g.1 5)), (1, .int x1), (2, .int x2), (3, .int x3), (4, .int x4)] [] := by
  unfold f_X0_handlerFits_j59 at h
  refine x_aload_n X dX0_handlerFits_59 rfl 0 rfl ?_
  refine x_aload_n X dX0_handlerFits_60 rfl 0 rfl ?_
  refine x_get (v := .ref (g.1 1)) X 5 0 in_X0 rfl rfl (by decide) m_X0_27 rfl dX0_handlerFits_61 ?_
  refine x_iload_n X dX0_handlerFits_64 rfl 1 rfl ?_
  refine x_iconst (v := 4) X dX0_handlerFits_65 (by decide) ?_
  refine x_iadd X dX0_handlerFits_66 ?_
  obtain ⟨q8, e8, h⟩ := bd h
  refine x_callR X [.int (x1 + 4)] [.ref (g.1 5)] (c_X1_u2 K.l K.D g (x1 + 4) u q8 e8) ok_X1_u2 m_X0_32 1 rfl rfl rfl rfl (Nat.le_of_ble_eq_true rfl) ⟨Nat.zero_le _, Nat.zero_le _⟩ ⟨rfl, rfl, by decide, by decide⟩ dX0_handlerFits_67 ?_
  refine x_i2l X dX0_handlerFits_70 ?_
  obtain ⟨q9, e9, h⟩ := bd h
  refine x_callR X [.long (q8.toInt64)] [] (c_X0_isInstruction K.l K.D g (q8.toInt64) u q9 e9) ok_X0_isInstruction m_X0_93 5 rfl rfl rfl rfl (Nat.le_of_ble_eq_true rfl) ⟨Nat.zero_le _, Nat.zero_le _⟩ ⟨rfl, rfl, by decide, by decide⟩ dX0_handlerFits_71 ?_
  refine x_if_eq (tgt := 105) X dX0_handlerFits_74 (by decide) (fun c10 => ?_) (fun c10 => ?_)
  · replace h := if_t c10 h
    refine x_sub [] rfl ?_
    exact w_X0_handlerFits_j105 ret X u h
  · replace h := if_f c10 h
    refine x_iload_n X dX0_handlerFits_77 rfl 2 rfl ?_
    refine x_iload_n X dX0_handlerFits_78 rfl 3 rfl ?_
    refine x_icmp_ge (tgt := 105) X dX0_handlerFits_79 (by decide) (fun c11 => ?_) (fun c11 => ?_)
    · replace h := if_t c11 h
      refine x_sub [] rfl ?_
      exact w_X0_handlerFits_j105 ret X u h
    · replace h := if_f c11 h
      refine x_iload X dX0_handlerFits_82 4 rfl ?_
      refine x_if_eq (tgt := 101) X dX0_handlerFits_84 (by decide) (fun c12 => ?_) (fun c12 => ?_)
      · replace h := if_t c12 h
        refine x_sub [] rfl ?_
        exact w_X0_handlerFits_j101 ret X u h
      · replace h := if_f c12 h
        refine x_aload_n X dX0_handlerFits_87 rfl 0 rfl ?_
        refine x_get (v := .ref (g.1 4)) X 5 2 in_X0 rfl rfl (by decide) m_X0_28 rfl dX0_handlerFits_88 ?_
        refine x_iload X dX0_handlerFits_91 4 rfl ?_
        obtain ⟨q13, e13, h⟩ := bd h
        refine x_callR X [.int x4] [] (c_X4_kindOf K.l K.D g x4 u q13 e13) ok_X4_kindOf m_X0_88 4 rfl rfl rfl rfl (Nat.le_of_ble_eq_true rfl) ⟨Nat.zero_le _, Nat.zero_le _⟩ ⟨rfl, rfl, by decide, by decide⟩ dX0_handlerFits_93 ?_
        refine x_bipush (v := 7) X dX0_handlerFits_96 (by decide) ?_
        refine x_icmp_ne (tgt := 105) X dX0_handlerFits_98 (by decide) (fun c14 => ?_) (fun c14 => ?_)
        · replace h := if_f c14 h
          refine x_sub [] rfl ?_
          exact w_X0_handlerFits_j105 ret X u h
        · replace h := if_t c14 h
          refine x_sub [] rfl ?_
          exact w_X0_handlerFits_j101 ret X u h
set_option maxRecDepth 100000 in
set_option maxHeartbeats 4000000 in
theorem c_X0_handlerFits (l : Launch) (D : va_G) (g : Gw) (p0 : Int32) (u : St) (ret : Int32) (h : f_X0_handlerFits p0 u = some ret) : metI l D g (wdX g) yX0_handlerFits cX0_handlerFits 5 .boolean rm_X0_handlerFits [.ref (g.1 5), .int p0] u (ret, u) := by
  refine metI_of (own := RX0) (lv := [(0, .ref (g.1 5)), (1, .int p0)]) (by decide) rfl rfl (Nat.le_of_ble_eq_true rfl) (fun K hl9 hD9 X => ?_)
  subst hl9
  subst hD9
  unfold f_X0_handlerFits at h
  refine x_aload_n X dX0_handlerFits_0 rfl 0 rfl ?_
  refine x_get (v := .ref (g.1 1)) X 5 0 in_X0 rfl rfl (by decide) m_X0_27 rfl dX0_handlerFits_1 ?_
  refine x_iload_n X dX0_handlerFits_4 rfl 1 rfl ?_
  obtain ⟨q1, e1, h⟩ := bd h
  refine x_callR X [.int p0] [] (c_X1_u2 K.l K.D g p0 u q1 e1) ok_X1_u2 m_X0_32 1 rfl rfl rfl rfl (Nat.le_of_ble_eq_true rfl) ⟨Nat.zero_le _, Nat.zero_le _⟩ ⟨rfl, rfl, by decide, by decide⟩ dX0_handlerFits_5 ?_
  refine x_istore_n (lv2 := [(2, .int q1), (0, .ref (g.1 5)), (1, .int p0)]) X dX0_handlerFits_8 rfl (by decide) rfl ?_
  refine x_aload_n X dX0_handlerFits_9 rfl 1 rfl ?_
  refine x_get (v := .ref (g.1 1)) X 5 0 in_X0 rfl rfl (by decide) m_X0_27 rfl dX0_handlerFits_10 ?_
  refine x_iload_n X dX0_handlerFits_13 rfl 2 rfl ?_
  refine x_iconst (v := 2) X dX0_handlerFits_14 (by decide) ?_
  refine x_iadd X dX0_handlerFits_15 ?_
  obtain ⟨q2, e2, h⟩ := bd h
  refine x_callR X [.int (p0 + 2)] [] (c_X1_u2 K.l K.D g (p0 + 2) u q2 e2) ok_X1_u2 m_X0_32 1 rfl rfl rfl rfl (Nat.le_of_ble_eq_true rfl) ⟨Nat.zero_le _, Nat.zero_le _⟩ ⟨rfl, rfl, by decide, by decide⟩ dX0_handlerFits_16 ?_
  refine x_istore_n (lv2 := [(3, .int q2), (2, .int q1), (0, .ref (g.1 5)), (1, .int p0)]) X dX0_handlerFits_19 rfl (by decide) rfl ?_
  refine x_aload_n X dX0_handlerFits_20 rfl 2 rfl ?_
  refine x_get (v := .ref (g.1 1)) X 5 0 in_X0 rfl rfl (by decide) m_X0_27 rfl dX0_handlerFits_21 ?_
  refine x_iload_n X dX0_handlerFits_24 rfl 3 rfl ?_
  refine x_bipush (v := 6) X dX0_handlerFits_25 (by decide) ?_
  refine x_iadd X dX0_handlerFits_27 ?_
  obtain ⟨q3, e3, h⟩ := bd h
  refine x_callR X [.int (p0 + 6)] [] (c_X1_u2 K.l K.D g (p0 + 6) u q3 e3) ok_X1_u2 m_X0_32 1 rfl rfl rfl rfl (Nat.le_of_ble_eq_true rfl) ⟨Nat.zero_le _, Nat.zero_le _⟩ ⟨rfl, rfl, by decide, by decide⟩ dX0_handlerFits_28 ?_
  refine x_istore (lv2 := [(4, .int q3), (3, .int q2), (2, .int q1), (0, .ref (g.1 5)), (1, .int p0)]) X dX0_handlerFits_31 (by decide) rfl ?_
  refine x_aload_n X dX0_handlerFits_33 rfl 3 rfl ?_
  refine x_iload_n X dX0_handlerFits_34 rfl 2 rfl ?_
  refine x_i2l X dX0_handlerFits_35 ?_
  obtain ⟨q4, e4, h⟩ := bd h
  refine x_callR X [.long (q1.toInt64)] [] (c_X0_isInstruction K.l K.D g (q1.toInt64) u q4 e4) ok_X0_isInstruction m_X0_93 5 rfl rfl rfl rfl (Nat.le_of_ble_eq_true rfl) ⟨Nat.zero_le _, Nat.zero_le _⟩ ⟨rfl, rfl, by decide, by decide⟩ dX0_handlerFits_36 ?_
  refine x_if_eq (tgt := 105) X dX0_handlerFits_39 (by decide) (fun c5 => ?_) (fun c5 => ?_)
  · replace h := if_t c5 h
    refine x_sub [] rfl ?_
    exact w_X0_handlerFits_j105 ret X u h
  · replace h := if_f c5 h
    refine x_iload_n X dX0_handlerFits_42 rfl 1 rfl ?_
    refine x_aload_n X dX0_handlerFits_43 rfl 3 rfl ?_
    refine x_get (v := .int (u 10 0)) X 5 6 in_X0 rfl rfl (by decide) m_X0_45 rfl dX0_handlerFits_44 ?_
    refine x_icmp_eq (tgt := 59) X dX0_handlerFits_47 (by decide) (fun c7 => ?_) (fun c7 => ?_)
    · replace h := if_t c7 h
      refine x_sub [3, 4, 2, 1, 0] rfl ?_
      exact w_X0_handlerFits_j59 ret X p0 q1 q2 q3 u h
    · replace h := if_f c7 h
      refine x_aload_n X dX0_handlerFits_50 rfl 3 rfl ?_
      refine x_iload_n X dX0_handlerFits_51 rfl 1 rfl ?_
      refine x_i2l X dX0_handlerFits_52 ?_
      obtain ⟨q15, e15, h⟩ := bd h
      refine x_callR X [.long (q2.toInt64)] [] (c_X0_isInstruction K.l K.D g (q2.toInt64) u q15 e15) ok_X0_isInstruction m_X0_93 5 rfl rfl rfl rfl (Nat.le_of_ble_eq_true rfl) ⟨Nat.zero_le _, Nat.zero_le _⟩ ⟨rfl, rfl, by decide, by decide⟩ dX0_handlerFits_53 ?_
      refine x_if_eq (tgt := 105) X dX0_handlerFits_56 (by decide) (fun c16 => ?_) (fun c16 => ?_)
      · replace h := if_t c16 h
        refine x_sub [] rfl ?_
        exact w_X0_handlerFits_j105 ret X u h
      · replace h := if_f c16 h
        refine x_sub [3, 4, 2, 1, 0] rfl ?_
        exact w_X0_handlerFits_j59 ret X p0 q1 q2 q3 u h
abbrev H_X0_judgeHandlers_2 (K : Cx) (g : Gw) (ret : Int32 × St) (a : Int32 × St) : Prop := XW K 0 0 3 (QI K g (wdX g) ret) (wdX g) a.2 2 [(0, .ref (g.1 5)), (1, .int a.1)] []
abbrev E_X0_judgeHandlers_2 (K : Cx) (g : Gw) (ret : Int32 × St) (q : (Int32 × St) ⊕ (St)) : Prop := Sum.elim (fun q => q = ret) (fun q => XW K 0 0 3 (QI K g (wdX g) ret) (wdX g) q 52 [] []) q
set_option maxRecDepth 100000 in
set_option maxHeartbeats 4000000 in
theorem w_X0_judgeHandlers_b2 {K : Cx} {g : Gw} (ret : Int32 × St) (X : XC K g cX0_judgeHandlers 3 RX0 (some .boolean) rm_X0_judgeHandlers) (a : Int32 × St) (r : ((Int32 × St) ⊕ (St)) ⊕ (Int32 × St)) (h : f_X0_judgeHandlers_b2 a = some r) (k0 : ∀ q, r = .inl q → E_X0_judgeHandlers_2 K g ret q) (k1 : ∀ q, r = .inr q → H_X0_judgeHandlers_2 K g ret q) : H_X0_judgeHandlers_2 K g ret a := by
  unfold f_X0_judgeHandlers_b2 at h
  show XW K 0 0 3 (QI K g (wdX g) ret) (wdX g) a.2 2 [(0, .ref (g.1 5)), (1, .int a.1)] []
  refine x_iload_n X dX0_judgeHandlers_2 rfl 1 rfl ?_
  refine x_aload_n X dX0_judgeHandlers_3 rfl 0 rfl ?_
  refine x_get (v := .int (a.2 13 0)) X 5 9 in_X0 rfl rfl (by decide) m_X0_51 rfl dX0_judgeHandlers_4 ?_
  refine x_icmp_ge (tgt := 52) X dX0_judgeHandlers_7 (by decide) (fun c1 => ?_) (fun c1 => ?_)
  · replace h := if_t c1 h
    refine x_sub [] rfl ?_
    have h9 := k0 _ (Option.some.inj h).symm
    exact h9
  · replace h := if_f c1 h
    refine x_aload_n X dX0_judgeHandlers_10 rfl 0 rfl ?_
    refine x_get (v := .int (a.2 9 0)) X 5 5 in_X0 rfl rfl (by decide) m_X0_48 rfl dX0_judgeHandlers_11 ?_
    refine x_aload_n X dX0_judgeHandlers_14 rfl 0 rfl ?_
    refine x_get (v := .int (a.2 10 0)) X 5 6 in_X0 rfl rfl (by decide) m_X0_45 rfl dX0_judgeHandlers_15 ?_
    refine x_iadd X dX0_judgeHandlers_18 ?_
    refine x_iconst (v := 2) X dX0_judgeHandlers_19 (by decide) ?_
    refine x_iadd X dX0_judgeHandlers_20 ?_
    refine x_iload_n X dX0_judgeHandlers_21 rfl 1 rfl ?_
    refine x_bipush (v := 8) X dX0_judgeHandlers_22 (by decide) ?_
    refine x_imul X dX0_judgeHandlers_24 ?_
    refine x_iadd X dX0_judgeHandlers_25 ?_
    refine x_istore_n (lv2 := [(2, .int ((((a.2 9 0) + (a.2 10 0)) + 2) + (a.1 * 8))), (0, .ref (g.1 5)), (1, .int a.1)]) X dX0_judgeHandlers_26 rfl (by decide) rfl ?_
    refine x_aload_n X dX0_judgeHandlers_27 rfl 1 rfl ?_
    refine x_iload_n X dX0_judgeHandlers_28 rfl 0 rfl ?_
    obtain ⟨q2, e2, h⟩ := bd h
    refine x_callR X [.int ((((a.2 9 0) + (a.2 10 0)) + 2) + (a.1 * 8))] [] (c_X0_handlerFits K.l K.D g ((((a.2 9 0) + (a.2 10 0)) + 2) + (a.1 * 8)) a.2 q2 e2) ok_X0_handlerFits m_X0_74 5 rfl rfl rfl rfl (Nat.le_of_ble_eq_true rfl) ⟨Nat.zero_le _, Nat.zero_le _⟩ ⟨rfl, rfl, by decide, by decide⟩ dX0_judgeHandlers_29 ?_
    refine x_if_ne (tgt := 46) X dX0_judgeHandlers_32 (by decide) (fun c3 => ?_) (fun c3 => ?_)
    · replace h := if_f c3 h
      refine x_iinc (v := (a.1 + 1)) (lv2 := [(1, .int (a.1 + 1)), (2, .int ((((a.2 9 0) + (a.2 10 0)) + 2) + (a.1 * 8))), (0, .ref (g.1 5))]) X dX0_judgeHandlers_46 2 rfl rfl (by decide) rfl ?_
      refine x_goto (tgt := 2) X dX0_judgeHandlers_49 (by decide) ?_
      refine x_sub [2, 0] rfl ?_
      have h9 := k1 _ (Option.some.inj h).symm
      exact h9
    · replace h := if_t c3 h
      refine x_aload_n X dX0_judgeHandlers_35 rfl 1 rfl ?_
      refine x_get (v := .ref (g.1 3)) X 5 1 in_X0 rfl rfl (by decide) m_X0_17 rfl dX0_judgeHandlers_36 ?_
      refine x_bipush (v := 27) X dX0_judgeHandlers_39 (by decide) ?_
      refine x_iload_n X dX0_judgeHandlers_41 rfl 0 rfl ?_
      obtain ⟨q4, e4, h⟩ := bd h
      refine x_callI X [.int 27, .int ((((a.2 9 0) + (a.2 10 0)) + 2) + (a.1 * 8))] [] (c_X5_broken K.l K.D g 27 ((((a.2 9 0) + (a.2 10 0)) + 2) + (a.1 * 8)) a.2 q4 e4) ok_X5_broken m_X0_60 3 rfl rfl rfl rfl (Nat.le_of_ble_eq_true rfl) ⟨Nat.zero_le _, Nat.zero_le _⟩ ⟨rfl, rfl, by decide, by decide⟩ dX0_judgeHandlers_42 ?_
      obtain ⟨b5, h⟩ := bchk_some h
      exact x_zret X b5 (k0 _ (Option.some.inj h).symm) dX0_judgeHandlers_45
set_option maxRecDepth 100000 in
set_option maxHeartbeats 4000000 in
theorem c_X0_judgeHandlers (l : Launch) (D : va_G) (g : Gw) (u : St) (ret : Int32 × St) (h : f_X0_judgeHandlers u = some ret) : metI l D g (wdX g) yX0_judgeHandlers cX0_judgeHandlers 3 .boolean rm_X0_judgeHandlers [.ref (g.1 5)] u ret := by
  refine metI_of (own := RX0) (lv := [(0, .ref (g.1 5))]) (by decide) rfl rfl (Nat.le_of_ble_eq_true rfl) (fun K hl9 hD9 X => ?_)
  subst hl9
  subst hD9
  unfold f_X0_judgeHandlers at h
  refine x_iconst (v := 0) X dX0_judgeHandlers_0 (by decide) ?_
  refine x_istore_n (lv2 := [(1, .int 0), (0, .ref (g.1 5))]) X dX0_judgeHandlers_1 rfl (by decide) rfl ?_
  refine x_sub [1, 0] rfl ?_
  obtain ⟨q60, e6, h⟩ := bd h
  refine loopF_w (WH := H_X0_judgeHandlers_2 K g ret) (KB := E_X0_judgeHandlers_2 K g ret) (fun a9 r9 h9 k8 k7 => w_X0_judgeHandlers_b2 ret X a9 r9 h9 k8 k7) FU (0, u) q60 e6 ?_
  rcases q60 with q6 | q6
  · replace h := sl h
    exact (Option.some.inj h)
  · replace h := sr h
    show XW K 0 0 3 (QI K g (wdX g) ret) (wdX g) q6 52 [] []
    refine x_iconst (v := 1) X dX0_judgeHandlers_52 (by decide) ?_
    exact x_zret X rfl (Option.some.inj h) dX0_judgeHandlers_53
