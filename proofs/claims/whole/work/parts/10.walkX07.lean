set_option maxRecDepth 100000 in
set_option maxHeartbeats 4000000 in
theorem w_X3_isFieldType_j15 {K : Cx} {g : Gw} (ret : Int32) (X : XC K g cX3_isFieldType 3 RX3 (some .boolean) rm_X3_isFieldType) (z0 : Int32) (u : St) (h : f_X3_isFieldType_j15 z0 u = some ret) : XW K 0 0 3 (QI K g (wdX g) (ret, u)) (wdX g) u 15 [] [.int z0] := by
  unfold f_X3_isFieldType_j15 at h
  obtain ⟨b3, h⟩ := bchk_some h
  exact x_zret X b3 (roE (Option.some.inj h)) dX3_isFieldType_15
set_option maxRecDepth 100000 in
set_option maxHeartbeats 4000000 in
theorem c_X3_isFieldType (l : Launch) (D : va_G) (g : Gw) (p1 : Int32) (p2 : Int32) (u : St) (ret : Int32) (h : f_X3_isFieldType p1 p2 u = some ret) : metI l D g (wdX g) yX3_isFieldType cX3_isFieldType 3 .boolean rm_X3_isFieldType [.ref (g.1 8), .int p1, .int p2] u (ret, u) := by
  refine metI_of (own := RX3) (lv := [(0, .ref (g.1 8)), (1, .int p1), (2, .int p2)]) (by decide) rfl rfl (Nat.le_of_ble_eq_true rfl) (fun K hl9 hD9 X => ?_)
  subst hl9
  subst hD9
  unfold f_X3_isFieldType at h
  refine x_aload_n X dX3_isFieldType_0 rfl 0 rfl ?_
  refine x_iload_n X dX3_isFieldType_1 rfl 1 rfl ?_
  refine x_iload_n X dX3_isFieldType_2 rfl 2 rfl ?_
  obtain ⟨q1, e1, h⟩ := bd h
  refine x_scallR X [.ref (g.1 8), .int p1, .int p2] [] (c_X3_fieldTypeEnd K.l K.D g p1 p2 u q1 e1) ok_X3_fieldTypeEnd m_X3_20 rfl rfl (Nat.le_of_ble_eq_true rfl) ⟨Nat.zero_le _, Nat.zero_le _⟩ ⟨rfl, rfl, by decide, by decide⟩ dX3_isFieldType_3 ?_
  refine x_iload_n X dX3_isFieldType_6 rfl 2 rfl ?_
  refine x_icmp_ne (tgt := 14) X dX3_isFieldType_7 (by decide) (fun c2 => ?_) (fun c2 => ?_)
  · replace h := if_f c2 h
    refine x_iconst (v := 0) X dX3_isFieldType_14 (by decide) ?_
    refine x_sub [] rfl ?_
    exact w_X3_isFieldType_j15 ret X 0 u h
  · replace h := if_t c2 h
    refine x_iconst (v := 1) X dX3_isFieldType_10 (by decide) ?_
    refine x_goto (tgt := 15) X dX3_isFieldType_11 (by decide) ?_
    refine x_sub [] rfl ?_
    exact w_X3_isFieldType_j15 ret X 1 u h
set_option maxRecDepth 100000 in
set_option maxHeartbeats 4000000 in
theorem w_X4_isFieldType_j37 {K : Cx} {g : Gw} (ret : Int32) (X : XC K g cX4_isFieldType 2 RX4 (some .boolean) rm_X4_isFieldType) (z0 : Int32) (u : St) (h : f_X4_isFieldType_j37 z0 u = some ret) : XW K 0 0 2 (QI K g (wdX g) (ret, u)) (wdX g) u 37 [] [.int z0] := by
  unfold f_X4_isFieldType_j37 at h
  obtain ⟨b3, h⟩ := bchk_some h
  exact x_zret X b3 (roE (Option.some.inj h)) dX4_isFieldType_37
set_option maxRecDepth 100000 in
set_option maxHeartbeats 4000000 in
theorem w_X4_isFieldType_j36 {K : Cx} {g : Gw} (ret : Int32) (X : XC K g cX4_isFieldType 2 RX4 (some .boolean) rm_X4_isFieldType) (u : St) (h : f_X4_isFieldType_j36 u = some ret) : XW K 0 0 2 (QI K g (wdX g) (ret, u)) (wdX g) u 36 [] [] := by
  unfold f_X4_isFieldType_j36 at h
  refine x_iconst (v := 0) X dX4_isFieldType_36 (by decide) ?_
  exact w_X4_isFieldType_j37 ret X 0 u h
set_option maxRecDepth 100000 in
set_option maxHeartbeats 4000000 in
theorem c_X4_isFieldType (l : Launch) (D : va_G) (g : Gw) (p0 : Int32) (u : St) (ret : Int32) (h : f_X4_isFieldType p0 u = some ret) : metI l D g (wdX g) yX4_isFieldType cX4_isFieldType 2 .boolean rm_X4_isFieldType [.ref (g.1 4), .int p0] u (ret, u) := by
  refine metI_of (own := RX4) (lv := [(0, .ref (g.1 4)), (1, .int p0)]) (by decide) rfl rfl (Nat.le_of_ble_eq_true rfl) (fun K hl9 hD9 X => ?_)
  subst hl9
  subst hD9
  unfold f_X4_isFieldType at h
  refine x_aload_n X dX4_isFieldType_0 rfl 0 rfl ?_
  refine x_iload_n X dX4_isFieldType_1 rfl 1 rfl ?_
  obtain ⟨q1, e1, h⟩ := bd h
  refine x_callR X [.int p0] [] (c_X4_kindOf K.l K.D g p0 u q1 e1) ok_X4_kindOf m_X4_77 4 rfl rfl rfl rfl (Nat.le_of_ble_eq_true rfl) ⟨Nat.zero_le _, Nat.zero_le _⟩ ⟨rfl, rfl, by decide, by decide⟩ dX4_isFieldType_2 ?_
  refine x_iconst (v := 1) X dX4_isFieldType_5 (by decide) ?_
  refine x_icmp_ne (tgt := 36) X dX4_isFieldType_6 (by decide) (fun c2 => ?_) (fun c2 => ?_)
  · replace h := if_f c2 h
    refine x_sub [] rfl ?_
    exact w_X4_isFieldType_j36 ret X u h
  · replace h := if_t c2 h
    refine x_aload_n X dX4_isFieldType_9 rfl 0 rfl ?_
    refine x_get (v := .ref (g.1 1)) X 4 0 in_X4 rfl rfl (by decide) m_X4_30 rfl dX4_isFieldType_10 ?_
    refine x_get (v := .ref (g.1 8)) X 1 0 in_X1 rfl rfl (by decide) m_X4_53 rfl dX4_isFieldType_13 ?_
    refine x_aload_n X dX4_isFieldType_16 rfl 0 rfl ?_
    refine x_iload_n X dX4_isFieldType_17 rfl 1 rfl ?_
    obtain ⟨q4, e4, h⟩ := bd h
    refine x_callR X [.int p0] [.ref (g.1 8)] (c_X4_textStart K.l K.D g p0 u q4 e4) ok_X4_textStart m_X4_86 4 rfl rfl rfl rfl (Nat.le_of_ble_eq_true rfl) ⟨Nat.zero_le _, Nat.zero_le _⟩ ⟨rfl, rfl, by decide, by decide⟩ dX4_isFieldType_18 ?_
    refine x_aload_n X dX4_isFieldType_21 rfl 0 rfl ?_
    refine x_iload_n X dX4_isFieldType_22 rfl 1 rfl ?_
    obtain ⟨q5, e5, h⟩ := bd h
    refine x_callR X [.int p0] [.int q4, .ref (g.1 8)] (c_X4_textEnd K.l K.D g p0 u q5 e5) ok_X4_textEnd m_X4_89 4 rfl rfl rfl rfl (Nat.le_of_ble_eq_true rfl) ⟨Nat.zero_le _, Nat.zero_le _⟩ ⟨rfl, rfl, by decide, by decide⟩ dX4_isFieldType_23 ?_
    obtain ⟨q6, e6, h⟩ := bd h
    refine x_scallR X [.ref (g.1 8), .int q4, .int q5] [] (c_X3_isFieldType K.l K.D g q4 q5 u q6 e6) ok_X3_isFieldType m_X4_107 rfl rfl (Nat.le_of_ble_eq_true rfl) ⟨Nat.zero_le _, Nat.zero_le _⟩ ⟨rfl, rfl, by decide, by decide⟩ dX4_isFieldType_26 ?_
    refine x_if_eq (tgt := 36) X dX4_isFieldType_29 (by decide) (fun c7 => ?_) (fun c7 => ?_)
    · replace h := if_t c7 h
      refine x_sub [] rfl ?_
      exact w_X4_isFieldType_j36 ret X u h
    · replace h := if_f c7 h
      refine x_iconst (v := 1) X dX4_isFieldType_32 (by decide) ?_
      refine x_goto (tgt := 37) X dX4_isFieldType_33 (by decide) ?_
      refine x_sub [] rfl ?_
      exact w_X4_isFieldType_j37 ret X 1 u h
abbrev H_X4_sameTexts_20 (x1 : Int32) (x2 : Int32) (x3 : Int32) (K : Cx) (g : Gw) (u : St) (ret : Int32) (a : Int32) : Prop := XW K 0 0 5 (QI K g (wdX g) (ret, u)) (wdX g) u 20 [(0, .ref (g.1 4)), (1, .int x1), (2, .int x2), (3, .int x3), (4, .int a)] []
abbrev E_X4_sameTexts_20 (x1 : Int32) (x2 : Int32) (x3 : Int32) (K : Cx) (g : Gw) (u : St) (ret : Int32) (q : (Int32) ⊕ (Unit)) : Prop := Sum.elim (fun q => q = ret) (fun q => XW K 0 0 5 (QI K g (wdX g) (ret, u)) (wdX g) u 69 [] []) q
set_option maxRecDepth 100000 in
set_option maxHeartbeats 4000000 in
theorem w_X4_sameTexts_b20 {K : Cx} {g : Gw} (x1 : Int32) (x2 : Int32) (x3 : Int32) (u : St) (ret : Int32) (X : XC K g cX4_sameTexts 5 RX4 (some .boolean) rm_X4_sameTexts) (a : Int32) (r : ((Int32) ⊕ (Unit)) ⊕ (Int32)) (h : f_X4_sameTexts_b20 x1 x2 x3 u a = some r) (k0 : ∀ q, r = .inl q → E_X4_sameTexts_20 x1 x2 x3 K g u ret q) (k1 : ∀ q, r = .inr q → H_X4_sameTexts_20 x1 x2 x3 K g u ret q) : H_X4_sameTexts_20 x1 x2 x3 K g u ret a := by
  unfold f_X4_sameTexts_b20 at h
  show XW K 0 0 5 (QI K g (wdX g) (ret, u)) (wdX g) u 20 [(0, .ref (g.1 4)), (1, .int x1), (2, .int x2), (3, .int x3), (4, .int a)] []
  refine x_iload X dX4_sameTexts_20 4 rfl ?_
  refine x_iload_n X dX4_sameTexts_22 rfl 3 rfl ?_
  refine x_icmp_ge (tgt := 69) X dX4_sameTexts_23 (by decide) (fun c4 => ?_) (fun c4 => ?_)
  · replace h := if_t c4 h
    refine x_sub [] rfl ?_
    have h9 := k0 _ (Option.some.inj h).symm
    exact h9
  · replace h := if_f c4 h
    refine x_aload_n X dX4_sameTexts_26 rfl 0 rfl ?_
    refine x_get (v := .ref (g.1 1)) X 4 0 in_X4 rfl rfl (by decide) m_X4_30 rfl dX4_sameTexts_27 ?_
    refine x_get (v := .ref (g.1 8)) X 1 0 in_X1 rfl rfl (by decide) m_X4_53 rfl dX4_sameTexts_30 ?_
    refine x_aload_n X dX4_sameTexts_33 rfl 0 rfl ?_
    refine x_iload_n X dX4_sameTexts_34 rfl 1 rfl ?_
    obtain ⟨q5, e5, h⟩ := bd h
    refine x_callR X [.int x1] [.ref (g.1 8)] (c_X4_textStart K.l K.D g x1 u q5 e5) ok_X4_textStart m_X4_86 4 rfl rfl rfl rfl (Nat.le_of_ble_eq_true rfl) ⟨Nat.zero_le _, Nat.zero_le _⟩ ⟨rfl, rfl, by decide, by decide⟩ dX4_sameTexts_35 ?_
    refine x_iload X dX4_sameTexts_38 4 rfl ?_
    refine x_iadd X dX4_sameTexts_40 ?_
    obtain ⟨i6, h⟩ := chk_some h
    refine x_iald (f := (u 22)) X 8 0 rfl rfl i6 dX4_sameTexts_41 ?_
    refine x_aload_n X dX4_sameTexts_42 rfl 0 rfl ?_
    refine x_get (v := .ref (g.1 1)) X 4 0 in_X4 rfl rfl (by decide) m_X4_30 rfl dX4_sameTexts_43 ?_
    refine x_get (v := .ref (g.1 8)) X 1 0 in_X1 rfl rfl (by decide) m_X4_53 rfl dX4_sameTexts_46 ?_
    refine x_aload_n X dX4_sameTexts_49 rfl 0 rfl ?_
    refine x_iload_n X dX4_sameTexts_50 rfl 2 rfl ?_
    obtain ⟨q7, e7, h⟩ := bd h
    refine x_callR X [.int x2] [.ref (g.1 8), .int ((u 22) (Int32.toNatClampNeg (q5 + a)))] (c_X4_textStart K.l K.D g x2 u q7 e7) ok_X4_textStart m_X4_86 4 rfl rfl rfl rfl (Nat.le_of_ble_eq_true rfl) ⟨Nat.zero_le _, Nat.zero_le _⟩ ⟨rfl, rfl, by decide, by decide⟩ dX4_sameTexts_51 ?_
    refine x_iload X dX4_sameTexts_54 4 rfl ?_
    refine x_iadd X dX4_sameTexts_56 ?_
    obtain ⟨i8, h⟩ := chk_some h
    refine x_iald (f := (u 22)) X 8 0 rfl rfl i8 dX4_sameTexts_57 ?_
    refine x_icmp_eq (tgt := 63) X dX4_sameTexts_58 (by decide) (fun c9 => ?_) (fun c9 => ?_)
    · replace h := if_t c9 h
      refine x_iinc (v := (a + 1)) (lv2 := [(4, .int (a + 1)), (0, .ref (g.1 4)), (1, .int x1), (2, .int x2), (3, .int x3)]) X dX4_sameTexts_63 4 rfl rfl (by decide) rfl ?_
      refine x_goto (tgt := 20) X dX4_sameTexts_66 (by decide) ?_
      refine x_sub [1, 2, 3, 4, 0] rfl ?_
      have h9 := k1 _ (Option.some.inj h).symm
      exact h9
    · replace h := if_f c9 h
      refine x_iconst (v := 0) X dX4_sameTexts_61 (by decide) ?_
      exact x_zret X rfl (roE (k0 _ (Option.some.inj h).symm)) dX4_sameTexts_62
set_option maxRecDepth 100000 in
set_option maxHeartbeats 4000000 in
theorem c_X4_sameTexts (l : Launch) (D : va_G) (g : Gw) (p0 : Int32) (p1 : Int32) (u : St) (ret : Int32) (h : f_X4_sameTexts p0 p1 u = some ret) : metI l D g (wdX g) yX4_sameTexts cX4_sameTexts 5 .boolean rm_X4_sameTexts [.ref (g.1 4), .int p0, .int p1] u (ret, u) := by
  refine metI_of (own := RX4) (lv := [(0, .ref (g.1 4)), (1, .int p0), (2, .int p1)]) (by decide) rfl rfl (Nat.le_of_ble_eq_true rfl) (fun K hl9 hD9 X => ?_)
  subst hl9
  subst hD9
  unfold f_X4_sameTexts at h
  refine x_aload_n X dX4_sameTexts_0 rfl 0 rfl ?_
  refine x_iload_n X dX4_sameTexts_1 rfl 1 rfl ?_
  obtain ⟨q1, e1, h⟩ := bd h
  refine x_callR X [.int p0] [] (c_X4_first K.l K.D g p0 u q1 e1) ok_X4_first m_X4_74 4 rfl rfl rfl rfl (Nat.le_of_ble_eq_true rfl) ⟨Nat.zero_le _, Nat.zero_le _⟩ ⟨rfl, rfl, by decide, by decide⟩ dX4_sameTexts_2 ?_
  refine x_istore_n (lv2 := [(3, .int q1), (0, .ref (g.1 4)), (1, .int p0), (2, .int p1)]) X dX4_sameTexts_5 rfl (by decide) rfl ?_
  refine x_iload_n X dX4_sameTexts_6 rfl 0 rfl ?_
  refine x_aload_n X dX4_sameTexts_7 rfl 1 rfl ?_
  refine x_iload_n X dX4_sameTexts_8 rfl 3 rfl ?_
  obtain ⟨q2, e2, h⟩ := bd h
  refine x_callR X [.int p1] [.int q1] (c_X4_first K.l K.D g p1 u q2 e2) ok_X4_first m_X4_74 4 rfl rfl rfl rfl (Nat.le_of_ble_eq_true rfl) ⟨Nat.zero_le _, Nat.zero_le _⟩ ⟨rfl, rfl, by decide, by decide⟩ dX4_sameTexts_9 ?_
  refine x_icmp_eq (tgt := 17) X dX4_sameTexts_12 (by decide) (fun c3 => ?_) (fun c3 => ?_)
  · replace h := if_t c3 h
    refine x_iconst (v := 0) X dX4_sameTexts_17 (by decide) ?_
    refine x_istore (lv2 := [(4, .int 0), (3, .int q1), (0, .ref (g.1 4)), (1, .int p0), (2, .int p1)]) X dX4_sameTexts_18 (by decide) rfl ?_
    refine x_sub [2, 3, 4, 1, 0] rfl ?_
    obtain ⟨q100, e10, h⟩ := bd h
    refine loopF_w (WH := H_X4_sameTexts_20 p0 p1 q1 K g u ret) (KB := E_X4_sameTexts_20 p0 p1 q1 K g u ret) (fun a9 r9 h9 k8 k7 => w_X4_sameTexts_b20 p0 p1 q1 u ret X a9 r9 h9 k8 k7) FU 0 q100 e10 ?_
    rcases q100 with q10 | q10
    · replace h := sl h
      exact (Option.some.inj h)
    · replace h := sr h
      show XW K 0 0 5 (QI K g (wdX g) (ret, u)) (wdX g) u 69 [] []
      refine x_iconst (v := 1) X dX4_sameTexts_69 (by decide) ?_
      exact x_zret X rfl (roE (Option.some.inj h)) dX4_sameTexts_70
  · replace h := if_f c3 h
    refine x_iconst (v := 0) X dX4_sameTexts_15 (by decide) ?_
    exact x_zret X rfl (roE (Option.some.inj h)) dX4_sameTexts_16
abbrev H_X2_addMember_2 (x1 : Int32) (x2 : Int32) (K : Cx) (g : Gw) (ret : Int32 × St) (a : Int32 × St) : Prop := XW K 0 0 4 (QI K g (wdX g) ret) (wdX g) a.2 2 [(0, .ref (g.1 2)), (1, .int x1), (2, .int x2), (3, .int a.1)] []
abbrev E_X2_addMember_2 (x1 : Int32) (x2 : Int32) (K : Cx) (g : Gw) (ret : Int32 × St) (q : (Int32 × St) ⊕ (St)) : Prop := Sum.elim (fun q => q = ret) (fun q => XW K 0 0 4 (QI K g (wdX g) ret) (wdX g) q 96 [(0, .ref (g.1 2)), (1, .int x1), (2, .int x2)] []) q
set_option maxRecDepth 100000 in
set_option maxHeartbeats 4000000 in
theorem w_X2_addMember_j90_2 {K : Cx} {g : Gw} (ret : Int32 × St) (X : XC K g cX2_addMember 4 RX2 (some .boolean) rm_X2_addMember) (x1 : Int32) (x2 : Int32) (x3 : Int32) (u : St) (r : ((Int32 × St) ⊕ (St)) ⊕ (Int32 × St)) (h : f_X2_addMember_j90_2 x1 x2 x3 u = some r) (k0 : ∀ q, r = .inl q → E_X2_addMember_2 x1 x2 K g ret q) (k1 : ∀ q, r = .inr q → H_X2_addMember_2 x1 x2 K g ret q) : XW K 0 0 4 (QI K g (wdX g) ret) (wdX g) u 90 [(0, .ref (g.1 2)), (1, .int x1), (2, .int x2), (3, .int x3)] [] := by
  unfold f_X2_addMember_j90_2 at h
  refine x_iinc (v := (x3 + 1)) (lv2 := [(3, .int (x3 + 1)), (0, .ref (g.1 2)), (1, .int x1), (2, .int x2)]) X dX2_addMember_90 3 rfl rfl (by decide) rfl ?_
  refine x_goto (tgt := 2) X dX2_addMember_93 (by decide) ?_
  refine x_sub [1, 2, 3, 0] rfl ?_
  have h9 := k1 _ (Option.some.inj h).symm
  exact h9
set_option maxRecDepth 100000 in
set_option maxHeartbeats 4000000 in
theorem w_X2_addMember_b2 {K : Cx} {g : Gw} (x1 : Int32) (x2 : Int32) (ret : Int32 × St) (X : XC K g cX2_addMember 4 RX2 (some .boolean) rm_X2_addMember) (a : Int32 × St) (r : ((Int32 × St) ⊕ (St)) ⊕ (Int32 × St)) (h : f_X2_addMember_b2 x1 x2 a = some r) (k0 : ∀ q, r = .inl q → E_X2_addMember_2 x1 x2 K g ret q) (k1 : ∀ q, r = .inr q → H_X2_addMember_2 x1 x2 K g ret q) : H_X2_addMember_2 x1 x2 K g ret a := by
  unfold f_X2_addMember_b2 at h
  show XW K 0 0 4 (QI K g (wdX g) ret) (wdX g) a.2 2 [(0, .ref (g.1 2)), (1, .int x1), (2, .int x2), (3, .int a.1)] []
  refine x_iload_n X dX2_addMember_2 rfl 3 rfl ?_
  refine x_iload_n X dX2_addMember_3 rfl 1 rfl ?_
  refine x_icmp_ge (tgt := 96) X dX2_addMember_4 (by decide) (fun c1 => ?_) (fun c1 => ?_)
  · replace h := if_t c1 h
    refine x_sub [0, 1, 2] rfl ?_
    have h9 := k0 _ (Option.some.inj h).symm
    exact h9
  · replace h := if_f c1 h
    refine x_aload_n X dX2_addMember_7 rfl 0 rfl ?_
    refine x_get (v := .ref (g.1 4)) X 2 3 in_X2 rfl rfl (by decide) m_X2_36 rfl dX2_addMember_8 ?_
    refine x_aload_n X dX2_addMember_11 rfl 0 rfl ?_
    refine x_get (v := .ref (g.1 1)) X 2 2 in_X2 rfl rfl (by decide) m_X2_18 rfl dX2_addMember_12 ?_
    refine x_aload_n X dX2_addMember_15 rfl 0 rfl ?_
    refine x_get (v := .ref (g.1 10)) X 2 5 in_X2 rfl rfl (by decide) m_X2_15 rfl dX2_addMember_16 ?_
    refine x_iload_n X dX2_addMember_19 rfl 3 rfl ?_
    obtain ⟨i2, h⟩ := chk_some h
    refine x_iald (f := (a.2 24)) X 10 0 rfl rfl i2 dX2_addMember_20 ?_
    refine x_iconst (v := 2) X dX2_addMember_21 (by decide) ?_
    refine x_iadd X dX2_addMember_22 ?_
    obtain ⟨q3, e3, h⟩ := bd h
    refine x_callR X [.int (((a.2 24) (Int32.toNatClampNeg a.1)) + 2)] [.ref (g.1 4)] (c_X1_u2 K.l K.D g (((a.2 24) (Int32.toNatClampNeg a.1)) + 2) a.2 q3 e3) ok_X1_u2 m_X2_109 1 rfl rfl rfl rfl (Nat.le_of_ble_eq_true rfl) ⟨Nat.zero_le _, Nat.zero_le _⟩ ⟨rfl, rfl, by decide, by decide⟩ dX2_addMember_23 ?_
    refine x_aload_n X dX2_addMember_26 rfl 0 rfl ?_
    refine x_get (v := .ref (g.1 1)) X 2 2 in_X2 rfl rfl (by decide) m_X2_18 rfl dX2_addMember_27 ?_
    refine x_iload_n X dX2_addMember_30 rfl 2 rfl ?_
    refine x_iconst (v := 2) X dX2_addMember_31 (by decide) ?_
    refine x_iadd X dX2_addMember_32 ?_
    obtain ⟨q4, e4, h⟩ := bd h
    refine x_callR X [.int (x2 + 2)] [.int q3, .ref (g.1 4)] (c_X1_u2 K.l K.D g (x2 + 2) a.2 q4 e4) ok_X1_u2 m_X2_109 1 rfl rfl rfl rfl (Nat.le_of_ble_eq_true rfl) ⟨Nat.zero_le _, Nat.zero_le _⟩ ⟨rfl, rfl, by decide, by decide⟩ dX2_addMember_33 ?_
    obtain ⟨q5, e5, h⟩ := bd h
    refine x_callR X [.int q3, .int q4] [] (c_X4_sameTexts K.l K.D g q3 q4 a.2 q5 e5) ok_X4_sameTexts m_X2_186 4 rfl rfl rfl rfl (Nat.le_of_ble_eq_true rfl) ⟨Nat.zero_le _, Nat.zero_le _⟩ ⟨rfl, rfl, by decide, by decide⟩ dX2_addMember_36 ?_
    refine x_if_eq (tgt := 90) X dX2_addMember_39 (by decide) (fun c6 => ?_) (fun c6 => ?_)
    · replace h := if_t c6 h
      exact w_X2_addMember_j90_2 ret X x1 x2 a.1 a.2 r h k0 k1
    · replace h := if_f c6 h
      refine x_aload_n X dX2_addMember_42 rfl 0 rfl ?_
      refine x_get (v := .ref (g.1 4)) X 2 3 in_X2 rfl rfl (by decide) m_X2_36 rfl dX2_addMember_43 ?_
      refine x_aload_n X dX2_addMember_46 rfl 0 rfl ?_
      refine x_get (v := .ref (g.1 1)) X 2 2 in_X2 rfl rfl (by decide) m_X2_18 rfl dX2_addMember_47 ?_
      refine x_aload_n X dX2_addMember_50 rfl 0 rfl ?_
      refine x_get (v := .ref (g.1 10)) X 2 5 in_X2 rfl rfl (by decide) m_X2_15 rfl dX2_addMember_51 ?_
      refine x_iload_n X dX2_addMember_54 rfl 3 rfl ?_
      obtain ⟨i7, h⟩ := chk_some h
      refine x_iald (f := (a.2 24)) X 10 0 rfl rfl i7 dX2_addMember_55 ?_
      refine x_iconst (v := 4) X dX2_addMember_56 (by decide) ?_
      refine x_iadd X dX2_addMember_57 ?_
      obtain ⟨q8, e8, h⟩ := bd h
      refine x_callR X [.int (((a.2 24) (Int32.toNatClampNeg a.1)) + 4)] [.ref (g.1 4)] (c_X1_u2 K.l K.D g (((a.2 24) (Int32.toNatClampNeg a.1)) + 4) a.2 q8 e8) ok_X1_u2 m_X2_109 1 rfl rfl rfl rfl (Nat.le_of_ble_eq_true rfl) ⟨Nat.zero_le _, Nat.zero_le _⟩ ⟨rfl, rfl, by decide, by decide⟩ dX2_addMember_58 ?_
      refine x_aload_n X dX2_addMember_61 rfl 0 rfl ?_
      refine x_get (v := .ref (g.1 1)) X 2 2 in_X2 rfl rfl (by decide) m_X2_18 rfl dX2_addMember_62 ?_
      refine x_iload_n X dX2_addMember_65 rfl 2 rfl ?_
      refine x_iconst (v := 4) X dX2_addMember_66 (by decide) ?_
      refine x_iadd X dX2_addMember_67 ?_
      obtain ⟨q9, e9, h⟩ := bd h
      refine x_callR X [.int (x2 + 4)] [.int q8, .ref (g.1 4)] (c_X1_u2 K.l K.D g (x2 + 4) a.2 q9 e9) ok_X1_u2 m_X2_109 1 rfl rfl rfl rfl (Nat.le_of_ble_eq_true rfl) ⟨Nat.zero_le _, Nat.zero_le _⟩ ⟨rfl, rfl, by decide, by decide⟩ dX2_addMember_68 ?_
      obtain ⟨q10, e10, h⟩ := bd h
      refine x_callR X [.int q8, .int q9] [] (c_X4_sameTexts K.l K.D g q8 q9 a.2 q10 e10) ok_X4_sameTexts m_X2_186 4 rfl rfl rfl rfl (Nat.le_of_ble_eq_true rfl) ⟨Nat.zero_le _, Nat.zero_le _⟩ ⟨rfl, rfl, by decide, by decide⟩ dX2_addMember_71 ?_
      refine x_if_eq (tgt := 90) X dX2_addMember_74 (by decide) (fun c11 => ?_) (fun c11 => ?_)
      · replace h := if_t c11 h
        exact w_X2_addMember_j90_2 ret X x1 x2 a.1 a.2 r h k0 k1
      · replace h := if_f c11 h
        refine x_aload_n X dX2_addMember_77 rfl 0 rfl ?_
        refine x_get (v := .ref (g.1 3)) X 2 0 in_X2 rfl rfl (by decide) m_X2_27 rfl dX2_addMember_78 ?_
        refine x_bipush (v := 17) X dX2_addMember_81 (by decide) ?_
        refine x_iload_n X dX2_addMember_83 rfl 2 rfl ?_
        refine x_iconst (v := 2) X dX2_addMember_84 (by decide) ?_
        refine x_iadd X dX2_addMember_85 ?_
        obtain ⟨q12, e12, h⟩ := bd h
        refine x_callI X [.int 17, .int (x2 + 2)] [] (c_X5_broken K.l K.D g 17 (x2 + 2) a.2 q12 e12) ok_X5_broken m_X2_93 3 rfl rfl rfl rfl (Nat.le_of_ble_eq_true rfl) ⟨Nat.zero_le _, Nat.zero_le _⟩ ⟨rfl, rfl, by decide, by decide⟩ dX2_addMember_86 ?_
        obtain ⟨b13, h⟩ := bchk_some h
        exact x_zret X b13 (k0 _ (Option.some.inj h).symm) dX2_addMember_89
set_option maxRecDepth 100000 in
set_option maxHeartbeats 4000000 in
theorem c_X2_addMember (l : Launch) (D : va_G) (g : Gw) (p0 : Int32) (p1 : Int32) (u : St) (ret : Int32 × St) (h : f_X2_addMember p0 p1 u = some ret) : metI l D g (wdX g) yX2_addMember cX2_addMember 4 .boolean rm_X2_addMember [.ref (g.1 2), .int p0, .int p1] u ret := by
  refine metI_of (own := RX2) (lv := [(0, .ref (g.1 2)), (1, .int p0), (2, .int p1)]) (by decide) rfl rfl (Nat.le_of_ble_eq_true rfl) (fun K hl9 hD9 X => ?_)
  subst hl9
  subst hD9
  unfold f_X2_addMember at h
  refine x_iconst (v := 0) X dX2_addMember_0 (by decide) ?_
  refine x_istore_n (lv2 := [(3, .int 0), (0, .ref (g.1 2)), (1, .int p0), (2, .int p1)]) X dX2_addMember_1 rfl (by decide) rfl ?_
  refine x_sub [1, 2, 3, 0] rfl ?_
  obtain ⟨q140, e14, h⟩ := bd h
  refine loopF_w (WH := H_X2_addMember_2 p0 p1 K g ret) (KB := E_X2_addMember_2 p0 p1 K g ret) (fun a9 r9 h9 k8 k7 => w_X2_addMember_b2 p0 p1 ret X a9 r9 h9 k8 k7) FU (0, u) q140 e14 ?_
  rcases q140 with q14 | q14
  · replace h := sl h
    exact (Option.some.inj h)
  · replace h := sr h
    show XW K 0 0 4 (QI K g (wdX g) ret) (wdX g) q14 96 [(0, .ref (g.1 2)), (1, .int p0), (2, .int p1)] []
    refine x_aload_n X dX2_addMember_96 rfl 0 rfl ?_
    refine x_get (v := .ref (g.1 10)) X 2 5 in_X2 rfl rfl (by decide) m_X2_15 rfl dX2_addMember_97 ?_
    refine x_iload_n X dX2_addMember_100 rfl 1 rfl ?_
    refine x_iload_n X dX2_addMember_101 rfl 2 rfl ?_
    obtain ⟨i15, h⟩ := chk_some h
    refine x_iast (f := (q14 24)) (u2 := (up q14 24 (Int32.toNatClampNeg p0) p1)) X 10 0 rfl rfl i15 (wdX_24 g q14 (Int32.toNatClampNeg p0) p1) dX2_addMember_102 ?_
    refine x_iconst (v := 1) X dX2_addMember_103 (by decide) ?_
    exact x_zret X rfl (Option.some.inj h) dX2_addMember_104
set_option maxRecDepth 100000 in
set_option maxHeartbeats 4000000 in
theorem c_X2_countBrackets (l : Launch) (D : va_G) (g : Gw) (p0 : Int32) (u : St) (ret : St) (h : f_X2_countBrackets p0 u = some ret) : metV l D g (wdX g) yX2_countBrackets cX2_countBrackets 3 rm_X2_countBrackets [.ref (g.1 2), .int p0] u ret := by
  refine metV_of (own := RX2) (lv := [(0, .ref (g.1 2)), (1, .int p0)]) (by decide) rfl rfl (Nat.le_of_ble_eq_true rfl) (fun K hl9 hD9 X => ?_)
  subst hl9
  subst hD9
  unfold f_X2_countBrackets at h
  refine x_aload_n X dX2_countBrackets_0 rfl 0 rfl ?_
  refine x_get (v := .ref (g.1 1)) X 2 2 in_X2 rfl rfl (by decide) m_X2_18 rfl dX2_countBrackets_1 ?_
  refine x_get (v := .ref (g.1 8)) X 1 0 in_X1 rfl rfl (by decide) m_X2_157 rfl dX2_countBrackets_4 ?_
  refine x_aload_n X dX2_countBrackets_7 rfl 0 rfl ?_
  refine x_get (v := .ref (g.1 4)) X 2 3 in_X2 rfl rfl (by decide) m_X2_36 rfl dX2_countBrackets_8 ?_
  refine x_iload_n X dX2_countBrackets_11 rfl 1 rfl ?_
  obtain ⟨q1, e1, h⟩ := bd h
  refine x_callR X [.int p0] [.ref (g.1 8)] (c_X4_textStart K.l K.D g p0 u q1 e1) ok_X4_textStart m_X2_160 4 rfl rfl rfl rfl (Nat.le_of_ble_eq_true rfl) ⟨Nat.zero_le _, Nat.zero_le _⟩ ⟨rfl, rfl, by decide, by decide⟩ dX2_countBrackets_12 ?_
  refine x_aload_n X dX2_countBrackets_15 rfl 0 rfl ?_
  refine x_get (v := .ref (g.1 4)) X 2 3 in_X2 rfl rfl (by decide) m_X2_36 rfl dX2_countBrackets_16 ?_
  refine x_iload_n X dX2_countBrackets_19 rfl 1 rfl ?_
  obtain ⟨q2, e2, h⟩ := bd h
  refine x_callR X [.int p0] [.int q1, .ref (g.1 8)] (c_X4_textEnd K.l K.D g p0 u q2 e2) ok_X4_textEnd m_X2_163 4 rfl rfl rfl rfl (Nat.le_of_ble_eq_true rfl) ⟨Nat.zero_le _, Nat.zero_le _⟩ ⟨rfl, rfl, by decide, by decide⟩ dX2_countBrackets_20 ?_
  obtain ⟨q3, e3, h⟩ := bd h
  refine x_scallR X [.ref (g.1 8), .int q1, .int q2] [] (c_X3_brackets K.l K.D g q1 q2 u q3 e3) ok_X3_brackets m_X2_166 rfl rfl (Nat.le_of_ble_eq_true rfl) ⟨Nat.zero_le _, Nat.zero_le _⟩ ⟨rfl, rfl, by decide, by decide⟩ dX2_countBrackets_23 ?_
  refine x_istore_n (lv2 := [(2, .int q3), (0, .ref (g.1 2)), (1, .int p0)]) X dX2_countBrackets_26 rfl (by decide) rfl ?_
  refine x_aload_n X dX2_countBrackets_27 rfl 1 rfl ?_
  refine x_get (v := .ref (g.1 9)) X 2 1 in_X2 rfl rfl (by decide) m_X2_11 rfl dX2_countBrackets_28 ?_
  refine x_bipush (v := 6) X dX2_countBrackets_31 (by decide) ?_
  refine x_aload_n X dX2_countBrackets_33 rfl 1 rfl ?_
  refine x_get (v := .ref (g.1 9)) X 2 1 in_X2 rfl rfl (by decide) m_X2_11 rfl dX2_countBrackets_34 ?_
  refine x_bipush (v := 6) X dX2_countBrackets_37 (by decide) ?_
  obtain ⟨i4, h⟩ := chk_some h
  refine x_iald (f := (u 23)) X 9 0 rfl rfl i4 dX2_countBrackets_39 ?_
  refine x_iload_n X dX2_countBrackets_40 rfl 0 rfl ?_
  refine x_mmax X m_X2_172 m_mms m_mmi m_mmc (by decide) (Nat.le_of_ble_eq_true rfl) ⟨Nat.zero_le _, Nat.zero_le _⟩ dX2_countBrackets_41 ?_
  obtain ⟨i5, h⟩ := chk_some h
  refine x_iast (f := (u 23)) (u2 := (up u 23 (Int32.toNatClampNeg 6) (if ((u 23) (Int32.toNatClampNeg 6)) < q3 then q3 else ((u 23) (Int32.toNatClampNeg 6))))) X 9 0 rfl rfl i5 (wdX_23 g u (Int32.toNatClampNeg 6) (if ((u 23) (Int32.toNatClampNeg 6)) < q3 then q3 else ((u 23) (Int32.toNatClampNeg 6)))) dX2_countBrackets_44 ?_
  exact x_vret X (Option.some.inj h) dX2_countBrackets_45
set_option maxRecDepth 100000 in
set_option maxHeartbeats 4000000 in
theorem w_X2_methodFlagsFit_j37 {K : Cx} {g : Gw} (ret : Int32) (X : XC K g cX2_methodFlagsFit 2 RX2 (some .boolean) rm_X2_methodFlagsFit) (z0 : Int32) (u : St) (h : f_X2_methodFlagsFit_j37 z0 u = some ret) : XW K 0 0 2 (QI K g (wdX g) (ret, u)) (wdX g) u 37 [] [.int z0] := by
  unfold f_X2_methodFlagsFit_j37 at h
  obtain ⟨b4, h⟩ := bchk_some h
  exact x_zret X b4 (roE (Option.some.inj h)) dX2_methodFlagsFit_37
set_option maxRecDepth 100000 in
set_option maxHeartbeats 4000000 in
theorem w_X2_methodFlagsFit_j36 {K : Cx} {g : Gw} (ret : Int32) (X : XC K g cX2_methodFlagsFit 2 RX2 (some .boolean) rm_X2_methodFlagsFit) (u : St) (h : f_X2_methodFlagsFit_j36 u = some ret) : XW K 0 0 2 (QI K g (wdX g) (ret, u)) (wdX g) u 36 [] [] := by
  unfold f_X2_methodFlagsFit_j36 at h
  refine x_iconst (v := 0) X dX2_methodFlagsFit_36 (by decide) ?_
  exact w_X2_methodFlagsFit_j37 ret X 0 u h
set_option maxRecDepth 100000 in
set_option maxHeartbeats 4000000 in
theorem w_X2_methodFlagsFit_j32 {K : Cx} {g : Gw} (ret : Int32) (X : XC K g cX2_methodFlagsFit 2 RX2 (some .boolean) rm_X2_methodFlagsFit) (u : St) (h : f_X2_methodFlagsFit_j32 u = some ret) : XW K 0 0 2 (QI K g (wdX g) (ret, u)) (wdX g) u 32 [] [] := by
  unfold f_X2_methodFlagsFit_j32 at h
  refine x_iconst (v := 1) X dX2_methodFlagsFit_32 (by decide) ?_
  refine x_goto (tgt := 37) X dX2_methodFlagsFit_33 (by decide) ?_
  exact w_X2_methodFlagsFit_j37 ret X 1 u h
set_option maxRecDepth 100000 in
set_option maxHeartbeats 4000000 in
theorem w_X2_methodFlagsFit_j12 {K : Cx} {g : Gw} (ret : Int32) (X : XC K g cX2_methodFlagsFit 2 RX2 (some .boolean) rm_X2_methodFlagsFit) (x0 : Int32) (z0 : Int32) (u : St) (h : f_X2_methodFlagsFit_j12 x0 z0 u = some ret) : XW K 0 0 2 (QI K g (wdX g) (ret, u)) (wdX g) u 12 [(0, .int x0)] [.int z0] := by
  unfold f_X2_methodFlagsFit_j12 at h
  refine x_istore_n (lv2 := [(1, .int z0), (0, .int x0)]) X dX2_methodFlagsFit_12 rfl (by decide) rfl ?_
  refine x_iload_n X dX2_methodFlagsFit_13 rfl 1 rfl ?_
  obtain ⟨q2, e2, h⟩ := bd h
  refine x_scallR X [.int x0] [] (c_X2_hasAtMostOneAccess K.l K.D g x0 u q2 e2) ok_X2_hasAtMostOneAccess m_X2_178 rfl rfl (Nat.le_of_ble_eq_true rfl) ⟨Nat.zero_le _, Nat.zero_le _⟩ ⟨rfl, rfl, by decide, by decide⟩ dX2_methodFlagsFit_14 ?_
  refine x_if_eq (tgt := 36) X dX2_methodFlagsFit_17 (by decide) (fun c3 => ?_) (fun c3 => ?_)
  · replace h := if_t c3 h
    refine x_sub [] rfl ?_
    exact w_X2_methodFlagsFit_j36 ret X u h
  · replace h := if_f c3 h
    refine x_iload_n X dX2_methodFlagsFit_20 rfl 1 rfl ?_
    refine x_sipush (v := 1024) X dX2_methodFlagsFit_21 (by decide) ?_
    refine x_iand X dX2_methodFlagsFit_24 ?_
    refine x_if_eq (tgt := 32) X dX2_methodFlagsFit_25 (by decide) (fun c5 => ?_) (fun c5 => ?_)
    · replace h := if_t c5 h
      refine x_sub [] rfl ?_
      exact w_X2_methodFlagsFit_j32 ret X u h
    · replace h := if_f c5 h
      refine x_iload_n X dX2_methodFlagsFit_28 rfl 0 rfl ?_
      refine x_if_ne (tgt := 36) X dX2_methodFlagsFit_29 (by decide) (fun c6 => ?_) (fun c6 => ?_)
      · replace h := if_f c6 h
        refine x_sub [] rfl ?_
        exact w_X2_methodFlagsFit_j36 ret X u h
      · replace h := if_t c6 h
        refine x_sub [] rfl ?_
        exact w_X2_methodFlagsFit_j32 ret X u h
set_option maxRecDepth 100000 in
set_option maxHeartbeats 4000000 in
theorem c_X2_methodFlagsFit (l : Launch) (D : va_G) (g : Gw) (p0 : Int32) (u : St) (ret : Int32) (h : f_X2_methodFlagsFit p0 u = some ret) : metI l D g (wdX g) yX2_methodFlagsFit cX2_methodFlagsFit 2 .boolean rm_X2_methodFlagsFit [.int p0] u (ret, u) := by
  refine metI_of (own := RX2) (lv := [(0, .int p0)]) (by decide) rfl rfl (Nat.le_of_ble_eq_true rfl) (fun K hl9 hD9 X => ?_)
  subst hl9
  subst hD9
  unfold f_X2_methodFlagsFit at h
  refine x_iload_n X dX2_methodFlagsFit_0 rfl 0 rfl ?_
  refine x_bipush (v := 26) X dX2_methodFlagsFit_1 (by decide) ?_
  refine x_iand X dX2_methodFlagsFit_3 ?_
  refine x_if_eq (tgt := 11) X dX2_methodFlagsFit_4 (by decide) (fun c1 => ?_) (fun c1 => ?_)
  · replace h := if_t c1 h
    refine x_iconst (v := 0) X dX2_methodFlagsFit_11 (by decide) ?_
    exact w_X2_methodFlagsFit_j12 ret X p0 0 u h
  · replace h := if_f c1 h
    refine x_iconst (v := 1) X dX2_methodFlagsFit_7 (by decide) ?_
    refine x_goto (tgt := 12) X dX2_methodFlagsFit_8 (by decide) ?_
    exact w_X2_methodFlagsFit_j12 ret X p0 1 u h
set_option maxRecDepth 100000 in
set_option maxHeartbeats 4000000 in
theorem w_X2_readMemberHead_j213 {K : Cx} {g : Gw} (ret : Int32 × St) (X : XC K g cX2_readMemberHead 7 RX2 (some .boolean) rm_X2_readMemberHead) (x1 : Int32) (x3 : Int32) (u : St) (h : f_X2_readMemberHead_j213 x1 x3 u = some ret) : XW K 0 0 7 (QI K g (wdX g) ret) (wdX g) u 213 [(0, .ref (g.1 2)), (1, .int x1), (3, .int x3)] [] := by
  unfold f_X2_readMemberHead_j213 at h
  refine x_aload_n X dX2_readMemberHead_213 rfl 0 rfl ?_
  refine x_iload_n X dX2_readMemberHead_214 rfl 1 rfl ?_
  refine x_iload_n X dX2_readMemberHead_215 rfl 2 rfl ?_
  obtain ⟨q20, e20, h⟩ := bd h
  refine x_callI X [.int x1, .int x3] [] (c_X2_addMember K.l K.D g x1 x3 u q20 e20) ok_X2_addMember m_X2_154 2 rfl rfl rfl rfl (Nat.le_of_ble_eq_true rfl) ⟨Nat.zero_le _, Nat.zero_le _⟩ ⟨rfl, rfl, by decide, by decide⟩ dX2_readMemberHead_216 ?_
  obtain ⟨b21, h⟩ := bchk_some h
  exact x_zret X b21 (Option.some.inj h) dX2_readMemberHead_219
set_option maxRecDepth 100000 in
set_option maxHeartbeats 4000000 in
theorem w_X2_readMemberHead_j203 {K : Cx} {g : Gw} (ret : Int32 × St) (X : XC K g cX2_readMemberHead 7 RX2 (some .boolean) rm_X2_readMemberHead) (x1 : Int32) (x2 : Int32) (x3 : Int32) (x6 : Int32) (u : St) (h : f_X2_readMemberHead_j203 x1 x2 x3 x6 u = some ret) : XW K 0 0 7 (QI K g (wdX g) ret) (wdX g) u 203 [(0, .ref (g.1 2)), (1, .int x1), (2, .int x2), (3, .int x3), (6, .int x6)] [] := by
  unfold f_X2_readMemberHead_j203 at h
  refine x_iload_n X dX2_readMemberHead_203 rfl 2 rfl ?_
  refine x_if_ne (tgt := 213) X dX2_readMemberHead_204 (by decide) (fun c19 => ?_) (fun c19 => ?_)
  · replace h := if_f c19 h
    refine x_sub [0, 1, 3] rfl ?_
    exact w_X2_readMemberHead_j213 ret X x1 x3 u h
  · replace h := if_t c19 h
    refine x_aload_n X dX2_readMemberHead_207 rfl 0 rfl ?_
    refine x_iload X dX2_readMemberHead_208 4 rfl ?_
    obtain ⟨q22, e22, h⟩ := bd h
    refine x_callV X [.int x6] [] (c_X2_countBrackets K.l K.D g x6 u q22 e22) ok_X2_countBrackets m_X2_150 2 rfl rfl rfl rfl (Nat.le_of_ble_eq_true rfl) ⟨Nat.zero_le _, Nat.zero_le _⟩ ⟨rfl, rfl, by decide, by decide⟩ dX2_readMemberHead_210 ?_
    refine x_sub [0, 1, 3] rfl ?_
    exact w_X2_readMemberHead_j213 ret X x1 x3 q22 h
set_option maxRecDepth 100000 in
set_option maxHeartbeats 4000000 in
theorem w_X2_readMemberHead_j190 {K : Cx} {g : Gw} (ret : Int32 × St) (X : XC K g cX2_readMemberHead 7 RX2 (some .boolean) rm_X2_readMemberHead) (x3 : Int32) (u : St) (h : f_X2_readMemberHead_j190 x3 u = some ret) : XW K 0 0 7 (QI K g (wdX g) ret) (wdX g) u 190 [(0, .ref (g.1 2)), (3, .int x3)] [] := by
  unfold f_X2_readMemberHead_j190 at h
  refine x_aload_n X dX2_readMemberHead_190 rfl 0 rfl ?_
  refine x_get (v := .ref (g.1 3)) X 2 0 in_X2 rfl rfl (by decide) m_X2_27 rfl dX2_readMemberHead_191 ?_
  refine x_bipush (v := 16) X dX2_readMemberHead_194 (by decide) ?_
  refine x_iload_n X dX2_readMemberHead_196 rfl 1 rfl ?_
  refine x_iconst (v := 4) X dX2_readMemberHead_197 (by decide) ?_
  refine x_iadd X dX2_readMemberHead_198 ?_
  obtain ⟨q23, e23, h⟩ := bd h
  refine x_callI X [.int 16, .int (x3 + 4)] [] (c_X5_broken K.l K.D g 16 (x3 + 4) u q23 e23) ok_X5_broken m_X2_93 3 rfl rfl rfl rfl (Nat.le_of_ble_eq_true rfl) ⟨Nat.zero_le _, Nat.zero_le _⟩ ⟨rfl, rfl, by decide, by decide⟩ dX2_readMemberHead_199 ?_
  obtain ⟨b24, h⟩ := bchk_some h
  exact x_zret X b24 (Option.some.inj h) dX2_readMemberHead_202
set_option maxRecDepth 100000 in
set_option maxHeartbeats 4000000 in
theorem w_X2_readMemberHead_j134 {K : Cx} {g : Gw} (ret : Int32 × St) (X : XC K g cX2_readMemberHead 7 RX2 (some .boolean) rm_X2_readMemberHead) (x1 : Int32) (x2 : Int32) (x3 : Int32) (u : St) (h : f_X2_readMemberHead_j134 x1 x2 x3 u = some ret) : XW K 0 0 7 (QI K g (wdX g) ret) (wdX g) u 134 [(0, .ref (g.1 2)), (1, .int x1), (2, .int x2), (3, .int x3)] [] := by
  unfold f_X2_readMemberHead_j134 at h
  refine x_aload_n X dX2_readMemberHead_134 rfl 0 rfl ?_
  refine x_get (v := .ref (g.1 3)) X 2 0 in_X2 rfl rfl (by decide) m_X2_27 rfl dX2_readMemberHead_135 ?_
  refine x_iconst (v := 2) X dX2_readMemberHead_138 (by decide) ?_
  obtain ⟨q13, e13, h⟩ := bd h
  refine x_callI X [.int 2] [] (c_X5_step K.l K.D g 2 u q13 e13) ok_X5_step m_X2_100 3 rfl rfl rfl rfl (Nat.le_of_ble_eq_true rfl) ⟨Nat.zero_le _, Nat.zero_le _⟩ ⟨rfl, rfl, by decide, by decide⟩ dX2_readMemberHead_139 ?_
  refine x_if_ne (tgt := 147) X dX2_readMemberHead_142 (by decide) (fun c14 => ?_) (fun c14 => ?_)
  · replace h := if_f c14 h
    refine x_aload_n X dX2_readMemberHead_147 rfl 0 rfl ?_
    refine x_get (v := .ref (g.1 1)) X 2 2 in_X2 rfl rfl (by decide) m_X2_18 rfl dX2_readMemberHead_148 ?_
    refine x_iload_n X dX2_readMemberHead_151 rfl 3 rfl ?_
    refine x_iconst (v := 4) X dX2_readMemberHead_152 (by decide) ?_
    refine x_iadd X dX2_readMemberHead_153 ?_
    obtain ⟨q15, e15, h⟩ := bd h
    refine x_callR X [.int (x3 + 4)] [] (c_X1_u2 K.l K.D g (x3 + 4) q13.2 q15 e15) ok_X1_u2 m_X2_109 1 rfl rfl rfl rfl (Nat.le_of_ble_eq_true rfl) ⟨Nat.zero_le _, Nat.zero_le _⟩ ⟨rfl, rfl, by decide, by decide⟩ dX2_readMemberHead_154 ?_
    refine x_istore (lv2 := [(6, .int q15), (0, .ref (g.1 2)), (1, .int x1), (2, .int x2), (3, .int x3)]) X dX2_readMemberHead_157 (by decide) rfl ?_
    refine x_iload_n X dX2_readMemberHead_159 rfl 3 rfl ?_
    refine x_if_eq (tgt := 178) X dX2_readMemberHead_160 (by decide) (fun c16 => ?_) (fun c16 => ?_)
    · replace h := if_t c16 h
      refine x_aload_n X dX2_readMemberHead_178 rfl 1 rfl ?_
      refine x_get (v := .ref (g.1 4)) X 2 3 in_X2 rfl rfl (by decide) m_X2_36 rfl dX2_readMemberHead_179 ?_
      refine x_iload X dX2_readMemberHead_182 0 rfl ?_
      obtain ⟨q17, e17, h⟩ := bd h
      refine x_callR X [.int q15] [] (c_X4_isFieldType K.l K.D g q15 q13.2 q17 e17) ok_X4_isFieldType m_X2_147 4 rfl rfl rfl rfl (Nat.le_of_ble_eq_true rfl) ⟨Nat.zero_le _, Nat.zero_le _⟩ ⟨rfl, rfl, by decide, by decide⟩ dX2_readMemberHead_184 ?_
      refine x_if_ne (tgt := 203) X dX2_readMemberHead_187 (by decide) (fun c18 => ?_) (fun c18 => ?_)
      · replace h := if_f c18 h
        refine x_sub [1, 2, 3, 4, 0] rfl ?_
        exact w_X2_readMemberHead_j203 ret X x1 x2 x3 q15 q13.2 h
      · replace h := if_t c18 h
        refine x_sub [1, 4] rfl ?_
        exact w_X2_readMemberHead_j190 ret X x3 q13.2 h
    · replace h := if_f c16 h
      refine x_aload_n X dX2_readMemberHead_163 rfl 1 rfl ?_
      refine x_get (v := .ref (g.1 4)) X 2 3 in_X2 rfl rfl (by decide) m_X2_36 rfl dX2_readMemberHead_164 ?_
      refine x_iload X dX2_readMemberHead_167 0 rfl ?_
      obtain ⟨q25, e25, h⟩ := bd h
      refine x_callR X [.int q15] [] (c_X4_isMethodType K.l K.D g q15 q13.2 q25 e25) ok_X4_isMethodType m_X2_144 4 rfl rfl rfl rfl (Nat.le_of_ble_eq_true rfl) ⟨Nat.zero_le _, Nat.zero_le _⟩ ⟨rfl, rfl, by decide, by decide⟩ dX2_readMemberHead_169 ?_
      refine x_if_eq (tgt := 190) X dX2_readMemberHead_172 (by decide) (fun c26 => ?_) (fun c26 => ?_)
      · replace h := if_t c26 h
        refine x_sub [1, 4] rfl ?_
        exact w_X2_readMemberHead_j190 ret X x3 q13.2 h
      · replace h := if_f c26 h
        refine x_goto (tgt := 203) X dX2_readMemberHead_175 (by decide) ?_
        refine x_sub [1, 2, 3, 4, 0] rfl ?_
        exact w_X2_readMemberHead_j203 ret X x1 x2 x3 q15 q13.2 h
  · replace h := if_t c14 h
    refine x_iconst (v := 0) X dX2_readMemberHead_145 (by decide) ?_
    exact x_zret X rfl (Option.some.inj h) dX2_readMemberHead_146
set_option maxRecDepth 100000 in
set_option maxHeartbeats 4000000 in
theorem w_X2_readMemberHead_j121 {K : Cx} {g : Gw} (ret : Int32 × St) (X : XC K g cX2_readMemberHead 7 RX2 (some .boolean) rm_X2_readMemberHead) (x3 : Int32) (u : St) (h : f_X2_readMemberHead_j121 x3 u = some ret) : XW K 0 0 7 (QI K g (wdX g) ret) (wdX g) u 121 [(0, .ref (g.1 2)), (3, .int x3)] [] := by
  unfold f_X2_readMemberHead_j121 at h
  refine x_aload_n X dX2_readMemberHead_121 rfl 0 rfl ?_
  refine x_get (v := .ref (g.1 3)) X 2 0 in_X2 rfl rfl (by decide) m_X2_27 rfl dX2_readMemberHead_122 ?_
  refine x_bipush (v := 15) X dX2_readMemberHead_125 (by decide) ?_
  refine x_iload_n X dX2_readMemberHead_127 rfl 1 rfl ?_
  refine x_iconst (v := 2) X dX2_readMemberHead_128 (by decide) ?_
  refine x_iadd X dX2_readMemberHead_129 ?_
  obtain ⟨q27, e27, h⟩ := bd h
  refine x_callI X [.int 15, .int (x3 + 2)] [] (c_X5_broken K.l K.D g 15 (x3 + 2) u q27 e27) ok_X5_broken m_X2_93 3 rfl rfl rfl rfl (Nat.le_of_ble_eq_true rfl) ⟨Nat.zero_le _, Nat.zero_le _⟩ ⟨rfl, rfl, by decide, by decide⟩ dX2_readMemberHead_130 ?_
  obtain ⟨b28, h⟩ := bchk_some h
  exact x_zret X b28 (Option.some.inj h) dX2_readMemberHead_133
set_option maxRecDepth 100000 in
set_option maxHeartbeats 4000000 in
theorem w_X2_readMemberHead_j65 {K : Cx} {g : Gw} (ret : Int32 × St) (X : XC K g cX2_readMemberHead 7 RX2 (some .boolean) rm_X2_readMemberHead) (x1 : Int32) (x2 : Int32) (x3 : Int32) (u : St) (h : f_X2_readMemberHead_j65 x1 x2 x3 u = some ret) : XW K 0 0 7 (QI K g (wdX g) ret) (wdX g) u 65 [(0, .ref (g.1 2)), (1, .int x1), (2, .int x2), (3, .int x3)] [] := by
  unfold f_X2_readMemberHead_j65 at h
  refine x_aload_n X dX2_readMemberHead_65 rfl 0 rfl ?_
  refine x_get (v := .ref (g.1 3)) X 2 0 in_X2 rfl rfl (by decide) m_X2_27 rfl dX2_readMemberHead_66 ?_
  refine x_iconst (v := 2) X dX2_readMemberHead_69 (by decide) ?_
  obtain ⟨q7, e7, h⟩ := bd h
  refine x_callI X [.int 2] [] (c_X5_step K.l K.D g 2 u q7 e7) ok_X5_step m_X2_100 3 rfl rfl rfl rfl (Nat.le_of_ble_eq_true rfl) ⟨Nat.zero_le _, Nat.zero_le _⟩ ⟨rfl, rfl, by decide, by decide⟩ dX2_readMemberHead_70 ?_
  refine x_if_ne (tgt := 78) X dX2_readMemberHead_73 (by decide) (fun c8 => ?_) (fun c8 => ?_)
  · replace h := if_f c8 h
    refine x_aload_n X dX2_readMemberHead_78 rfl 0 rfl ?_
    refine x_get (v := .ref (g.1 1)) X 2 2 in_X2 rfl rfl (by decide) m_X2_18 rfl dX2_readMemberHead_79 ?_
    refine x_iload_n X dX2_readMemberHead_82 rfl 3 rfl ?_
    refine x_iconst (v := 2) X dX2_readMemberHead_83 (by decide) ?_
    refine x_iadd X dX2_readMemberHead_84 ?_
    obtain ⟨q9, e9, h⟩ := bd h
    refine x_callR X [.int (x3 + 2)] [] (c_X1_u2 K.l K.D g (x3 + 2) q7.2 q9 e9) ok_X1_u2 m_X2_109 1 rfl rfl rfl rfl (Nat.le_of_ble_eq_true rfl) ⟨Nat.zero_le _, Nat.zero_le _⟩ ⟨rfl, rfl, by decide, by decide⟩ dX2_readMemberHead_85 ?_
    refine x_istore (lv2 := [(5, .int q9), (0, .ref (g.1 2)), (1, .int x1), (2, .int x2), (3, .int x3)]) X dX2_readMemberHead_88 (by decide) rfl ?_
    refine x_iload_n X dX2_readMemberHead_90 rfl 3 rfl ?_
    refine x_if_eq (tgt := 109) X dX2_readMemberHead_91 (by decide) (fun c10 => ?_) (fun c10 => ?_)
    · replace h := if_t c10 h
      refine x_aload_n X dX2_readMemberHead_109 rfl 1 rfl ?_
      refine x_get (v := .ref (g.1 4)) X 2 3 in_X2 rfl rfl (by decide) m_X2_36 rfl dX2_readMemberHead_110 ?_
      refine x_iload X dX2_readMemberHead_113 0 rfl ?_
      obtain ⟨q11, e11, h⟩ := bd h
      refine x_callR X [.int q9] [] (c_X4_isFieldName K.l K.D g q9 q7.2 q11 e11) ok_X4_isFieldName m_X2_141 4 rfl rfl rfl rfl (Nat.le_of_ble_eq_true rfl) ⟨Nat.zero_le _, Nat.zero_le _⟩ ⟨rfl, rfl, by decide, by decide⟩ dX2_readMemberHead_115 ?_
      refine x_if_ne (tgt := 134) X dX2_readMemberHead_118 (by decide) (fun c12 => ?_) (fun c12 => ?_)
      · replace h := if_f c12 h
        refine x_sub [1, 2, 3, 4] rfl ?_
        exact w_X2_readMemberHead_j134 ret X x1 x2 x3 q7.2 h
      · replace h := if_t c12 h
        refine x_sub [1, 4] rfl ?_
        exact w_X2_readMemberHead_j121 ret X x3 q7.2 h
    · replace h := if_f c10 h
      refine x_aload_n X dX2_readMemberHead_94 rfl 1 rfl ?_
      refine x_get (v := .ref (g.1 4)) X 2 3 in_X2 rfl rfl (by decide) m_X2_36 rfl dX2_readMemberHead_95 ?_
      refine x_iload X dX2_readMemberHead_98 0 rfl ?_
      obtain ⟨q29, e29, h⟩ := bd h
      refine x_callR X [.int q9] [] (c_X4_isMemberName K.l K.D g q9 q7.2 q29 e29) ok_X4_isMemberName m_X2_138 4 rfl rfl rfl rfl (Nat.le_of_ble_eq_true rfl) ⟨Nat.zero_le _, Nat.zero_le _⟩ ⟨rfl, rfl, by decide, by decide⟩ dX2_readMemberHead_100 ?_
      refine x_if_eq (tgt := 121) X dX2_readMemberHead_103 (by decide) (fun c30 => ?_) (fun c30 => ?_)
      · replace h := if_t c30 h
        refine x_sub [1, 4] rfl ?_
        exact w_X2_readMemberHead_j121 ret X x3 q7.2 h
      · replace h := if_f c30 h
        refine x_goto (tgt := 134) X dX2_readMemberHead_106 (by decide) ?_
        refine x_sub [1, 2, 3, 4] rfl ?_
        exact w_X2_readMemberHead_j134 ret X x1 x2 x3 q7.2 h
  · replace h := if_t c8 h
    refine x_iconst (v := 0) X dX2_readMemberHead_76 (by decide) ?_
    exact x_zret X rfl (Option.some.inj h) dX2_readMemberHead_77
set_option maxRecDepth 100000 in
set_option maxHeartbeats 4000000 in
theorem w_X2_readMemberHead_j54 {K : Cx} {g : Gw} (ret : Int32 × St) (X : XC K g cX2_readMemberHead 7 RX2 (some .boolean) rm_X2_readMemberHead) (x3 : Int32) (u : St) (h : f_X2_readMemberHead_j54 x3 u = some ret) : XW K 0 0 7 (QI K g (wdX g) ret) (wdX g) u 54 [(0, .ref (g.1 2)), (3, .int x3)] [] := by
  unfold f_X2_readMemberHead_j54 at h
  refine x_aload_n X dX2_readMemberHead_54 rfl 0 rfl ?_
  refine x_get (v := .ref (g.1 3)) X 2 0 in_X2 rfl rfl (by decide) m_X2_27 rfl dX2_readMemberHead_55 ?_
  refine x_bipush (v := 14) X dX2_readMemberHead_58 (by decide) ?_
  refine x_iload_n X dX2_readMemberHead_60 rfl 1 rfl ?_
  obtain ⟨q31, e31, h⟩ := bd h
  refine x_callI X [.int 14, .int x3] [] (c_X5_broken K.l K.D g 14 x3 u q31 e31) ok_X5_broken m_X2_93 3 rfl rfl rfl rfl (Nat.le_of_ble_eq_true rfl) ⟨Nat.zero_le _, Nat.zero_le _⟩ ⟨rfl, rfl, by decide, by decide⟩ dX2_readMemberHead_61 ?_
  obtain ⟨b32, h⟩ := bchk_some h
  exact x_zret X b32 (Option.some.inj h) dX2_readMemberHead_64
set_option maxRecDepth 100000 in
set_option maxHeartbeats 4000000 in
theorem c_X2_readMemberHead (l : Launch) (D : va_G) (g : Gw) (p0 : Int32) (p1 : Int32) (u : St) (ret : Int32 × St) (h : f_X2_readMemberHead p0 p1 u = some ret) : metI l D g (wdX g) yX2_readMemberHead cX2_readMemberHead 7 .boolean rm_X2_readMemberHead [.ref (g.1 2), .int p0, .int p1] u ret := by
  refine metI_of (own := RX2) (lv := [(0, .ref (g.1 2)), (1, .int p0), (2, .int p1)]) (by decide) rfl rfl (Nat.le_of_ble_eq_true rfl) (fun K hl9 hD9 X => ?_)
  subst hl9
  subst hD9
  unfold f_X2_readMemberHead at h
  refine x_aload_n X dX2_readMemberHead_0 rfl 0 rfl ?_
  refine x_get (v := .ref (g.1 3)) X 2 0 in_X2 rfl rfl (by decide) m_X2_27 rfl dX2_readMemberHead_1 ?_
  refine x_get (v := .int (u 4 0)) X 3 3 in_X5 rfl rfl (by decide) m_X2_87 rfl dX2_readMemberHead_4 ?_
  refine x_istore_n (lv2 := [(3, .int (u 4 0)), (0, .ref (g.1 2)), (1, .int p0), (2, .int p1)]) X dX2_readMemberHead_7 rfl (by decide) rfl ?_
  refine x_aload_n X dX2_readMemberHead_8 rfl 1 rfl ?_
  refine x_get (v := .ref (g.1 3)) X 2 0 in_X2 rfl rfl (by decide) m_X2_27 rfl dX2_readMemberHead_9 ?_
  refine x_iconst (v := 2) X dX2_readMemberHead_12 (by decide) ?_
  obtain ⟨q1, e1, h⟩ := bd h
  refine x_callI X [.int 2] [] (c_X5_step K.l K.D g 2 u q1 e1) ok_X5_step m_X2_100 3 rfl rfl rfl rfl (Nat.le_of_ble_eq_true rfl) ⟨Nat.zero_le _, Nat.zero_le _⟩ ⟨rfl, rfl, by decide, by decide⟩ dX2_readMemberHead_13 ?_
  refine x_if_ne (tgt := 21) X dX2_readMemberHead_16 (by decide) (fun c2 => ?_) (fun c2 => ?_)
  · replace h := if_f c2 h
    refine x_aload_n X dX2_readMemberHead_21 rfl 1 rfl ?_
    refine x_get (v := .ref (g.1 1)) X 2 2 in_X2 rfl rfl (by decide) m_X2_18 rfl dX2_readMemberHead_22 ?_
    refine x_iload_n X dX2_readMemberHead_25 rfl 0 rfl ?_
    obtain ⟨q3, e3, h⟩ := bd h
    refine x_callR X [.int (u 4 0)] [] (c_X1_u2 K.l K.D g (u 4 0) q1.2 q3 e3) ok_X1_u2 m_X2_109 1 rfl rfl rfl rfl (Nat.le_of_ble_eq_true rfl) ⟨Nat.zero_le _, Nat.zero_le _⟩ ⟨rfl, rfl, by decide, by decide⟩ dX2_readMemberHead_26 ?_
    refine x_istore (lv2 := [(4, .int q3), (3, .int (u 4 0)), (0, .ref (g.1 2)), (1, .int p0), (2, .int p1)]) X dX2_readMemberHead_29 (by decide) rfl ?_
    refine x_iload_n X dX2_readMemberHead_31 rfl 4 rfl ?_
    refine x_if_eq (tgt := 46) X dX2_readMemberHead_32 (by decide) (fun c4 => ?_) (fun c4 => ?_)
    · replace h := if_t c4 h
      refine x_iload X dX2_readMemberHead_46 0 rfl ?_
      obtain ⟨q5, e5, h⟩ := bd h
      refine x_scallR X [.int q3] [] (c_X2_fieldFlagsFit K.l K.D g q3 q1.2 q5 e5) ok_X2_fieldFlagsFit m_X2_135 rfl rfl (Nat.le_of_ble_eq_true rfl) ⟨Nat.zero_le _, Nat.zero_le _⟩ ⟨rfl, rfl, by decide, by decide⟩ dX2_readMemberHead_48 ?_
      refine x_if_ne (tgt := 65) X dX2_readMemberHead_51 (by decide) (fun c6 => ?_) (fun c6 => ?_)
      · replace h := if_f c6 h
        refine x_sub [2, 3, 4, 1] rfl ?_
        exact w_X2_readMemberHead_j65 ret X p0 p1 (u 4 0) q1.2 h
      · replace h := if_t c6 h
        refine x_sub [2, 1] rfl ?_
        exact w_X2_readMemberHead_j54 ret X (u 4 0) q1.2 h
    · replace h := if_f c4 h
      refine x_iload X dX2_readMemberHead_35 0 rfl ?_
      obtain ⟨q33, e33, h⟩ := bd h
      refine x_scallR X [.int q3] [] (c_X2_methodFlagsFit K.l K.D g q3 q1.2 q33 e33) ok_X2_methodFlagsFit m_X2_132 rfl rfl (Nat.le_of_ble_eq_true rfl) ⟨Nat.zero_le _, Nat.zero_le _⟩ ⟨rfl, rfl, by decide, by decide⟩ dX2_readMemberHead_37 ?_
      refine x_if_eq (tgt := 54) X dX2_readMemberHead_40 (by decide) (fun c34 => ?_) (fun c34 => ?_)
      · replace h := if_t c34 h
        refine x_sub [2, 1] rfl ?_
        exact w_X2_readMemberHead_j54 ret X (u 4 0) q1.2 h
      · replace h := if_f c34 h
        refine x_goto (tgt := 65) X dX2_readMemberHead_43 (by decide) ?_
        refine x_sub [2, 3, 4, 1] rfl ?_
        exact w_X2_readMemberHead_j65 ret X p0 p1 (u 4 0) q1.2 h
  · replace h := if_t c2 h
    refine x_iconst (v := 0) X dX2_readMemberHead_19 (by decide) ?_
    exact x_zret X rfl (Option.some.inj h) dX2_readMemberHead_20
