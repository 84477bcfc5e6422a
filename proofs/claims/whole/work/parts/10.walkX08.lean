set_option maxRecDepth 100000 in
set_option maxHeartbeats 4000000 in
theorem w_X2_readAttributeName_j58 {K : Cx} {g : Gw} (ret : Int32 × St) (X : XC K g cX2_readAttributeName 2 RX2 (some .boolean) rm_X2_readAttributeName) (z0 : Int32) (u : St) (h : f_X2_readAttributeName_j58 z0 u = some ret) : XW K 0 0 2 (QI K g (wdX g) ret) (wdX g) u 58 [] [.int z0] := by
  unfold f_X2_readAttributeName_j58 at h
  obtain ⟨b6, h⟩ := bchk_some h
  exact x_zret X b6 (Option.some.inj h) dX2_readAttributeName_58
set_option maxRecDepth 100000 in
set_option maxHeartbeats 4000000 in
theorem w_X2_readAttributeName_j53 {K : Cx} {g : Gw} (ret : Int32 × St) (X : XC K g cX2_readAttributeName 2 RX2 (some .boolean) rm_X2_readAttributeName) (u : St) (h : f_X2_readAttributeName_j53 u = some ret) : XW K 0 0 2 (QI K g (wdX g) ret) (wdX g) u 53 [] [] := by
  unfold f_X2_readAttributeName_j53 at h
  refine x_iconst (v := 1) X dX2_readAttributeName_53 (by decide) ?_
  refine x_goto (tgt := 58) X dX2_readAttributeName_54 (by decide) ?_
  exact w_X2_readAttributeName_j58 ret X 1 u h
set_option maxRecDepth 100000 in
set_option maxHeartbeats 4000000 in
theorem c_X2_readAttributeName (l : Launch) (D : va_G) (g : Gw) (u : St) (ret : Int32 × St) (h : f_X2_readAttributeName u = some ret) : metI l D g (wdX g) yX2_readAttributeName cX2_readAttributeName 2 .boolean rm_X2_readAttributeName [.ref (g.1 2)] u ret := by
  refine metI_of (own := RX2) (lv := [(0, .ref (g.1 2))]) (by decide) rfl rfl (Nat.le_of_ble_eq_true rfl) (fun K hl9 hD9 X => ?_)
  subst hl9
  subst hD9
  unfold f_X2_readAttributeName at h
  refine x_aload_n X dX2_readAttributeName_0 rfl 0 rfl ?_
  refine x_get (v := .ref (g.1 3)) X 2 0 in_X2 rfl rfl (by decide) m_X2_27 rfl dX2_readAttributeName_1 ?_
  refine x_get (v := .int (u 4 0)) X 3 3 in_X5 rfl rfl (by decide) m_X2_87 rfl dX2_readAttributeName_4 ?_
  refine x_istore_n (lv2 := [(1, .int (u 4 0)), (0, .ref (g.1 2))]) X dX2_readAttributeName_7 rfl (by decide) rfl ?_
  refine x_aload_n X dX2_readAttributeName_8 rfl 1 rfl ?_
  refine x_get (v := .ref (g.1 3)) X 2 0 in_X2 rfl rfl (by decide) m_X2_27 rfl dX2_readAttributeName_9 ?_
  refine x_iconst (v := 2) X dX2_readAttributeName_12 (by decide) ?_
  obtain ⟨q1, e1, h⟩ := bd h
  refine x_callI X [.int 2] [] (c_X5_step K.l K.D g 2 u q1 e1) ok_X5_step m_X2_100 3 rfl rfl rfl rfl (Nat.le_of_ble_eq_true rfl) ⟨Nat.zero_le _, Nat.zero_le _⟩ ⟨rfl, rfl, by decide, by decide⟩ dX2_readAttributeName_13 ?_
  refine x_if_ne (tgt := 21) X dX2_readAttributeName_16 (by decide) (fun c2 => ?_) (fun c2 => ?_)
  · replace h := if_f c2 h
    refine x_aload_n X dX2_readAttributeName_21 rfl 1 rfl ?_
    refine x_get (v := .ref (g.1 4)) X 2 3 in_X2 rfl rfl (by decide) m_X2_36 rfl dX2_readAttributeName_22 ?_
    refine x_aload_n X dX2_readAttributeName_25 rfl 1 rfl ?_
    refine x_get (v := .ref (g.1 1)) X 2 2 in_X2 rfl rfl (by decide) m_X2_18 rfl dX2_readAttributeName_26 ?_
    refine x_iload_n X dX2_readAttributeName_29 rfl 0 rfl ?_
    obtain ⟨q3, e3, h⟩ := bd h
    refine x_callR X [.int (u 4 0)] [.ref (g.1 4)] (c_X1_u2 K.l K.D g (u 4 0) q1.2 q3 e3) ok_X1_u2 m_X2_109 1 rfl rfl rfl rfl (Nat.le_of_ble_eq_true rfl) ⟨Nat.zero_le _, Nat.zero_le _⟩ ⟨rfl, rfl, by decide, by decide⟩ dX2_readAttributeName_30 ?_
    obtain ⟨q4, e4, h⟩ := bd h
    refine x_callR X [.int q3] [] (c_X4_kindOf K.l K.D g q3 q1.2 q4 e4) ok_X4_kindOf m_X2_118 4 rfl rfl rfl rfl (Nat.le_of_ble_eq_true rfl) ⟨Nat.zero_le _, Nat.zero_le _⟩ ⟨rfl, rfl, by decide, by decide⟩ dX2_readAttributeName_33 ?_
    refine x_iconst (v := 1) X dX2_readAttributeName_36 (by decide) ?_
    refine x_icmp_eq (tgt := 53) X dX2_readAttributeName_37 (by decide) (fun c5 => ?_) (fun c5 => ?_)
    · replace h := if_t c5 h
      refine x_sub [] rfl ?_
      exact w_X2_readAttributeName_j53 ret X q1.2 h
    · replace h := if_f c5 h
      refine x_aload_n X dX2_readAttributeName_40 rfl 1 rfl ?_
      refine x_get (v := .ref (g.1 3)) X 2 0 in_X2 rfl rfl (by decide) m_X2_27 rfl dX2_readAttributeName_41 ?_
      refine x_bipush (v := 15) X dX2_readAttributeName_44 (by decide) ?_
      refine x_iload_n X dX2_readAttributeName_46 rfl 0 rfl ?_
      obtain ⟨q7, e7, h⟩ := bd h
      refine x_callI X [.int 15, .int (u 4 0)] [] (c_X5_broken K.l K.D g 15 (u 4 0) q1.2 q7 e7) ok_X5_broken m_X2_93 3 rfl rfl rfl rfl (Nat.le_of_ble_eq_true rfl) ⟨Nat.zero_le _, Nat.zero_le _⟩ ⟨rfl, rfl, by decide, by decide⟩ dX2_readAttributeName_47 ?_
      refine x_if_eq (tgt := 57) X dX2_readAttributeName_50 (by decide) (fun c8 => ?_) (fun c8 => ?_)
      · replace h := if_t c8 h
        refine x_iconst (v := 0) X dX2_readAttributeName_57 (by decide) ?_
        refine x_sub [] rfl ?_
        exact w_X2_readAttributeName_j58 ret X 0 q7.2 h
      · replace h := if_f c8 h
        refine x_sub [] rfl ?_
        exact w_X2_readAttributeName_j53 ret X q7.2 h
  · replace h := if_t c2 h
    refine x_iconst (v := 0) X dX2_readAttributeName_19 (by decide) ?_
    exact x_zret X rfl (Option.some.inj h) dX2_readAttributeName_20
set_option maxRecDepth 100000 in
set_option maxHeartbeats 4000000 in
theorem w_X2_stepAttributeBytes_j42 {K : Cx} {g : Gw} (ret : Int32 × St) (X : XC K g cX2_stepAttributeBytes 2 RX2 (some .boolean) rm_X2_stepAttributeBytes) (z0 : Int32) (u : St) (h : f_X2_stepAttributeBytes_j42 z0 u = some ret) : XW K 0 0 2 (QI K g (wdX g) ret) (wdX g) u 42 [] [.int z0] := by
  unfold f_X2_stepAttributeBytes_j42 at h
  obtain ⟨b3, h⟩ := bchk_some h
  exact x_zret X b3 (Option.some.inj h) dX2_stepAttributeBytes_42
set_option maxRecDepth 100000 in
set_option maxHeartbeats 4000000 in
theorem w_X2_stepAttributeBytes_j41 {K : Cx} {g : Gw} (ret : Int32 × St) (X : XC K g cX2_stepAttributeBytes 2 RX2 (some .boolean) rm_X2_stepAttributeBytes) (u : St) (h : f_X2_stepAttributeBytes_j41 u = some ret) : XW K 0 0 2 (QI K g (wdX g) ret) (wdX g) u 41 [] [] := by
  unfold f_X2_stepAttributeBytes_j41 at h
  refine x_iconst (v := 0) X dX2_stepAttributeBytes_41 (by decide) ?_
  exact w_X2_stepAttributeBytes_j42 ret X 0 u h
set_option maxRecDepth 100000 in
set_option maxHeartbeats 4000000 in
theorem c_X2_stepAttributeBytes (l : Launch) (D : va_G) (g : Gw) (u : St) (ret : Int32 × St) (h : f_X2_stepAttributeBytes u = some ret) : metI l D g (wdX g) yX2_stepAttributeBytes cX2_stepAttributeBytes 2 .boolean rm_X2_stepAttributeBytes [.ref (g.1 2)] u ret := by
  refine metI_of (own := RX2) (lv := [(0, .ref (g.1 2))]) (by decide) rfl rfl (Nat.le_of_ble_eq_true rfl) (fun K hl9 hD9 X => ?_)
  subst hl9
  subst hD9
  unfold f_X2_stepAttributeBytes at h
  refine x_aload_n X dX2_stepAttributeBytes_0 rfl 0 rfl ?_
  refine x_get (v := .ref (g.1 3)) X 2 0 in_X2 rfl rfl (by decide) m_X2_27 rfl dX2_stepAttributeBytes_1 ?_
  refine x_get (v := .int (u 4 0)) X 3 3 in_X5 rfl rfl (by decide) m_X2_87 rfl dX2_stepAttributeBytes_4 ?_
  refine x_istore_n (lv2 := [(1, .int (u 4 0)), (0, .ref (g.1 2))]) X dX2_stepAttributeBytes_7 rfl (by decide) rfl ?_
  refine x_aload_n X dX2_stepAttributeBytes_8 rfl 1 rfl ?_
  refine x_get (v := .ref (g.1 3)) X 2 0 in_X2 rfl rfl (by decide) m_X2_27 rfl dX2_stepAttributeBytes_9 ?_
  refine x_iconst (v := 4) X dX2_stepAttributeBytes_12 (by decide) ?_
  obtain ⟨q1, e1, h⟩ := bd h
  refine x_callI X [.int 4] [] (c_X5_step K.l K.D g 4 u q1 e1) ok_X5_step m_X2_100 3 rfl rfl rfl rfl (Nat.le_of_ble_eq_true rfl) ⟨Nat.zero_le _, Nat.zero_le _⟩ ⟨rfl, rfl, by decide, by decide⟩ dX2_stepAttributeBytes_13 ?_
  refine x_if_eq (tgt := 41) X dX2_stepAttributeBytes_16 (by decide) (fun c2 => ?_) (fun c2 => ?_)
  · replace h := if_t c2 h
    refine x_sub [] rfl ?_
    exact w_X2_stepAttributeBytes_j41 ret X q1.2 h
  · replace h := if_f c2 h
    refine x_aload_n X dX2_stepAttributeBytes_19 rfl 1 rfl ?_
    refine x_get (v := .ref (g.1 3)) X 2 0 in_X2 rfl rfl (by decide) m_X2_27 rfl dX2_stepAttributeBytes_20 ?_
    refine x_aload_n X dX2_stepAttributeBytes_23 rfl 1 rfl ?_
    refine x_get (v := .ref (g.1 1)) X 2 2 in_X2 rfl rfl (by decide) m_X2_18 rfl dX2_stepAttributeBytes_24 ?_
    refine x_iload_n X dX2_stepAttributeBytes_27 rfl 0 rfl ?_
    obtain ⟨q4, e4, h⟩ := bd h
    refine x_callR X [.int (u 4 0)] [.ref (g.1 3)] (c_X1_u4 K.l K.D g (u 4 0) q1.2 q4 e4) ok_X1_u4 m_X2_104 1 rfl rfl rfl rfl (Nat.le_of_ble_eq_true rfl) ⟨Nat.zero_le _, Nat.zero_le _⟩ ⟨rfl, rfl, by decide, by decide⟩ dX2_stepAttributeBytes_28 ?_
    obtain ⟨q5, e5, h⟩ := bd h
    refine x_callI X [.int q4] [] (c_X5_step K.l K.D g q4 q1.2 q5 e5) ok_X5_step m_X2_100 3 rfl rfl rfl rfl (Nat.le_of_ble_eq_true rfl) ⟨Nat.zero_le _, Nat.zero_le _⟩ ⟨rfl, rfl, by decide, by decide⟩ dX2_stepAttributeBytes_31 ?_
    refine x_if_eq (tgt := 41) X dX2_stepAttributeBytes_34 (by decide) (fun c6 => ?_) (fun c6 => ?_)
    · replace h := if_t c6 h
      refine x_sub [] rfl ?_
      exact w_X2_stepAttributeBytes_j41 ret X q5.2 h
    · replace h := if_f c6 h
      refine x_iconst (v := 1) X dX2_stepAttributeBytes_37 (by decide) ?_
      refine x_goto (tgt := 42) X dX2_stepAttributeBytes_38 (by decide) ?_
      refine x_sub [] rfl ?_
      exact w_X2_stepAttributeBytes_j42 ret X 1 q5.2 h
abbrev H_X3_isWord_s2_15 (x1 : Int32) (K : Cx) (g : Gw) (u : St) (ret : Int32) (a : Int32) : Prop := XW K 0 0 5 (QI K g (wdX g) (ret, u)) (wdX g) u 15 [(0, .ref (g.1 8)), (1, .int x1), (3, .ref (g.1 102)), (4, .int a)] []
abbrev E_X3_isWord_s2_15 (x1 : Int32) (K : Cx) (g : Gw) (u : St) (ret : Int32) (q : (Int32) ⊕ (Unit)) : Prop := Sum.elim (fun q => q = ret) (fun q => XW K 0 0 5 (QI K g (wdX g) (ret, u)) (wdX g) u 47 [] []) q
set_option maxRecDepth 100000 in
set_option maxHeartbeats 4000000 in
theorem w_X3_isWord_s2_b15 {K : Cx} {g : Gw} (x1 : Int32) (u : St) (ret : Int32) (X : XC K g cX3_isWord 5 RX3 (some .boolean) rm_X3_isWord) (a : Int32) (r : ((Int32) ⊕ (Unit)) ⊕ (Int32)) (h : f_X3_isWord_s2_b15 x1 u a = some r) (k0 : ∀ q, r = .inl q → E_X3_isWord_s2_15 x1 K g u ret q) (k1 : ∀ q, r = .inr q → H_X3_isWord_s2_15 x1 K g u ret q) : H_X3_isWord_s2_15 x1 K g u ret a := by
  unfold f_X3_isWord_s2_b15 at h
  show XW K 0 0 5 (QI K g (wdX g) (ret, u)) (wdX g) u 15 [(0, .ref (g.1 8)), (1, .int x1), (3, .ref (g.1 102)), (4, .int a)] []
  refine x_iload X dX3_isWord_15 3 rfl ?_
  refine x_aload_n X dX3_isWord_17 rfl 2 rfl ?_
  refine x_callSR X 2 (by decide) [] [.int a] (c_S_length K.l K.D g (wdX g) u 2 (by decide) 13 (by decide)) ok_S_length m_X3_34 rfl rfl (Nat.le_of_ble_eq_true rfl) ⟨Nat.zero_le _, Nat.zero_le _⟩ ⟨rfl, rfl, by decide, by decide⟩ dX3_isWord_18 ?_
  refine x_icmp_ge (tgt := 47) X dX3_isWord_21 (by decide) (fun c2 => ?_) (fun c2 => ?_)
  · replace h := if_t c2 h
    refine x_sub [] rfl ?_
    have h9 := k0 _ (Option.some.inj h).symm
    exact h9
  · replace h := if_f c2 h
    refine x_aload_n X dX3_isWord_24 rfl 0 rfl ?_
    refine x_iload_n X dX3_isWord_25 rfl 1 rfl ?_
    refine x_iload X dX3_isWord_26 3 rfl ?_
    refine x_iadd X dX3_isWord_28 ?_
    obtain ⟨i3, h⟩ := chk_some h
    refine x_iald (f := (u 22)) X 8 0 rfl rfl i3 dX3_isWord_29 ?_
    refine x_aload_n X dX3_isWord_30 rfl 2 rfl ?_
    refine x_iload X dX3_isWord_31 3 rfl ?_
    obtain ⟨i4, h⟩ := chk_some h
    refine x_callSR X 2 (by decide) [.int a] [.int ((u 22) (Int32.toNatClampNeg (x1 + a)))] (c_S_charAt K.l K.D g (wdX g) u 2 (by decide) a i4) ok_S_charAt m_X3_40 rfl rfl (Nat.le_of_ble_eq_true rfl) ⟨Nat.zero_le _, Nat.zero_le _⟩ ⟨rfl, rfl, by decide, by decide⟩ dX3_isWord_33 ?_
    refine x_icmp_eq (tgt := 41) X dX3_isWord_36 (by decide) (fun c5 => ?_) (fun c5 => ?_)
    · replace h := if_t c5 h
      refine x_iinc (v := (a + 1)) (lv2 := [(4, .int (a + 1)), (0, .ref (g.1 8)), (1, .int x1), (3, .ref (g.1 102))]) X dX3_isWord_41 3 rfl rfl (by decide) rfl ?_
      refine x_goto (tgt := 15) X dX3_isWord_44 (by decide) ?_
      refine x_sub [1, 2, 3, 0] rfl ?_
      have h9 := k1 _ (Option.some.inj h).symm
      exact h9
    · replace h := if_f c5 h
      refine x_iconst (v := 0) X dX3_isWord_39 (by decide) ?_
      exact x_zret X rfl (roE (k0 _ (Option.some.inj h).symm)) dX3_isWord_40
set_option maxRecDepth 100000 in
set_option maxHeartbeats 4000000 in
theorem c_X3_isWord_s2 (l : Launch) (D : va_G) (g : Gw) (p1 : Int32) (p2 : Int32) (u : St) (ret : Int32) (h : f_X3_isWord_s2 p1 p2 u = some ret) : metI l D g (wdX g) yX3_isWord cX3_isWord 5 .boolean rm_X3_isWord [.ref (g.1 8), .int p1, .int p2, .ref (g.1 102)] u (ret, u) := by
  refine metI_of (own := RX3) (lv := [(0, .ref (g.1 8)), (1, .int p1), (2, .int p2), (3, .ref (g.1 102))]) (by decide) rfl rfl (Nat.le_of_ble_eq_true rfl) (fun K hl9 hD9 X => ?_)
  subst hl9
  subst hD9
  unfold f_X3_isWord_s2 at h
  refine x_iload_n X dX3_isWord_0 rfl 2 rfl ?_
  refine x_iload_n X dX3_isWord_1 rfl 1 rfl ?_
  refine x_isub X dX3_isWord_2 ?_
  refine x_aload_n X dX3_isWord_3 rfl 3 rfl ?_
  refine x_callSR X 2 (by decide) [] [.int (p2 - p1)] (c_S_length K.l K.D g (wdX g) u 2 (by decide) 13 (by decide)) ok_S_length m_X3_34 rfl rfl (Nat.le_of_ble_eq_true rfl) ⟨Nat.zero_le _, Nat.zero_le _⟩ ⟨rfl, rfl, by decide, by decide⟩ dX3_isWord_4 ?_
  refine x_icmp_eq (tgt := 12) X dX3_isWord_7 (by decide) (fun c1 => ?_) (fun c1 => ?_)
  · replace h := if_t c1 h
    refine x_iconst (v := 0) X dX3_isWord_12 (by decide) ?_
    refine x_istore (lv2 := [(4, .int 0), (0, .ref (g.1 8)), (1, .int p1), (2, .int p2), (3, .ref (g.1 102))]) X dX3_isWord_13 (by decide) rfl ?_
    refine x_sub [1, 2, 4, 0] rfl ?_
    obtain ⟨q60, e6, h⟩ := bd h
    refine loopF_w (WH := H_X3_isWord_s2_15 p1 K g u ret) (KB := E_X3_isWord_s2_15 p1 K g u ret) (fun a9 r9 h9 k8 k7 => w_X3_isWord_s2_b15 p1 u ret X a9 r9 h9 k8 k7) FU 0 q60 e6 ?_
    rcases q60 with q6 | q6
    · replace h := sl h
      exact (Option.some.inj h)
    · replace h := sr h
      show XW K 0 0 5 (QI K g (wdX g) (ret, u)) (wdX g) u 47 [] []
      refine x_iconst (v := 1) X dX3_isWord_47 (by decide) ?_
      exact x_zret X rfl (roE (Option.some.inj h)) dX3_isWord_48
  · replace h := if_f c1 h
    refine x_iconst (v := 0) X dX3_isWord_10 (by decide) ?_
    exact x_zret X rfl (roE (Option.some.inj h)) dX3_isWord_11
set_option maxRecDepth 100000 in
set_option maxHeartbeats 4000000 in
theorem c_X4_isWord_s2 (l : Launch) (D : va_G) (g : Gw) (p0 : Int32) (u : St) (ret : Int32) (h : f_X4_isWord_s2 p0 u = some ret) : metI l D g (wdX g) yX4_isWord cX4_isWord 3 .boolean rm_X4_isWord [.ref (g.1 4), .int p0, .ref (g.1 102)] u (ret, u) := by
  refine metI_of (own := RX4) (lv := [(0, .ref (g.1 4)), (1, .int p0), (2, .ref (g.1 102))]) (by decide) rfl rfl (Nat.le_of_ble_eq_true rfl) (fun K hl9 hD9 X => ?_)
  subst hl9
  subst hD9
  unfold f_X4_isWord_s2 at h
  refine x_aload_n X dX4_isWord_0 rfl 0 rfl ?_
  refine x_get (v := .ref (g.1 1)) X 4 0 in_X4 rfl rfl (by decide) m_X4_30 rfl dX4_isWord_1 ?_
  refine x_get (v := .ref (g.1 8)) X 1 0 in_X1 rfl rfl (by decide) m_X4_53 rfl dX4_isWord_4 ?_
  refine x_aload_n X dX4_isWord_7 rfl 0 rfl ?_
  refine x_iload_n X dX4_isWord_8 rfl 1 rfl ?_
  obtain ⟨q1, e1, h⟩ := bd h
  refine x_callR X [.int p0] [.ref (g.1 8)] (c_X4_textStart K.l K.D g p0 u q1 e1) ok_X4_textStart m_X4_86 4 rfl rfl rfl rfl (Nat.le_of_ble_eq_true rfl) ⟨Nat.zero_le _, Nat.zero_le _⟩ ⟨rfl, rfl, by decide, by decide⟩ dX4_isWord_9 ?_
  refine x_aload_n X dX4_isWord_12 rfl 0 rfl ?_
  refine x_iload_n X dX4_isWord_13 rfl 1 rfl ?_
  obtain ⟨q2, e2, h⟩ := bd h
  refine x_callR X [.int p0] [.int q1, .ref (g.1 8)] (c_X4_textEnd K.l K.D g p0 u q2 e2) ok_X4_textEnd m_X4_89 4 rfl rfl rfl rfl (Nat.le_of_ble_eq_true rfl) ⟨Nat.zero_le _, Nat.zero_le _⟩ ⟨rfl, rfl, by decide, by decide⟩ dX4_isWord_14 ?_
  refine x_aload_n X dX4_isWord_17 rfl 2 rfl ?_
  obtain ⟨q3, e3, h⟩ := bd h
  refine x_scallR X [.ref (g.1 8), .int q1, .int q2, .ref (g.1 102)] [] (c_X3_isWord_s2 K.l K.D g q1 q2 u q3 e3) ok_X3_isWord m_X4_112 rfl rfl (Nat.le_of_ble_eq_true rfl) ⟨Nat.zero_le _, Nat.zero_le _⟩ ⟨rfl, rfl, by decide, by decide⟩ dX4_isWord_18 ?_
  obtain ⟨b4, h⟩ := bchk_some h
  exact x_zret X b4 (roE (Option.some.inj h)) dX4_isWord_21
set_option maxRecDepth 100000 in
set_option maxHeartbeats 4000000 in
theorem w_X2_constantFits_j118 {K : Cx} {g : Gw} (ret : Int32) (X : XC K g cX2_constantFits 4 RX2 (some .boolean) rm_X2_constantFits) (z0 : Int32) (u : St) (h : f_X2_constantFits_j118 z0 u = some ret) : XW K 0 0 4 (QI K g (wdX g) (ret, u)) (wdX g) u 118 [] [.int z0] := by
  unfold f_X2_constantFits_j118 at h
  obtain ⟨b9, h⟩ := bchk_some h
  exact x_zret X b9 (roE (Option.some.inj h)) dX2_constantFits_118
set_option maxRecDepth 100000 in
set_option maxHeartbeats 4000000 in
theorem w_X2_constantFits_j129 {K : Cx} {g : Gw} (ret : Int32) (X : XC K g cX2_constantFits 4 RX2 (some .boolean) rm_X2_constantFits) (z0 : Int32) (u : St) (h : f_X2_constantFits_j129 z0 u = some ret) : XW K 0 0 4 (QI K g (wdX g) (ret, u)) (wdX g) u 129 [] [.int z0] := by
  unfold f_X2_constantFits_j129 at h
  obtain ⟨b11, h⟩ := bchk_some h
  exact x_zret X b11 (roE (Option.some.inj h)) dX2_constantFits_129
set_option maxRecDepth 100000 in
set_option maxHeartbeats 4000000 in
theorem c_X2_constantFits (l : Launch) (D : va_G) (g : Gw) (p0 : Int32) (p1 : Int32) (u : St) (ret : Int32) (h : f_X2_constantFits p0 p1 u = some ret) : metI l D g (wdX g) yX2_constantFits cX2_constantFits 4 .boolean rm_X2_constantFits [.ref (g.1 2), .int p0, .int p1] u (ret, u) := by
  refine metI_of (own := RX2) (lv := [(0, .ref (g.1 2)), (1, .int p0), (2, .int p1)]) (by decide) rfl rfl (Nat.le_of_ble_eq_true rfl) (fun K hl9 hD9 X => ?_)
  subst hl9
  subst hD9
  unfold f_X2_constantFits at h
  refine x_aload_n X dX2_constantFits_0 rfl 0 rfl ?_
  refine x_get (v := .ref (g.1 1)) X 2 2 in_X2 rfl rfl (by decide) m_X2_18 rfl dX2_constantFits_1 ?_
  refine x_iload_n X dX2_constantFits_4 rfl 1 rfl ?_
  refine x_iconst (v := 2) X dX2_constantFits_5 (by decide) ?_
  refine x_iadd X dX2_constantFits_6 ?_
  obtain ⟨q1, e1, h⟩ := bd h
  refine x_callR X [.int (p0 + 2)] [] (c_X1_u4 K.l K.D g (p0 + 2) u q1 e1) ok_X1_u4 m_X2_104 1 rfl rfl rfl rfl (Nat.le_of_ble_eq_true rfl) ⟨Nat.zero_le _, Nat.zero_le _⟩ ⟨rfl, rfl, by decide, by decide⟩ dX2_constantFits_7 ?_
  refine x_iconst (v := 2) X dX2_constantFits_10 (by decide) ?_
  refine x_icmp_eq (tgt := 16) X dX2_constantFits_11 (by decide) (fun c2 => ?_) (fun c2 => ?_)
  · replace h := if_t c2 h
    refine x_aload_n X dX2_constantFits_16 rfl 0 rfl ?_
    refine x_get (v := .ref (g.1 4)) X 2 3 in_X2 rfl rfl (by decide) m_X2_36 rfl dX2_constantFits_17 ?_
    refine x_aload_n X dX2_constantFits_20 rfl 0 rfl ?_
    refine x_get (v := .ref (g.1 1)) X 2 2 in_X2 rfl rfl (by decide) m_X2_18 rfl dX2_constantFits_21 ?_
    refine x_iload_n X dX2_constantFits_24 rfl 1 rfl ?_
    refine x_bipush (v := 6) X dX2_constantFits_25 (by decide) ?_
    refine x_iadd X dX2_constantFits_27 ?_
    obtain ⟨q3, e3, h⟩ := bd h
    refine x_callR X [.int (p0 + 6)] [.ref (g.1 4)] (c_X1_u2 K.l K.D g (p0 + 6) u q3 e3) ok_X1_u2 m_X2_109 1 rfl rfl rfl rfl (Nat.le_of_ble_eq_true rfl) ⟨Nat.zero_le _, Nat.zero_le _⟩ ⟨rfl, rfl, by decide, by decide⟩ dX2_constantFits_28 ?_
    obtain ⟨q4, e4, h⟩ := bd h
    refine x_callR X [.int q3] [] (c_X4_kindOf K.l K.D g q3 u q4 e4) ok_X4_kindOf m_X2_118 4 rfl rfl rfl rfl (Nat.le_of_ble_eq_true rfl) ⟨Nat.zero_le _, Nat.zero_le _⟩ ⟨rfl, rfl, by decide, by decide⟩ dX2_constantFits_31 ?_
    refine x_istore_n (lv2 := [(3, .int q4), (0, .ref (g.1 2)), (1, .int p0), (2, .int p1)]) X dX2_constantFits_34 rfl (by decide) rfl ?_
    refine x_aload_n X dX2_constantFits_35 rfl 1 rfl ?_
    refine x_get (v := .ref (g.1 1)) X 2 2 in_X2 rfl rfl (by decide) m_X2_18 rfl dX2_constantFits_36 ?_
    refine x_get (v := .ref (g.1 8)) X 1 0 in_X1 rfl rfl (by decide) m_X2_157 rfl dX2_constantFits_39 ?_
    refine x_aload_n X dX2_constantFits_42 rfl 1 rfl ?_
    refine x_get (v := .ref (g.1 4)) X 2 3 in_X2 rfl rfl (by decide) m_X2_36 rfl dX2_constantFits_43 ?_
    refine x_iload_n X dX2_constantFits_46 rfl 3 rfl ?_
    obtain ⟨q5, e5, h⟩ := bd h
    refine x_callR X [.int p1] [.ref (g.1 8)] (c_X4_textStart K.l K.D g p1 u q5 e5) ok_X4_textStart m_X2_160 4 rfl rfl rfl rfl (Nat.le_of_ble_eq_true rfl) ⟨Nat.zero_le _, Nat.zero_le _⟩ ⟨rfl, rfl, by decide, by decide⟩ dX2_constantFits_47 ?_
    obtain ⟨i6, h⟩ := chk_some h
    refine x_iald (f := (u 22)) X 8 0 rfl rfl i6 dX2_constantFits_50 ?_
    by_cases c7_0 : ((u 22) (Int32.toNatClampNeg q5)) = 66 ∨ ((u 22) (Int32.toNatClampNeg q5)) = 67 ∨ ((u 22) (Int32.toNatClampNeg q5)) = 73 ∨ ((u 22) (Int32.toNatClampNeg q5)) = 83 ∨ ((u 22) (Int32.toNatClampNeg q5)) = 90
    · replace h := if_t c7_0 h
      have k9 : XW K 0 0 4 (QI K g (wdX g) (ret, u)) (wdX g) u 108 [(3, .int q4), (0, .ref (g.1 2)), (1, .int p0), (2, .int p1)] [] := by
        refine x_iload_n X dX2_constantFits_108 rfl 0 rfl ?_
        refine x_iconst (v := 3) X dX2_constantFits_109 (by decide) ?_
        refine x_icmp_ne (tgt := 117) X dX2_constantFits_110 (by decide) (fun c8 => ?_) (fun c8 => ?_)
        · replace h := if_f c8 h
          refine x_iconst (v := 0) X dX2_constantFits_117 (by decide) ?_
          refine x_sub [] rfl ?_
          exact w_X2_constantFits_j118 ret X 0 u h
        · replace h := if_t c8 h
          refine x_iconst (v := 1) X dX2_constantFits_113 (by decide) ?_
          refine x_goto (tgt := 118) X dX2_constantFits_114 (by decide) ?_
          refine x_sub [] rfl ?_
          exact w_X2_constantFits_j118 ret X 1 u h
      rcases c7_0 with c7_0 | c7_0 | c7_0 | c7_0 | c7_0 <;> exact x_lookup (off := 57) (tgt := 108) X dX2_constantFits_51 (by decide) (by rw [c7_0]; decide) (by decide) k9
    replace h := if_f c7_0 h
    by_cases c7_1 : ((u 22) (Int32.toNatClampNeg q5)) = 74
    · replace h := if_t c7_1 h
      have k9 : XW K 0 0 4 (QI K g (wdX g) (ret, u)) (wdX g) u 119 [(3, .int q4), (0, .ref (g.1 2)), (1, .int p0), (2, .int p1)] [] := by
        refine x_iload_n X dX2_constantFits_119 rfl 0 rfl ?_
        refine x_iconst (v := 5) X dX2_constantFits_120 (by decide) ?_
        refine x_icmp_ne (tgt := 128) X dX2_constantFits_121 (by decide) (fun c10 => ?_) (fun c10 => ?_)
        · replace h := if_f c10 h
          refine x_iconst (v := 0) X dX2_constantFits_128 (by decide) ?_
          refine x_sub [] rfl ?_
          exact w_X2_constantFits_j129 ret X 0 u h
        · replace h := if_t c10 h
          refine x_iconst (v := 1) X dX2_constantFits_124 (by decide) ?_
          refine x_goto (tgt := 129) X dX2_constantFits_125 (by decide) ?_
          refine x_sub [] rfl ?_
          exact w_X2_constantFits_j129 ret X 1 u h
      exact x_lookup (off := 68) (tgt := 119) X dX2_constantFits_51 (by decide) (by rw [c7_1]; decide) (by decide) k9
    replace h := if_f c7_1 h
    refine x_lookup (off := 79) (tgt := 130) X dX2_constantFits_51 (by decide) ((lv_osw (fun q9 => c7_0 (.inl q9)) (by decide)).trans ((lv_osw (fun q9 => c7_0 (.inr (.inl q9))) (by decide)).trans ((lv_osw (fun q9 => c7_0 (.inr (.inr (.inl q9)))) (by decide)).trans ((lv_osw c7_1 (by decide)).trans ((lv_osw (fun q9 => c7_0 (.inr (.inr (.inr (.inl q9))))) (by decide)).trans ((lv_osw (fun q9 => c7_0 (.inr (.inr (.inr (.inr q9))))) (by decide)).trans rfl)))))) (by decide) ?_
    refine x_iconst (v := 0) X dX2_constantFits_130 (by decide) ?_
    exact x_zret X rfl (roE (Option.some.inj h)) dX2_constantFits_131
  · replace h := if_f c2 h
    refine x_iconst (v := 0) X dX2_constantFits_14 (by decide) ?_
    exact x_zret X rfl (roE (Option.some.inj h)) dX2_constantFits_15
set_option maxRecDepth 100000 in
set_option maxHeartbeats 4000000 in
theorem w_X2_readFieldAttribute_j22 {K : Cx} {g : Gw} (ret : Int32 × St) (X : XC K g cX2_readFieldAttribute 3 RX2 (some .boolean) rm_X2_readFieldAttribute) (u : St) (h : f_X2_readFieldAttribute_j22 u = some ret) : XW K 0 0 3 (QI K g (wdX g) ret) (wdX g) u 22 [] [] := by
  unfold f_X2_readFieldAttribute_j22 at h
  refine x_iconst (v := 0) X dX2_readFieldAttribute_22 (by decide) ?_
  exact x_zret X rfl (Option.some.inj h) dX2_readFieldAttribute_23
set_option maxRecDepth 100000 in
set_option maxHeartbeats 4000000 in
theorem w_X2_readFieldAttribute_j64 {K : Cx} {g : Gw} (ret : Int32 × St) (X : XC K g cX2_readFieldAttribute 3 RX2 (some .boolean) rm_X2_readFieldAttribute) (u : St) (h : f_X2_readFieldAttribute_j64 u = some ret) : XW K 0 0 3 (QI K g (wdX g) ret) (wdX g) u 64 [(0, .ref (g.1 2))] [] := by
  unfold f_X2_readFieldAttribute_j64 at h
  refine x_aload_n X dX2_readFieldAttribute_64 rfl 0 rfl ?_
  refine x_get (v := .ref (g.1 9)) X 2 1 in_X2 rfl rfl (by decide) m_X2_11 rfl dX2_readFieldAttribute_65 ?_
  refine x_iconst (v := 5) X dX2_readFieldAttribute_68 (by decide) ?_
  refine x_dup2 X dX2_readFieldAttribute_69 rfl rfl ?_
  obtain ⟨i8, h⟩ := chk_some h
  refine x_iald (f := (u 23)) X 9 0 rfl rfl i8 dX2_readFieldAttribute_70 ?_
  refine x_iconst (v := 1) X dX2_readFieldAttribute_71 (by decide) ?_
  refine x_iadd X dX2_readFieldAttribute_72 ?_
  obtain ⟨i9, h⟩ := chk_some h
  refine x_iast (f := (u 23)) (u2 := (up u 23 (Int32.toNatClampNeg 5) (((u 23) (Int32.toNatClampNeg 5)) + 1))) X 9 0 rfl rfl i9 (wdX_23 g u (Int32.toNatClampNeg 5) (((u 23) (Int32.toNatClampNeg 5)) + 1)) dX2_readFieldAttribute_73 ?_
  refine x_iconst (v := 1) X dX2_readFieldAttribute_74 (by decide) ?_
  exact x_zret X rfl (Option.some.inj h) dX2_readFieldAttribute_75
set_option maxRecDepth 100000 in
set_option maxHeartbeats 4000000 in
theorem c_X2_readFieldAttribute (l : Launch) (D : va_G) (g : Gw) (p0 : Int32) (u : St) (ret : Int32 × St) (h : f_X2_readFieldAttribute p0 u = some ret) : metI l D g (wdX g) yX2_readFieldAttribute cX2_readFieldAttribute 3 .boolean rm_X2_readFieldAttribute [.ref (g.1 2), .int p0] u ret := by
  refine metI_of (own := RX2) (lv := [(0, .ref (g.1 2)), (1, .int p0)]) (by decide) rfl rfl (Nat.le_of_ble_eq_true rfl) (fun K hl9 hD9 X => ?_)
  subst hl9
  subst hD9
  unfold f_X2_readFieldAttribute at h
  refine x_aload_n X dX2_readFieldAttribute_0 rfl 0 rfl ?_
  refine x_get (v := .ref (g.1 3)) X 2 0 in_X2 rfl rfl (by decide) m_X2_27 rfl dX2_readFieldAttribute_1 ?_
  refine x_get (v := .int (u 4 0)) X 3 3 in_X5 rfl rfl (by decide) m_X2_87 rfl dX2_readFieldAttribute_4 ?_
  refine x_istore_n (lv2 := [(2, .int (u 4 0)), (0, .ref (g.1 2)), (1, .int p0)]) X dX2_readFieldAttribute_7 rfl (by decide) rfl ?_
  refine x_aload_n X dX2_readFieldAttribute_8 rfl 1 rfl ?_
  obtain ⟨q1, e1, h⟩ := bd h
  refine x_callI X [] [] (c_X2_readAttributeName K.l K.D g u q1 e1) ok_X2_readAttributeName m_X2_189 2 rfl rfl rfl rfl (Nat.le_of_ble_eq_true rfl) ⟨Nat.zero_le _, Nat.zero_le _⟩ ⟨rfl, rfl, by decide, by decide⟩ dX2_readFieldAttribute_9 ?_
  refine x_if_eq (tgt := 22) X dX2_readFieldAttribute_12 (by decide) (fun c2 => ?_) (fun c2 => ?_)
  · replace h := if_t c2 h
    refine x_sub [] rfl ?_
    exact w_X2_readFieldAttribute_j22 ret X q1.2 h
  · replace h := if_f c2 h
    refine x_aload_n X dX2_readFieldAttribute_15 rfl 1 rfl ?_
    obtain ⟨q3, e3, h⟩ := bd h
    refine x_callI X [] [] (c_X2_stepAttributeBytes K.l K.D g q1.2 q3 e3) ok_X2_stepAttributeBytes m_X2_192 2 rfl rfl rfl rfl (Nat.le_of_ble_eq_true rfl) ⟨Nat.zero_le _, Nat.zero_le _⟩ ⟨rfl, rfl, by decide, by decide⟩ dX2_readFieldAttribute_16 ?_
    refine x_if_ne (tgt := 24) X dX2_readFieldAttribute_19 (by decide) (fun c4 => ?_) (fun c4 => ?_)
    · replace h := if_f c4 h
      refine x_aload_n X dX2_readFieldAttribute_24 rfl 1 rfl ?_
      refine x_get (v := .ref (g.1 4)) X 2 3 in_X2 rfl rfl (by decide) m_X2_36 rfl dX2_readFieldAttribute_25 ?_
      refine x_aload_n X dX2_readFieldAttribute_28 rfl 1 rfl ?_
      refine x_get (v := .ref (g.1 1)) X 2 2 in_X2 rfl rfl (by decide) m_X2_18 rfl dX2_readFieldAttribute_29 ?_
      refine x_iload_n X dX2_readFieldAttribute_32 rfl 0 rfl ?_
      obtain ⟨q5, e5, h⟩ := bd h
      refine x_callR X [.int (u 4 0)] [.ref (g.1 4)] (c_X1_u2 K.l K.D g (u 4 0) q3.2 q5 e5) ok_X1_u2 m_X2_109 1 rfl rfl rfl rfl (Nat.le_of_ble_eq_true rfl) ⟨Nat.zero_le _, Nat.zero_le _⟩ ⟨rfl, rfl, by decide, by decide⟩ dX2_readFieldAttribute_33 ?_
      refine x_ldcS (q := g.1 102) X X.2.2.2.1.2.2.2.2.1 dX2_readFieldAttribute_36 ?_
      obtain ⟨q6, e6, h⟩ := bd h
      refine x_callR X [.int q5, .ref (g.1 102)] [] (c_X4_isWord_s2 K.l K.D g q5 q3.2 q6 e6) ok_X4_isWord m_X2_197 4 rfl rfl rfl rfl (Nat.le_of_ble_eq_true rfl) ⟨Nat.zero_le _, Nat.zero_le _⟩ ⟨rfl, rfl, by decide, by decide⟩ dX2_readFieldAttribute_38 ?_
      refine x_if_eq (tgt := 64) X dX2_readFieldAttribute_41 (by decide) (fun c7 => ?_) (fun c7 => ?_)
      · replace h := if_t c7 h
        refine x_sub [1] rfl ?_
        exact w_X2_readFieldAttribute_j64 ret X q3.2 h
      · replace h := if_f c7 h
        refine x_aload_n X dX2_readFieldAttribute_44 rfl 1 rfl ?_
        refine x_iload_n X dX2_readFieldAttribute_45 rfl 0 rfl ?_
        refine x_iload_n X dX2_readFieldAttribute_46 rfl 2 rfl ?_
        obtain ⟨q10, e10, h⟩ := bd h
        refine x_callR X [.int (u 4 0), .int p0] [] (c_X2_constantFits K.l K.D g (u 4 0) p0 q3.2 q10 e10) ok_X2_constantFits m_X2_201 2 rfl rfl rfl rfl (Nat.le_of_ble_eq_true rfl) ⟨Nat.zero_le _, Nat.zero_le _⟩ ⟨rfl, rfl, by decide, by decide⟩ dX2_readFieldAttribute_47 ?_
        refine x_if_ne (tgt := 64) X dX2_readFieldAttribute_50 (by decide) (fun c11 => ?_) (fun c11 => ?_)
        · replace h := if_f c11 h
          refine x_sub [1] rfl ?_
          exact w_X2_readFieldAttribute_j64 ret X q3.2 h
        · replace h := if_t c11 h
          refine x_aload_n X dX2_readFieldAttribute_53 rfl 1 rfl ?_
          refine x_get (v := .ref (g.1 3)) X 2 0 in_X2 rfl rfl (by decide) m_X2_27 rfl dX2_readFieldAttribute_54 ?_
          refine x_bipush (v := 18) X dX2_readFieldAttribute_57 (by decide) ?_
          refine x_iload_n X dX2_readFieldAttribute_59 rfl 0 rfl ?_
          obtain ⟨q12, e12, h⟩ := bd h
          refine x_callI X [.int 18, .int (u 4 0)] [] (c_X5_broken K.l K.D g 18 (u 4 0) q3.2 q12 e12) ok_X5_broken m_X2_93 3 rfl rfl rfl rfl (Nat.le_of_ble_eq_true rfl) ⟨Nat.zero_le _, Nat.zero_le _⟩ ⟨rfl, rfl, by decide, by decide⟩ dX2_readFieldAttribute_60 ?_
          obtain ⟨b13, h⟩ := bchk_some h
          exact x_zret X b13 (Option.some.inj h) dX2_readFieldAttribute_63
    · replace h := if_t c4 h
      refine x_sub [] rfl ?_
      exact w_X2_readFieldAttribute_j22 ret X q3.2 h
abbrev H_X2_readFields_7 (x1 : Int32) (K : Cx) (g : Gw) (ret : Int32 × St) (a : Int32 × St) : Prop := XW K 0 0 5 (QI K g (wdX g) ret) (wdX g) a.2 7 [(0, .ref (g.1 2)), (1, .int x1), (2, .int a.1)] []
abbrev E_X2_readFields_7 (x1 : Int32) (K : Cx) (g : Gw) (ret : Int32 × St) (q : (Int32 × St) ⊕ (St)) : Prop := Sum.elim (fun q => q = ret) (fun q => XW K 0 0 5 (QI K g (wdX g) ret) (wdX g) q 90 [(1, .int x1)] []) q
abbrev H_X2_readFields_31 (x1 : Int32) (x2 : Int32) (x3 : Int32) (K : Cx) (g : Gw) (ret : Int32 × St) (a : Int32 × St) : Prop := XW K 0 0 5 (QI K g (wdX g) ret) (wdX g) a.2 31 [(0, .ref (g.1 2)), (1, .int x1), (2, .int x2), (3, .int x3), (4, .int a.1)] []
abbrev E_X2_readFields_31 (x1 : Int32) (x2 : Int32) (x3 : Int32) (K : Cx) (g : Gw) (ret : Int32 × St) (q : (Int32 × St) ⊕ (St)) : Prop := Sum.elim (fun q => q = ret) (fun q => XW K 0 0 5 (QI K g (wdX g) ret) (wdX g) q 67 [(0, .ref (g.1 2)), (1, .int x1), (2, .int x2), (3, .int x3)] []) q
set_option maxRecDepth 100000 in
set_option maxHeartbeats 4000000 in
theorem w_X2_readFields_b31 {K : Cx} {g : Gw} (x1 : Int32) (x2 : Int32) (x3 : Int32) (ret : Int32 × St) (X : XC K g cX2_readFields 5 RX2 (some .boolean) rm_X2_readFields) (a : Int32 × St) (r : ((Int32 × St) ⊕ (St)) ⊕ (Int32 × St)) (h : f_X2_readFields_b31 x1 x2 x3 a = some r) (k0 : ∀ q, r = .inl q → E_X2_readFields_31 x1 x2 x3 K g ret q) (k1 : ∀ q, r = .inr q → H_X2_readFields_31 x1 x2 x3 K g ret q) : H_X2_readFields_31 x1 x2 x3 K g ret a := by
  unfold f_X2_readFields_b31 at h
  show XW K 0 0 5 (QI K g (wdX g) ret) (wdX g) a.2 31 [(0, .ref (g.1 2)), (1, .int x1), (2, .int x2), (3, .int x3), (4, .int a.1)] []
  refine x_iload X dX2_readFields_31 4 rfl ?_
  refine x_iload_n X dX2_readFields_33 rfl 3 rfl ?_
  refine x_icmp_ge (tgt := 67) X dX2_readFields_34 (by decide) (fun c6 => ?_) (fun c6 => ?_)
  · replace h := if_t c6 h
    refine x_sub [0, 1, 2, 3] rfl ?_
    have h9 := k0 _ (Option.some.inj h).symm
    exact h9
  · replace h := if_f c6 h
    refine x_aload_n X dX2_readFields_37 rfl 0 rfl ?_
    refine x_aload_n X dX2_readFields_38 rfl 0 rfl ?_
    refine x_get (v := .ref (g.1 1)) X 2 2 in_X2 rfl rfl (by decide) m_X2_18 rfl dX2_readFields_39 ?_
    refine x_aload_n X dX2_readFields_42 rfl 0 rfl ?_
    refine x_get (v := .ref (g.1 10)) X 2 5 in_X2 rfl rfl (by decide) m_X2_15 rfl dX2_readFields_43 ?_
    refine x_iload_n X dX2_readFields_46 rfl 2 rfl ?_
    obtain ⟨i7, h⟩ := chk_some h
    refine x_iald (f := (a.2 24)) X 10 0 rfl rfl i7 dX2_readFields_47 ?_
    refine x_iconst (v := 4) X dX2_readFields_48 (by decide) ?_
    refine x_iadd X dX2_readFields_49 ?_
    obtain ⟨q8, e8, h⟩ := bd h
    refine x_callR X [.int (((a.2 24) (Int32.toNatClampNeg x2)) + 4)] [.ref (g.1 2)] (c_X1_u2 K.l K.D g (((a.2 24) (Int32.toNatClampNeg x2)) + 4) a.2 q8 e8) ok_X1_u2 m_X2_109 1 rfl rfl rfl rfl (Nat.le_of_ble_eq_true rfl) ⟨Nat.zero_le _, Nat.zero_le _⟩ ⟨rfl, rfl, by decide, by decide⟩ dX2_readFields_50 ?_
    obtain ⟨q9, e9, h⟩ := bd h
    refine x_callI X [.int q8] [] (c_X2_readFieldAttribute K.l K.D g q8 a.2 q9 e9) ok_X2_readFieldAttribute m_X2_129 2 rfl rfl rfl rfl (Nat.le_of_ble_eq_true rfl) ⟨Nat.zero_le _, Nat.zero_le _⟩ ⟨rfl, rfl, by decide, by decide⟩ dX2_readFields_53 ?_
    refine x_if_ne (tgt := 61) X dX2_readFields_56 (by decide) (fun c10 => ?_) (fun c10 => ?_)
    · replace h := if_f c10 h
      refine x_iinc (v := (a.1 + 1)) (lv2 := [(4, .int (a.1 + 1)), (0, .ref (g.1 2)), (1, .int x1), (2, .int x2), (3, .int x3)]) X dX2_readFields_61 4 rfl rfl (by decide) rfl ?_
      refine x_goto (tgt := 31) X dX2_readFields_64 (by decide) ?_
      refine x_sub [1, 2, 3, 4, 0] rfl ?_
      have h9 := k1 _ (Option.some.inj h).symm
      exact h9
    · replace h := if_t c10 h
      refine x_iconst (v := 0) X dX2_readFields_59 (by decide) ?_
      exact x_zret X rfl (k0 _ (Option.some.inj h).symm) dX2_readFields_60
set_option maxRecDepth 100000 in
set_option maxHeartbeats 4000000 in
theorem w_X2_readFields_b7 {K : Cx} {g : Gw} (x1 : Int32) (ret : Int32 × St) (X : XC K g cX2_readFields 5 RX2 (some .boolean) rm_X2_readFields) (a : Int32 × St) (r : ((Int32 × St) ⊕ (St)) ⊕ (Int32 × St)) (h : f_X2_readFields_b7 x1 a = some r) (k0 : ∀ q, r = .inl q → E_X2_readFields_7 x1 K g ret q) (k1 : ∀ q, r = .inr q → H_X2_readFields_7 x1 K g ret q) : H_X2_readFields_7 x1 K g ret a := by
  unfold f_X2_readFields_b7 at h
  show XW K 0 0 5 (QI K g (wdX g) ret) (wdX g) a.2 7 [(0, .ref (g.1 2)), (1, .int x1), (2, .int a.1)] []
  refine x_iload_n X dX2_readFields_7 rfl 2 rfl ?_
  refine x_iload_n X dX2_readFields_8 rfl 1 rfl ?_
  refine x_icmp_ge (tgt := 90) X dX2_readFields_9 (by decide) (fun c2 => ?_) (fun c2 => ?_)
  · replace h := if_t c2 h
    refine x_sub [1] rfl ?_
    have h9 := k0 _ (Option.some.inj h).symm
    exact h9
  · replace h := if_f c2 h
    refine x_aload_n X dX2_readFields_12 rfl 0 rfl ?_
    refine x_iload_n X dX2_readFields_13 rfl 2 rfl ?_
    refine x_iconst (v := 0) X dX2_readFields_14 (by decide) ?_
    obtain ⟨q3, e3, h⟩ := bd h
    refine x_callI X [.int a.1, .int 0] [] (c_X2_readMemberHead K.l K.D g a.1 0 a.2 q3 e3) ok_X2_readMemberHead m_X2_125 2 rfl rfl rfl rfl (Nat.le_of_ble_eq_true rfl) ⟨Nat.zero_le _, Nat.zero_le _⟩ ⟨rfl, rfl, by decide, by decide⟩ dX2_readFields_15 ?_
    refine x_if_ne (tgt := 23) X dX2_readFields_18 (by decide) (fun c4 => ?_) (fun c4 => ?_)
    · replace h := if_f c4 h
      refine x_aload_n X dX2_readFields_23 rfl 0 rfl ?_
      obtain ⟨q5, e5, h⟩ := bd h
      refine x_callI X [] [] (c_X2_readNumber K.l K.D g q3.2 q5 e5) ok_X2_readNumber m_X2_121 2 rfl rfl rfl rfl (Nat.le_of_ble_eq_true rfl) ⟨Nat.zero_le _, Nat.zero_le _⟩ ⟨rfl, rfl, by decide, by decide⟩ dX2_readFields_24 ?_
      refine x_istore_n (lv2 := [(3, .int q5.1), (0, .ref (g.1 2)), (1, .int x1), (2, .int a.1)]) X dX2_readFields_27 rfl (by decide) rfl ?_
      refine x_iconst (v := 0) X dX2_readFields_28 (by decide) ?_
      refine x_istore (lv2 := [(4, .int 0), (3, .int q5.1), (0, .ref (g.1 2)), (1, .int x1), (2, .int a.1)]) X dX2_readFields_29 (by decide) rfl ?_
      refine x_sub [2, 3, 4, 1, 0] rfl ?_
      obtain ⟨q110, e11, h⟩ := bd h
      refine loopF_w (WH := H_X2_readFields_31 x1 a.1 q5.1 K g ret) (KB := E_X2_readFields_31 x1 a.1 q5.1 K g ret) (fun a9 r9 h9 k8 k7 => w_X2_readFields_b31 x1 a.1 q5.1 ret X a9 r9 h9 k8 k7) FU (0, q5.2) q110 e11 ?_
      rcases q110 with q11 | q11
      · replace h := sl h
        exact (k0 _ (Option.some.inj h).symm)
      · replace h := sr h
        show XW K 0 0 5 (QI K g (wdX g) ret) (wdX g) q11 67 [(0, .ref (g.1 2)), (1, .int x1), (2, .int a.1), (3, .int q5.1)] []
        refine x_iload_n X dX2_readFields_67 rfl 3 rfl ?_
        refine x_iconst (v := (-1)) X dX2_readFields_68 (by decide) ?_
        refine x_icmp_ne (tgt := 74) X dX2_readFields_69 (by decide) (fun c12 => ?_) (fun c12 => ?_)
        · replace h := if_f c12 h
          refine x_aload_n X dX2_readFields_74 rfl 0 rfl ?_
          refine x_get (v := .ref (g.1 9)) X 2 1 in_X2 rfl rfl (by decide) m_X2_11 rfl dX2_readFields_75 ?_
          refine x_iconst (v := 1) X dX2_readFields_78 (by decide) ?_
          refine x_dup2 X dX2_readFields_79 rfl rfl ?_
          obtain ⟨i13, h⟩ := chk_some h
          refine x_iald (f := (q11 23)) X 9 0 rfl rfl i13 dX2_readFields_80 ?_
          refine x_iconst (v := 1) X dX2_readFields_81 (by decide) ?_
          refine x_iadd X dX2_readFields_82 ?_
          obtain ⟨i14, h⟩ := chk_some h
          refine x_iast (f := (q11 23)) (u2 := (up q11 23 (Int32.toNatClampNeg 1) (((q11 23) (Int32.toNatClampNeg 1)) + 1))) X 9 0 rfl rfl i14 (wdX_23 g q11 (Int32.toNatClampNeg 1) (((q11 23) (Int32.toNatClampNeg 1)) + 1)) dX2_readFields_83 ?_
          refine x_iinc (v := (a.1 + 1)) (lv2 := [(2, .int (a.1 + 1)), (0, .ref (g.1 2)), (1, .int x1), (3, .int q5.1)]) X dX2_readFields_84 2 rfl rfl (by decide) rfl ?_
          refine x_goto (tgt := 7) X dX2_readFields_87 (by decide) ?_
          refine x_sub [1, 2, 0] rfl ?_
          have h9 := k1 _ (Option.some.inj h).symm
          exact h9
        · replace h := if_t c12 h
          refine x_iconst (v := 0) X dX2_readFields_72 (by decide) ?_
          exact x_zret X rfl (k0 _ (Option.some.inj h).symm) dX2_readFields_73
    · replace h := if_t c4 h
      refine x_iconst (v := 0) X dX2_readFields_21 (by decide) ?_
      exact x_zret X rfl (k0 _ (Option.some.inj h).symm) dX2_readFields_22
set_option maxRecDepth 100000 in
set_option maxHeartbeats 4000000 in
theorem w_X2_readFields_j100 {K : Cx} {g : Gw} (ret : Int32 × St) (X : XC K g cX2_readFields 5 RX2 (some .boolean) rm_X2_readFields) (z0 : Int32) (u : St) (h : f_X2_readFields_j100 z0 u = some ret) : XW K 0 0 5 (QI K g (wdX g) ret) (wdX g) u 100 [] [.int z0] := by
  unfold f_X2_readFields_j100 at h
  obtain ⟨b17, h⟩ := bchk_some h
  exact x_zret X b17 (Option.some.inj h) dX2_readFields_100
set_option maxRecDepth 100000 in
set_option maxHeartbeats 4000000 in
theorem c_X2_readFields (l : Launch) (D : va_G) (g : Gw) (u : St) (ret : Int32 × St) (h : f_X2_readFields u = some ret) : metI l D g (wdX g) yX2_readFields cX2_readFields 5 .boolean rm_X2_readFields [.ref (g.1 2)] u ret := by
  refine metI_of (own := RX2) (lv := [(0, .ref (g.1 2))]) (by decide) rfl rfl (Nat.le_of_ble_eq_true rfl) (fun K hl9 hD9 X => ?_)
  subst hl9
  subst hD9
  unfold f_X2_readFields at h
  refine x_aload_n X dX2_readFields_0 rfl 0 rfl ?_
  obtain ⟨q1, e1, h⟩ := bd h
  refine x_callI X [] [] (c_X2_readNumber K.l K.D g u q1 e1) ok_X2_readNumber m_X2_121 2 rfl rfl rfl rfl (Nat.le_of_ble_eq_true rfl) ⟨Nat.zero_le _, Nat.zero_le _⟩ ⟨rfl, rfl, by decide, by decide⟩ dX2_readFields_1 ?_
  refine x_istore_n (lv2 := [(1, .int q1.1), (0, .ref (g.1 2))]) X dX2_readFields_4 rfl (by decide) rfl ?_
  refine x_iconst (v := 0) X dX2_readFields_5 (by decide) ?_
  refine x_istore_n (lv2 := [(2, .int 0), (1, .int q1.1), (0, .ref (g.1 2))]) X dX2_readFields_6 rfl (by decide) rfl ?_
  refine x_sub [2, 1, 0] rfl ?_
  obtain ⟨q150, e15, h⟩ := bd h
  refine loopF_w (WH := H_X2_readFields_7 q1.1 K g ret) (KB := E_X2_readFields_7 q1.1 K g ret) (fun a9 r9 h9 k8 k7 => w_X2_readFields_b7 q1.1 ret X a9 r9 h9 k8 k7) FU (0, q1.2) q150 e15 ?_
  rcases q150 with q15 | q15
  · replace h := sl h
    exact (Option.some.inj h)
  · replace h := sr h
    show XW K 0 0 5 (QI K g (wdX g) ret) (wdX g) q15 90 [(1, .int q1.1)] []
    refine x_iload_n X dX2_readFields_90 rfl 0 rfl ?_
    refine x_iconst (v := (-1)) X dX2_readFields_91 (by decide) ?_
    refine x_icmp_eq (tgt := 99) X dX2_readFields_92 (by decide) (fun c16 => ?_) (fun c16 => ?_)
    · replace h := if_t c16 h
      refine x_iconst (v := 0) X dX2_readFields_99 (by decide) ?_
      refine x_sub [] rfl ?_
      exact w_X2_readFields_j100 ret X 0 q15 h
    · replace h := if_f c16 h
      refine x_iconst (v := 1) X dX2_readFields_95 (by decide) ?_
      refine x_goto (tgt := 100) X dX2_readFields_96 (by decide) ?_
      refine x_sub [] rfl ?_
      exact w_X2_readFields_j100 ret X 1 q15 h
