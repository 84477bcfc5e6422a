abbrev H_X3_isWord_s3_15 (x1 : Int32) (K : Cx) (g : Gw) (u : St) (ret : Int32) (a : Int32) : Prop := XW K 0 0 5 (QI K g (wdX g) (ret, u)) (wdX g) u 15 [(0, .ref (g.1 8)), (1, .int x1), (3, .ref (g.1 103)), (4, .int a)] []
abbrev E_X3_isWord_s3_15 (x1 : Int32) (K : Cx) (g : Gw) (u : St) (ret : Int32) (q : (Int32) ⊕ (Unit)) : Prop := Sum.elim (fun q => q = ret) (fun q => XW K 0 0 5 (QI K g (wdX g) (ret, u)) (wdX g) u 47 [] []) q
set_option maxRecDepth 100000 in
set_option maxHeartbeats 4000000 in
theorem w_X3_isWord_s3_b15 {K : Cx} {g : Gw} (x1 : Int32) (u : St) (ret : Int32) (X : XC K g cX3_isWord 5 RX3 (some .boolean) rm_X3_isWord) (a : Int32) (r : ((Int32) ⊕ (Unit)) ⊕ (Int32)) (h : f_X3_isWord_s3_b15 x1 u a = some r) (k0 : ∀ q, r = .inl q → E_X3_isWord_s3_15 x1 K g u ret q) (k1 : ∀ q, r = .inr q → H_X3_isWord_s3_15 x1 K g u ret q) : H_X3_isWord_s3_15 x1 K g u ret a := by
  unfold f_X3_isWord_s3_b15 at h
  show XW K 0 0 5 (QI K g (wdX g) (ret, u)) (wdX g) u 15 [(0, .ref (g.1 8)), (1, .int x1), (3, .ref (g.1 103)), (4, .int a)] []
  refine x_iload X dX3_isWord_15 3 rfl ?_
  refine x_aload_n X dX3_isWord_17 rfl 2 rfl ?_
  refine x_callSR X 3 (by decide) [] [.int a] (c_S_length K.l K.D g (wdX g) u 3 (by decide) 4 (by decide)) ok_S_length m_X3_34 rfl rfl (Nat.le_of_ble_eq_true rfl) ⟨Nat.zero_le _, Nat.zero_le _⟩ ⟨rfl, rfl, by decide, by decide⟩ dX3_isWord_18 ?_
  refine x_icmp_ge (tgt := 47) X dX3_isWord_21 (by decide) (fun c2 => ?_) (fun c2 => ?_)
  · replace h := if_t c2 h
    refine x_sub [] rfl ?_
    have h9 := k0 _ (Option.some.inj h).symm
    exact h9
  · replace h := if_f c2 h
    refine x_aload_n X dX3_isWord_24 rfl 0 rfl ?_
    refine x_iload_n X dX3_isWord_25 rfl 1 rfl ?_
    refine x_iload X dX3_isWord_26 3 rfl ?_
    refine x_iadd X dX3_isWord_28 ?_
    obtain ⟨i3, h⟩ := chk_some h
    refine x_iald (f := (u 22)) X 8 0 rfl rfl i3 dX3_isWord_29 ?_
    refine x_aload_n X dX3_isWord_30 rfl 2 rfl ?_
    refine x_iload X dX3_isWord_31 3 rfl ?_
    obtain ⟨i4, h⟩ := chk_some h
    refine x_callSR X 3 (by decide) [.int a] [.int ((u 22) (Int32.toNatClampNeg (x1 + a)))] (c_S_charAt K.l K.D g (wdX g) u 3 (by decide) a i4) ok_S_charAt m_X3_40 rfl rfl (Nat.le_of_ble_eq_true rfl) ⟨Nat.zero_le _, Nat.zero_le _⟩ ⟨rfl, rfl, by decide, by decide⟩ dX3_isWord_33 ?_
    refine x_icmp_eq (tgt := 41) X dX3_isWord_36 (by decide) (fun c5 => ?_) (fun c5 => ?_)
    · replace h := if_t c5 h
      refine x_iinc (v := (a + 1)) (lv2 := [(4, .int (a + 1)), (0, .ref (g.1 8)), (1, .int x1), (3, .ref (g.1 103))]) X dX3_isWord_41 3 rfl rfl (by decide) rfl ?_
      refine x_goto (tgt := 15) X dX3_isWord_44 (by decide) ?_
      refine x_sub [1, 2, 3, 0] rfl ?_
      have h9 := k1 _ (Option.some.inj h).symm
      exact h9
    · replace h := if_f c5 h
      refine x_iconst (v := 0) X dX3_isWord_39 (by decide) ?_
      exact x_zret X rfl (roE (k0 _ (Option.some.inj h).symm)) dX3_isWord_40
set_option maxRecDepth 100000 in
set_option maxHeartbeats 4000000 in
theorem c_X3_isWord_s3 (l : Launch) (D : va_G) (g : Gw) (p1 : Int32) (p2 : Int32) (u : St) (ret : Int32) (h : f_X3_isWord_s3 p1 p2 u = some ret) : metI l D g (wdX g) yX3_isWord cX3_isWord 5 .boolean rm_X3_isWord [.ref (g.1 8), .int p1, .int p2, .ref (g.1 103)] u (ret, u) := by
  refine metI_of (own := RX3) (lv := [(0, .ref (g.1 8)), (1, .int p1), (2, .int p2), (3, .ref (g.1 103))]) (by decide) rfl rfl (Nat.le_of_ble_eq_true rfl) (fun K hl9 hD9 X => ?_)
  subst hl9
  subst hD9
  unfold f_X3_isWord_s3 at h
  refine x_iload_n X dX3_isWord_0 rfl 2 rfl ?_
  refine x_iload_n X dX3_isWord_1 rfl 1 rfl ?_
  refine x_isub X dX3_isWord_2 ?_
  refine x_aload_n X dX3_isWord_3 rfl 3 rfl ?_
  refine x_callSR X 3 (by decide) [] [.int (p2 - p1)] (c_S_length K.l K.D g (wdX g) u 3 (by decide) 4 (by decide)) ok_S_length m_X3_34 rfl rfl (Nat.le_of_ble_eq_true rfl) ⟨Nat.zero_le _, Nat.zero_le _⟩ ⟨rfl, rfl, by decide, by decide⟩ dX3_isWord_4 ?_
  refine x_icmp_eq (tgt := 12) X dX3_isWord_7 (by decide) (fun c1 => ?_) (fun c1 => ?_)
  · replace h := if_t c1 h
    refine x_iconst (v := 0) X dX3_isWord_12 (by decide) ?_
    refine x_istore (lv2 := [(4, .int 0), (0, .ref (g.1 8)), (1, .int p1), (2, .int p2), (3, .ref (g.1 103))]) X dX3_isWord_13 (by decide) rfl ?_
    refine x_sub [1, 2, 4, 0] rfl ?_
    obtain ⟨q60, e6, h⟩ := bd h
    refine loopF_w (WH := H_X3_isWord_s3_15 p1 K g u ret) (KB := E_X3_isWord_s3_15 p1 K g u ret) (fun a9 r9 h9 k8 k7 => w_X3_isWord_s3_b15 p1 u ret X a9 r9 h9 k8 k7) FU 0 q60 e6 ?_
    rcases q60 with q6 | q6
    · replace h := sl h
      exact (Option.some.inj h)
    · replace h := sr h
      show XW K 0 0 5 (QI K g (wdX g) (ret, u)) (wdX g) u 47 [] []
      refine x_iconst (v := 1) X dX3_isWord_47 (by decide) ?_
      exact x_zret X rfl (roE (Option.some.inj h)) dX3_isWord_48
  · replace h := if_f c1 h
    refine x_iconst (v := 0) X dX3_isWord_10 (by decide) ?_
    exact x_zret X rfl (roE (Option.some.inj h)) dX3_isWord_11
set_option maxRecDepth 100000 in
set_option maxHeartbeats 4000000 in
theorem c_X4_isWord_s3 (l : Launch) (D : va_G) (g : Gw) (p0 : Int32) (u : St) (ret : Int32) (h : f_X4_isWord_s3 p0 u = some ret) : metI l D g (wdX g) yX4_isWord cX4_isWord 3 .boolean rm_X4_isWord [.ref (g.1 4), .int p0, .ref (g.1 103)] u (ret, u) := by
  refine metI_of (own := RX4) (lv := [(0, .ref (g.1 4)), (1, .int p0), (2, .ref (g.1 103))]) (by decide) rfl rfl (Nat.le_of_ble_eq_true rfl) (fun K hl9 hD9 X => ?_)
  subst hl9
  subst hD9
  unfold f_X4_isWord_s3 at h
  refine x_aload_n X dX4_isWord_0 rfl 0 rfl ?_
  refine x_get (v := .ref (g.1 1)) X 4 0 in_X4 rfl rfl (by decide) m_X4_30 rfl dX4_isWord_1 ?_
  refine x_get (v := .ref (g.1 8)) X 1 0 in_X1 rfl rfl (by decide) m_X4_53 rfl dX4_isWord_4 ?_
  refine x_aload_n X dX4_isWord_7 rfl 0 rfl ?_
  refine x_iload_n X dX4_isWord_8 rfl 1 rfl ?_
  obtain ⟨q1, e1, h⟩ := bd h
  refine x_callR X [.int p0] [.ref (g.1 8)] (c_X4_textStart K.l K.D g p0 u q1 e1) ok_X4_textStart m_X4_86 4 rfl rfl rfl rfl (Nat.le_of_ble_eq_true rfl) ⟨Nat.zero_le _, Nat.zero_le _⟩ ⟨rfl, rfl, by decide, by decide⟩ dX4_isWord_9 ?_
  refine x_aload_n X dX4_isWord_12 rfl 0 rfl ?_
  refine x_iload_n X dX4_isWord_13 rfl 1 rfl ?_
  obtain ⟨q2, e2, h⟩ := bd h
  refine x_callR X [.int p0] [.int q1, .ref (g.1 8)] (c_X4_textEnd K.l K.D g p0 u q2 e2) ok_X4_textEnd m_X4_89 4 rfl rfl rfl rfl (Nat.le_of_ble_eq_true rfl) ⟨Nat.zero_le _, Nat.zero_le _⟩ ⟨rfl, rfl, by decide, by decide⟩ dX4_isWord_14 ?_
  refine x_aload_n X dX4_isWord_17 rfl 2 rfl ?_
  obtain ⟨q3, e3, h⟩ := bd h
  refine x_scallR X [.ref (g.1 8), .int q1, .int q2, .ref (g.1 103)] [] (c_X3_isWord_s3 K.l K.D g q1 q2 u q3 e3) ok_X3_isWord m_X4_112 rfl rfl (Nat.le_of_ble_eq_true rfl) ⟨Nat.zero_le _, Nat.zero_le _⟩ ⟨rfl, rfl, by decide, by decide⟩ dX4_isWord_18 ?_
  obtain ⟨b4, h⟩ := bchk_some h
  exact x_zret X b4 (roE (Option.some.inj h)) dX4_isWord_21
set_option maxRecDepth 100000 in
set_option maxHeartbeats 4000000 in
theorem c_X5_confine (l : Launch) (D : va_G) (g : Gw) (p0 : Int32) (p1 : Int32) (p2 : Int32) (u : St) (ret : St) (h : f_X5_confine p0 p1 p2 u = some ret) : metV l D g (wdX g) yX5_confine cX5_confine 4 rm_X5_confine [.ref (g.1 3), .int p0, .int p1, .int p2] u ret := by
  refine metV_of (own := RX5) (lv := [(0, .ref (g.1 3)), (1, .int p0), (2, .int p1), (3, .int p2)]) (by decide) rfl rfl (Nat.le_of_ble_eq_true rfl) (fun K hl9 hD9 X => ?_)
  subst hl9
  subst hD9
  unfold f_X5_confine at h
  refine x_aload_n X dX5_confine_0 rfl 0 rfl ?_
  refine x_iload_n X dX5_confine_1 rfl 1 rfl ?_
  refine x_put (ty := .int) (u2 := (up u 5 0 p0)) X 3 4 in_X5 tk_X5 nk_X5 rfl rfl (by decide) m_X5_26 rfl rfl rfl rfl (Nat.le_of_ble_eq_true rfl) (wdX_5 g u p0) dX5_confine_2 ?_
  refine x_aload_n X dX5_confine_5 rfl 0 rfl ?_
  refine x_iload_n X dX5_confine_6 rfl 2 rfl ?_
  refine x_put (ty := .int) (u2 := (up (up u 5 0 p0) 6 0 p1)) X 3 5 in_X5 tk_X5 nk_X5 rfl rfl (by decide) m_X5_29 rfl rfl rfl rfl (Nat.le_of_ble_eq_true rfl) (wdX_6 g (up u 5 0 p0) p1) dX5_confine_7 ?_
  refine x_aload_n X dX5_confine_10 rfl 0 rfl ?_
  refine x_iload_n X dX5_confine_11 rfl 3 rfl ?_
  refine x_put (ty := .int) (u2 := (up (up (up u 5 0 p0) 6 0 p1) 7 0 p2)) X 3 6 in_X5 tk_X5 nk_X5 rfl rfl (by decide) m_X5_32 rfl rfl rfl rfl (Nat.le_of_ble_eq_true rfl) (wdX_7 g (up (up u 5 0 p0) 6 0 p1) p2) dX5_confine_12 ?_
  exact x_vret X (Option.some.inj h) dX5_confine_15
set_option maxRecDepth 100000 in
set_option maxHeartbeats 4000000 in
theorem w_X2_stepInstructions_j36 {K : Cx} {g : Gw} (ret : Int32 × St) (X : XC K g cX2_stepInstructions 3 RX2 (some .boolean) rm_X2_stepInstructions) (x1 : Int32) (u : St) (h : f_X2_stepInstructions_j36 x1 u = some ret) : XW K 0 0 3 (QI K g (wdX g) ret) (wdX g) u 36 [(0, .ref (g.1 2)), (1, .int x1)] [] := by
  unfold f_X2_stepInstructions_j36 at h
  refine x_aload_n X dX2_stepInstructions_36 rfl 0 rfl ?_
  refine x_get (v := .ref (g.1 3)) X 2 0 in_X2 rfl rfl (by decide) m_X2_27 rfl dX2_stepInstructions_37 ?_
  refine x_bipush (v := 22) X dX2_stepInstructions_40 (by decide) ?_
  refine x_iload_n X dX2_stepInstructions_42 rfl 1 rfl ?_
  refine x_iconst (v := 4) X dX2_stepInstructions_43 (by decide) ?_
  refine x_iadd X dX2_stepInstructions_44 ?_
  obtain ⟨q5, e5, h⟩ := bd h
  refine x_callI X [.int 22, .int (x1 + 4)] [] (c_X5_broken K.l K.D g 22 (x1 + 4) u q5 e5) ok_X5_broken m_X2_93 3 rfl rfl rfl rfl (Nat.le_of_ble_eq_true rfl) ⟨Nat.zero_le _, Nat.zero_le _⟩ ⟨rfl, rfl, by decide, by decide⟩ dX2_stepInstructions_45 ?_
  obtain ⟨b6, h⟩ := bchk_some h
  exact x_zret X b6 (Option.some.inj h) dX2_stepInstructions_48
set_option maxRecDepth 100000 in
set_option maxHeartbeats 4000000 in
theorem c_X2_stepInstructions (l : Launch) (D : va_G) (g : Gw) (p0 : Int32) (u : St) (ret : Int32 × St) (h : f_X2_stepInstructions p0 u = some ret) : metI l D g (wdX g) yX2_stepInstructions cX2_stepInstructions 3 .boolean rm_X2_stepInstructions [.ref (g.1 2), .int p0] u ret := by
  refine metI_of (own := RX2) (lv := [(0, .ref (g.1 2)), (1, .int p0)]) (by decide) rfl rfl (Nat.le_of_ble_eq_true rfl) (fun K hl9 hD9 X => ?_)
  subst hl9
  subst hD9
  unfold f_X2_stepInstructions at h
  refine x_aload_n X dX2_stepInstructions_0 rfl 0 rfl ?_
  refine x_get (v := .ref (g.1 3)) X 2 0 in_X2 rfl rfl (by decide) m_X2_27 rfl dX2_stepInstructions_1 ?_
  refine x_bipush (v := 8) X dX2_stepInstructions_4 (by decide) ?_
  obtain ⟨q1, e1, h⟩ := bd h
  refine x_callI X [.int 8] [] (c_X5_step K.l K.D g 8 u q1 e1) ok_X5_step m_X2_100 3 rfl rfl rfl rfl (Nat.le_of_ble_eq_true rfl) ⟨Nat.zero_le _, Nat.zero_le _⟩ ⟨rfl, rfl, by decide, by decide⟩ dX2_stepInstructions_6 ?_
  refine x_if_ne (tgt := 14) X dX2_stepInstructions_9 (by decide) (fun c2 => ?_) (fun c2 => ?_)
  · replace h := if_f c2 h
    refine x_aload_n X dX2_stepInstructions_14 rfl 0 rfl ?_
    refine x_get (v := .ref (g.1 1)) X 2 2 in_X2 rfl rfl (by decide) m_X2_18 rfl dX2_stepInstructions_15 ?_
    refine x_iload_n X dX2_stepInstructions_18 rfl 1 rfl ?_
    refine x_iconst (v := 4) X dX2_stepInstructions_19 (by decide) ?_
    refine x_iadd X dX2_stepInstructions_20 ?_
    obtain ⟨q3, e3, h⟩ := bd h
    refine x_callR X [.int (p0 + 4)] [] (c_X1_u4 K.l K.D g (p0 + 4) q1.2 q3 e3) ok_X1_u4 m_X2_104 1 rfl rfl rfl rfl (Nat.le_of_ble_eq_true rfl) ⟨Nat.zero_le _, Nat.zero_le _⟩ ⟨rfl, rfl, by decide, by decide⟩ dX2_stepInstructions_21 ?_
    refine x_istore_n (lv2 := [(2, .int q3), (0, .ref (g.1 2)), (1, .int p0)]) X dX2_stepInstructions_24 rfl (by decide) rfl ?_
    refine x_iload_n X dX2_stepInstructions_25 rfl 0 rfl ?_
    refine x_iconst (v := 1) X dX2_stepInstructions_26 (by decide) ?_
    refine x_icmp_lt (tgt := 36) X dX2_stepInstructions_27 (by decide) (fun c4 => ?_) (fun c4 => ?_)
    · replace h := if_t c4 h
      refine x_sub [1, 2] rfl ?_
      exact w_X2_stepInstructions_j36 ret X p0 q1.2 h
    · replace h := if_f c4 h
      refine x_iload_n X dX2_stepInstructions_30 rfl 0 rfl ?_
      refine x_bipush (v := 64) X dX2_stepInstructions_31 (by decide) ?_
      refine x_icmp_le (tgt := 49) X dX2_stepInstructions_33 (by decide) (fun c7 => ?_) (fun c7 => ?_)
      · replace h := if_t c7 h
        refine x_aload_n X dX2_stepInstructions_49 rfl 1 rfl ?_
        refine x_get (v := .ref (g.1 3)) X 2 0 in_X2 rfl rfl (by decide) m_X2_27 rfl dX2_stepInstructions_50 ?_
        refine x_iload_n X dX2_stepInstructions_53 rfl 0 rfl ?_
        obtain ⟨q8, e8, h⟩ := bd h
        refine x_callI X [.int q3] [] (c_X5_step K.l K.D g q3 q1.2 q8 e8) ok_X5_step m_X2_100 3 rfl rfl rfl rfl (Nat.le_of_ble_eq_true rfl) ⟨Nat.zero_le _, Nat.zero_le _⟩ ⟨rfl, rfl, by decide, by decide⟩ dX2_stepInstructions_54 ?_
        obtain ⟨b9, h⟩ := bchk_some h
        exact x_zret X b9 (Option.some.inj h) dX2_stepInstructions_57
      · replace h := if_f c7 h
        refine x_sub [1, 2] rfl ?_
        exact w_X2_stepInstructions_j36 ret X p0 q1.2 h
  · replace h := if_t c2 h
    refine x_iconst (v := 0) X dX2_stepInstructions_12 (by decide) ?_
    exact x_zret X rfl (Option.some.inj h) dX2_stepInstructions_13
abbrev H_X2_passAttributes_7 (x1 : Int32) (K : Cx) (g : Gw) (ret : Int32 × St) (a : Int32 × St) : Prop := XW K 0 0 3 (QI K g (wdX g) ret) (wdX g) a.2 7 [(0, .ref (g.1 2)), (1, .int x1), (2, .int a.1)] []
abbrev E_X2_passAttributes_7 (x1 : Int32) (K : Cx) (g : Gw) (ret : Int32 × St) (q : (Int32 × St) ⊕ (St)) : Prop := Sum.elim (fun q => q = ret) (fun q => XW K 0 0 3 (QI K g (wdX g) ret) (wdX g) q 44 [(1, .int x1)] []) q
set_option maxRecDepth 100000 in
set_option maxHeartbeats 4000000 in
theorem w_X2_passAttributes_j26_7 {K : Cx} {g : Gw} (ret : Int32 × St) (X : XC K g cX2_passAttributes 3 RX2 (some .boolean) rm_X2_passAttributes) (x1 : Int32) (u : St) (r : ((Int32 × St) ⊕ (St)) ⊕ (Int32 × St)) (h : f_X2_passAttributes_j26_7 x1 u = some r) (k0 : ∀ q, r = .inl q → E_X2_passAttributes_7 x1 K g ret q) (k1 : ∀ q, r = .inr q → H_X2_passAttributes_7 x1 K g ret q) : XW K 0 0 3 (QI K g (wdX g) ret) (wdX g) u 26 [(1, .int x1)] [] := by
  unfold f_X2_passAttributes_j26_7 at h
  refine x_iconst (v := 0) X dX2_passAttributes_26 (by decide) ?_
  exact x_zret X rfl (k0 _ (Option.some.inj h).symm) dX2_passAttributes_27
set_option maxRecDepth 100000 in
set_option maxHeartbeats 4000000 in
theorem w_X2_passAttributes_b7 {K : Cx} {g : Gw} (x1 : Int32) (ret : Int32 × St) (X : XC K g cX2_passAttributes 3 RX2 (some .boolean) rm_X2_passAttributes) (a : Int32 × St) (r : ((Int32 × St) ⊕ (St)) ⊕ (Int32 × St)) (h : f_X2_passAttributes_b7 x1 a = some r) (k0 : ∀ q, r = .inl q → E_X2_passAttributes_7 x1 K g ret q) (k1 : ∀ q, r = .inr q → H_X2_passAttributes_7 x1 K g ret q) : H_X2_passAttributes_7 x1 K g ret a := by
  unfold f_X2_passAttributes_b7 at h
  show XW K 0 0 3 (QI K g (wdX g) ret) (wdX g) a.2 7 [(0, .ref (g.1 2)), (1, .int x1), (2, .int a.1)] []
  refine x_iload_n X dX2_passAttributes_7 rfl 2 rfl ?_
  refine x_iload_n X dX2_passAttributes_8 rfl 1 rfl ?_
  refine x_icmp_ge (tgt := 44) X dX2_passAttributes_9 (by decide) (fun c2 => ?_) (fun c2 => ?_)
  · replace h := if_t c2 h
    refine x_sub [1] rfl ?_
    have h9 := k0 _ (Option.some.inj h).symm
    exact h9
  · replace h := if_f c2 h
    refine x_aload_n X dX2_passAttributes_12 rfl 0 rfl ?_
    obtain ⟨q3, e3, h⟩ := bd h
    refine x_callI X [] [] (c_X2_readAttributeName K.l K.D g a.2 q3 e3) ok_X2_readAttributeName m_X2_189 2 rfl rfl rfl rfl (Nat.le_of_ble_eq_true rfl) ⟨Nat.zero_le _, Nat.zero_le _⟩ ⟨rfl, rfl, by decide, by decide⟩ dX2_passAttributes_13 ?_
    refine x_if_eq (tgt := 26) X dX2_passAttributes_16 (by decide) (fun c4 => ?_) (fun c4 => ?_)
    · replace h := if_t c4 h
      refine x_sub [1] rfl ?_
      exact w_X2_passAttributes_j26_7 ret X x1 q3.2 r h k0 k1
    · replace h := if_f c4 h
      refine x_aload_n X dX2_passAttributes_19 rfl 0 rfl ?_
      obtain ⟨q5, e5, h⟩ := bd h
      refine x_callI X [] [] (c_X2_stepAttributeBytes K.l K.D g q3.2 q5 e5) ok_X2_stepAttributeBytes m_X2_192 2 rfl rfl rfl rfl (Nat.le_of_ble_eq_true rfl) ⟨Nat.zero_le _, Nat.zero_le _⟩ ⟨rfl, rfl, by decide, by decide⟩ dX2_passAttributes_20 ?_
      refine x_if_ne (tgt := 28) X dX2_passAttributes_23 (by decide) (fun c6 => ?_) (fun c6 => ?_)
      · replace h := if_f c6 h
        refine x_aload_n X dX2_passAttributes_28 rfl 0 rfl ?_
        refine x_get (v := .ref (g.1 9)) X 2 1 in_X2 rfl rfl (by decide) m_X2_11 rfl dX2_passAttributes_29 ?_
        refine x_iconst (v := 5) X dX2_passAttributes_32 (by decide) ?_
        refine x_dup2 X dX2_passAttributes_33 rfl rfl ?_
        obtain ⟨i7, h⟩ := chk_some h
        refine x_iald (f := (q5.2 23)) X 9 0 rfl rfl i7 dX2_passAttributes_34 ?_
        refine x_iconst (v := 1) X dX2_passAttributes_35 (by decide) ?_
        refine x_iadd X dX2_passAttributes_36 ?_
        obtain ⟨i8, h⟩ := chk_some h
        refine x_iast (f := (q5.2 23)) (u2 := (up q5.2 23 (Int32.toNatClampNeg 5) (((q5.2 23) (Int32.toNatClampNeg 5)) + 1))) X 9 0 rfl rfl i8 (wdX_23 g q5.2 (Int32.toNatClampNeg 5) (((q5.2 23) (Int32.toNatClampNeg 5)) + 1)) dX2_passAttributes_37 ?_
        refine x_iinc (v := (a.1 + 1)) (lv2 := [(2, .int (a.1 + 1)), (0, .ref (g.1 2)), (1, .int x1)]) X dX2_passAttributes_38 2 rfl rfl (by decide) rfl ?_
        refine x_goto (tgt := 7) X dX2_passAttributes_41 (by decide) ?_
        refine x_sub [1, 2, 0] rfl ?_
        have h9 := k1 _ (Option.some.inj h).symm
        exact h9
      · replace h := if_t c6 h
        refine x_sub [1] rfl ?_
        exact w_X2_passAttributes_j26_7 ret X x1 q5.2 r h k0 k1
set_option maxRecDepth 100000 in
set_option maxHeartbeats 4000000 in
theorem w_X2_passAttributes_j54 {K : Cx} {g : Gw} (ret : Int32 × St) (X : XC K g cX2_passAttributes 3 RX2 (some .boolean) rm_X2_passAttributes) (z0 : Int32) (u : St) (h : f_X2_passAttributes_j54 z0 u = some ret) : XW K 0 0 3 (QI K g (wdX g) ret) (wdX g) u 54 [] [.int z0] := by
  unfold f_X2_passAttributes_j54 at h
  obtain ⟨b11, h⟩ := bchk_some h
  exact x_zret X b11 (Option.some.inj h) dX2_passAttributes_54
set_option maxRecDepth 100000 in
set_option maxHeartbeats 4000000 in
theorem c_X2_passAttributes (l : Launch) (D : va_G) (g : Gw) (u : St) (ret : Int32 × St) (h : f_X2_passAttributes u = some ret) : metI l D g (wdX g) yX2_passAttributes cX2_passAttributes 3 .boolean rm_X2_passAttributes [.ref (g.1 2)] u ret := by
  refine metI_of (own := RX2) (lv := [(0, .ref (g.1 2))]) (by decide) rfl rfl (Nat.le_of_ble_eq_true rfl) (fun K hl9 hD9 X => ?_)
  subst hl9
  subst hD9
  unfold f_X2_passAttributes at h
  refine x_aload_n X dX2_passAttributes_0 rfl 0 rfl ?_
  obtain ⟨q1, e1, h⟩ := bd h
  refine x_callI X [] [] (c_X2_readNumber K.l K.D g u q1 e1) ok_X2_readNumber m_X2_121 2 rfl rfl rfl rfl (Nat.le_of_ble_eq_true rfl) ⟨Nat.zero_le _, Nat.zero_le _⟩ ⟨rfl, rfl, by decide, by decide⟩ dX2_passAttributes_1 ?_
  refine x_istore_n (lv2 := [(1, .int q1.1), (0, .ref (g.1 2))]) X dX2_passAttributes_4 rfl (by decide) rfl ?_
  refine x_iconst (v := 0) X dX2_passAttributes_5 (by decide) ?_
  refine x_istore_n (lv2 := [(2, .int 0), (1, .int q1.1), (0, .ref (g.1 2))]) X dX2_passAttributes_6 rfl (by decide) rfl ?_
  refine x_sub [2, 1, 0] rfl ?_
  obtain ⟨q90, e9, h⟩ := bd h
  refine loopF_w (WH := H_X2_passAttributes_7 q1.1 K g ret) (KB := E_X2_passAttributes_7 q1.1 K g ret) (fun a9 r9 h9 k8 k7 => w_X2_passAttributes_b7 q1.1 ret X a9 r9 h9 k8 k7) FU (0, q1.2) q90 e9 ?_
  rcases q90 with q9 | q9
  · replace h := sl h
    exact (Option.some.inj h)
  · replace h := sr h
    show XW K 0 0 3 (QI K g (wdX g) ret) (wdX g) q9 44 [(1, .int q1.1)] []
    refine x_iload_n X dX2_passAttributes_44 rfl 0 rfl ?_
    refine x_iconst (v := (-1)) X dX2_passAttributes_45 (by decide) ?_
    refine x_icmp_eq (tgt := 53) X dX2_passAttributes_46 (by decide) (fun c10 => ?_) (fun c10 => ?_)
    · replace h := if_t c10 h
      refine x_iconst (v := 0) X dX2_passAttributes_53 (by decide) ?_
      refine x_sub [] rfl ?_
      exact w_X2_passAttributes_j54 ret X 0 q9 h
    · replace h := if_f c10 h
      refine x_iconst (v := 1) X dX2_passAttributes_49 (by decide) ?_
      refine x_goto (tgt := 54) X dX2_passAttributes_50 (by decide) ?_
      refine x_sub [] rfl ?_
      exact w_X2_passAttributes_j54 ret X 1 q9 h
set_option maxRecDepth 100000 in
set_option maxHeartbeats 4000000 in
theorem c_X0_lookAt (l : Launch) (D : va_G) (g : Gw) (p0 : Int32) (u : St) (ret : St) (h : f_X0_lookAt p0 u = some ret) : metV l D g (wdX g) yX0_lookAt cX0_lookAt 2 rm_X0_lookAt [.ref (g.1 5), .int p0] u ret := by
  refine metV_of (own := RX0) (lv := [(0, .ref (g.1 5)), (1, .int p0)]) (by decide) rfl rfl (Nat.le_of_ble_eq_true rfl) (fun K hl9 hD9 X => ?_)
  subst hl9
  subst hD9
  unfold f_X0_lookAt at h
  refine x_aload_n X dX0_lookAt_0 rfl 0 rfl ?_
  refine x_aload_n X dX0_lookAt_1 rfl 0 rfl ?_
  refine x_get (v := .ref (g.1 1)) X 5 0 in_X0 rfl rfl (by decide) m_X0_27 rfl dX0_lookAt_2 ?_
  refine x_iload_n X dX0_lookAt_5 rfl 1 rfl ?_
  refine x_iconst (v := 2) X dX0_lookAt_6 (by decide) ?_
  refine x_iadd X dX0_lookAt_7 ?_
  obtain ⟨q1, e1, h⟩ := bd h
  refine x_callR X [.int (p0 + 2)] [.ref (g.1 5)] (c_X1_u2 K.l K.D g (p0 + 2) u q1 e1) ok_X1_u2 m_X0_32 1 rfl rfl rfl rfl (Nat.le_of_ble_eq_true rfl) ⟨Nat.zero_le _, Nat.zero_le _⟩ ⟨rfl, rfl, by decide, by decide⟩ dX0_lookAt_8 ?_
  refine x_put (ty := .int) (u2 := (up u 11 0 q1)) X 5 7 in_X0 tk_X0 nk_X0 rfl rfl (by decide) m_X0_38 rfl rfl rfl rfl (Nat.le_of_ble_eq_true rfl) (wdX_11 g u q1) dX0_lookAt_11 ?_
  refine x_aload_n X dX0_lookAt_14 rfl 0 rfl ?_
  refine x_aload_n X dX0_lookAt_15 rfl 0 rfl ?_
  refine x_get (v := .ref (g.1 1)) X 5 0 in_X0 rfl rfl (by decide) m_X0_27 rfl dX0_lookAt_16 ?_
  refine x_iload_n X dX0_lookAt_19 rfl 1 rfl ?_
  refine x_iconst (v := 4) X dX0_lookAt_20 (by decide) ?_
  refine x_iadd X dX0_lookAt_21 ?_
  obtain ⟨q2, e2, h⟩ := bd h
  refine x_callR X [.int (p0 + 4)] [.ref (g.1 5)] (c_X1_u4 K.l K.D g (p0 + 4) (up u 11 0 q1) q2 e2) ok_X1_u4 m_X0_42 1 rfl rfl rfl rfl (Nat.le_of_ble_eq_true rfl) ⟨Nat.zero_le _, Nat.zero_le _⟩ ⟨rfl, rfl, by decide, by decide⟩ dX0_lookAt_22 ?_
  refine x_put (ty := .int) (u2 := (up (up u 11 0 q1) 10 0 q2)) X 5 6 in_X0 tk_X0 nk_X0 rfl rfl (by decide) m_X0_45 rfl rfl rfl rfl (Nat.le_of_ble_eq_true rfl) (wdX_10 g (up u 11 0 q1) q2) dX0_lookAt_25 ?_
  refine x_aload_n X dX0_lookAt_28 rfl 0 rfl ?_
  refine x_iload_n X dX0_lookAt_29 rfl 1 rfl ?_
  refine x_bipush (v := 8) X dX0_lookAt_30 (by decide) ?_
  refine x_iadd X dX0_lookAt_32 ?_
  refine x_put (ty := .int) (u2 := (up (up (up u 11 0 q1) 10 0 q2) 9 0 (p0 + 8))) X 5 5 in_X0 tk_X0 nk_X0 rfl rfl (by decide) m_X0_48 rfl rfl rfl rfl (Nat.le_of_ble_eq_true rfl) (wdX_9 g (up (up u 11 0 q1) 10 0 q2) (p0 + 8)) dX0_lookAt_33 ?_
  refine x_aload_n X dX0_lookAt_36 rfl 0 rfl ?_
  refine x_aload_n X dX0_lookAt_37 rfl 0 rfl ?_
  refine x_get (v := .ref (g.1 1)) X 5 0 in_X0 rfl rfl (by decide) m_X0_27 rfl dX0_lookAt_38 ?_
  refine x_aload_n X dX0_lookAt_41 rfl 0 rfl ?_
  refine x_get (v := .int (p0 + 8)) X 5 5 in_X0 rfl rfl (by decide) m_X0_48 rfl dX0_lookAt_42 ?_
  refine x_aload_n X dX0_lookAt_45 rfl 0 rfl ?_
  refine x_get (v := .int q2) X 5 6 in_X0 rfl rfl (by decide) m_X0_45 rfl dX0_lookAt_46 ?_
  refine x_iadd X dX0_lookAt_49 ?_
  obtain ⟨q3, e3, h⟩ := bd h
  refine x_callR X [.int ((p0 + 8) + q2)] [.ref (g.1 5)] (c_X1_u2 K.l K.D g ((p0 + 8) + q2) (up (up (up u 11 0 q1) 10 0 q2) 9 0 (p0 + 8)) q3 e3) ok_X1_u2 m_X0_32 1 rfl rfl rfl rfl (Nat.le_of_ble_eq_true rfl) ⟨Nat.zero_le _, Nat.zero_le _⟩ ⟨rfl, rfl, by decide, by decide⟩ dX0_lookAt_50 ?_
  refine x_put (ty := .int) (u2 := (up (up (up (up u 11 0 q1) 10 0 q2) 9 0 (p0 + 8)) 13 0 q3)) X 5 9 in_X0 tk_X0 nk_X0 rfl rfl (by decide) m_X0_51 rfl rfl rfl rfl (Nat.le_of_ble_eq_true rfl) (wdX_13 g (up (up (up u 11 0 q1) 10 0 q2) 9 0 (p0 + 8)) q3) dX0_lookAt_53 ?_
  refine x_aload_n X dX0_lookAt_56 rfl 0 rfl ?_
  refine x_iconst (v := 0) X dX0_lookAt_57 (by decide) ?_
  refine x_put (ty := .int) (u2 := (up (up (up (up (up u 11 0 q1) 10 0 q2) 9 0 (p0 + 8)) 13 0 q3) 12 0 0)) X 5 8 in_X0 tk_X0 nk_X0 rfl rfl (by decide) m_X0_54 rfl rfl rfl rfl (Nat.le_of_ble_eq_true rfl) (wdX_12 g (up (up (up (up u 11 0 q1) 10 0 q2) 9 0 (p0 + 8)) 13 0 q3) 0) dX0_lookAt_58 ?_
  exact x_vret X (Option.some.inj h) dX0_lookAt_61
set_option maxRecDepth 100000 in
set_option maxHeartbeats 4000000 in
theorem w_X2_readCode_j76 {K : Cx} {g : Gw} (ret : Int32 × St) (X : XC K g cX2_readCode 5 RX2 (some .boolean) rm_X2_readCode) (u : St) (h : f_X2_readCode_j76 u = some ret) : XW K 0 0 5 (QI K g (wdX g) ret) (wdX g) u 76 [] [] := by
  unfold f_X2_readCode_j76 at h
  refine x_iconst (v := 0) X dX2_readCode_76 (by decide) ?_
  exact x_zret X rfl (Option.some.inj h) dX2_readCode_77
set_option maxRecDepth 100000 in
set_option maxHeartbeats 4000000 in
theorem c_X2_readCode (l : Launch) (D : va_G) (g : Gw) (p0 : Int32) (u : St) (ret : Int32 × St) (h : f_X2_readCode p0 u = some ret) : metI l D g (wdX g) yX2_readCode cX2_readCode 5 .boolean rm_X2_readCode [.ref (g.1 2), .int p0] u ret := by
  refine metI_of (own := RX2) (lv := [(0, .ref (g.1 2)), (1, .int p0)]) (by decide) rfl rfl (Nat.le_of_ble_eq_true rfl) (fun K hl9 hD9 X => ?_)
  subst hl9
  subst hD9
  unfold f_X2_readCode at h
  refine x_aload_n X dX2_readCode_0 rfl 0 rfl ?_
  refine x_get (v := .ref (g.1 3)) X 2 0 in_X2 rfl rfl (by decide) m_X2_27 rfl dX2_readCode_1 ?_
  refine x_get (v := .int (u 4 0)) X 3 3 in_X5 rfl rfl (by decide) m_X2_87 rfl dX2_readCode_4 ?_
  refine x_istore_n (lv2 := [(2, .int (u 4 0)), (0, .ref (g.1 2)), (1, .int p0)]) X dX2_readCode_7 rfl (by decide) rfl ?_
  refine x_iload_n X dX2_readCode_8 rfl 2 rfl ?_
  refine x_bipush (v := 6) X dX2_readCode_9 (by decide) ?_
  refine x_iadd X dX2_readCode_11 ?_
  refine x_istore_n (lv2 := [(3, .int (p0 + 6)), (2, .int (u 4 0)), (0, .ref (g.1 2)), (1, .int p0)]) X dX2_readCode_12 rfl (by decide) rfl ?_
  refine x_aload_n X dX2_readCode_13 rfl 2 rfl ?_
  refine x_get (v := .ref (g.1 3)) X 2 0 in_X2 rfl rfl (by decide) m_X2_27 rfl dX2_readCode_14 ?_
  refine x_iload_n X dX2_readCode_17 rfl 0 rfl ?_
  refine x_put (ty := .int) (u2 := (up u 4 0 (p0 + 6))) X 3 3 in_X5 tk_X5 nk_X5 rfl rfl (by decide) m_X2_87 rfl rfl rfl rfl (Nat.le_of_ble_eq_true rfl) (wdX_4 g u (p0 + 6)) dX2_readCode_18 ?_
  refine x_aload_n X dX2_readCode_21 rfl 2 rfl ?_
  refine x_get (v := .ref (g.1 3)) X 2 0 in_X2 rfl rfl (by decide) m_X2_27 rfl dX2_readCode_22 ?_
  refine x_iload_n X dX2_readCode_25 rfl 1 rfl ?_
  refine x_bipush (v := 20) X dX2_readCode_26 (by decide) ?_
  refine x_iload_n X dX2_readCode_28 rfl 3 rfl ?_
  obtain ⟨q1, e1, h⟩ := bd h
  refine x_callV X [.int (u 4 0), .int 20, .int p0] [] (c_X5_confine K.l K.D g (u 4 0) 20 p0 (up u 4 0 (p0 + 6)) q1 e1) ok_X5_confine m_X2_234 3 rfl rfl rfl rfl (Nat.le_of_ble_eq_true rfl) ⟨Nat.zero_le _, Nat.zero_le _⟩ ⟨rfl, rfl, by decide, by decide⟩ dX2_readCode_29 ?_
  refine x_aload_n X dX2_readCode_32 rfl 2 rfl ?_
  refine x_iload_n X dX2_readCode_33 rfl 0 rfl ?_
  obtain ⟨q2, e2, h⟩ := bd h
  refine x_callI X [.int (p0 + 6)] [] (c_X2_stepInstructions K.l K.D g (p0 + 6) q1 q2 e2) ok_X2_stepInstructions m_X2_238 2 rfl rfl rfl rfl (Nat.le_of_ble_eq_true rfl) ⟨Nat.zero_le _, Nat.zero_le _⟩ ⟨rfl, rfl, by decide, by decide⟩ dX2_readCode_34 ?_
  refine x_if_ne (tgt := 42) X dX2_readCode_37 (by decide) (fun c3 => ?_) (fun c3 => ?_)
  · replace h := if_f c3 h
    refine x_aload_n X dX2_readCode_42 rfl 2 rfl ?_
    obtain ⟨q4, e4, h⟩ := bd h
    refine x_callI X [] [] (c_X2_readNumber K.l K.D g q2.2 q4 e4) ok_X2_readNumber m_X2_121 2 rfl rfl rfl rfl (Nat.le_of_ble_eq_true rfl) ⟨Nat.zero_le _, Nat.zero_le _⟩ ⟨rfl, rfl, by decide, by decide⟩ dX2_readCode_43 ?_
    refine x_istore (lv2 := [(4, .int q4.1), (3, .int (p0 + 6)), (2, .int (u 4 0)), (0, .ref (g.1 2)), (1, .int p0)]) X dX2_readCode_46 (by decide) rfl ?_
    refine x_iload X dX2_readCode_48 0 rfl ?_
    refine x_iconst (v := (-1)) X dX2_readCode_50 (by decide) ?_
    refine x_icmp_eq (tgt := 76) X dX2_readCode_51 (by decide) (fun c5 => ?_) (fun c5 => ?_)
    · replace h := if_t c5 h
      refine x_sub [] rfl ?_
      exact w_X2_readCode_j76 ret X q4.2 h
    · replace h := if_f c5 h
      refine x_aload_n X dX2_readCode_54 rfl 3 rfl ?_
      refine x_get (v := .ref (g.1 3)) X 2 0 in_X2 rfl rfl (by decide) m_X2_27 rfl dX2_readCode_55 ?_
      refine x_iload X dX2_readCode_58 0 rfl ?_
      refine x_bipush (v := 8) X dX2_readCode_60 (by decide) ?_
      refine x_imul X dX2_readCode_62 ?_
      obtain ⟨q6, e6, h⟩ := bd h
      refine x_callI X [.int (q4.1 * 8)] [] (c_X5_step K.l K.D g (q4.1 * 8) q4.2 q6 e6) ok_X5_step m_X2_100 3 rfl rfl rfl rfl (Nat.le_of_ble_eq_true rfl) ⟨Nat.zero_le _, Nat.zero_le _⟩ ⟨rfl, rfl, by decide, by decide⟩ dX2_readCode_63 ?_
      refine x_if_eq (tgt := 76) X dX2_readCode_66 (by decide) (fun c7 => ?_) (fun c7 => ?_)
      · replace h := if_t c7 h
        refine x_sub [] rfl ?_
        exact w_X2_readCode_j76 ret X q6.2 h
      · replace h := if_f c7 h
        refine x_aload_n X dX2_readCode_69 rfl 3 rfl ?_
        obtain ⟨q8, e8, h⟩ := bd h
        refine x_callI X [] [] (c_X2_passAttributes K.l K.D g q6.2 q8 e8) ok_X2_passAttributes m_X2_80 2 rfl rfl rfl rfl (Nat.le_of_ble_eq_true rfl) ⟨Nat.zero_le _, Nat.zero_le _⟩ ⟨rfl, rfl, by decide, by decide⟩ dX2_readCode_70 ?_
        refine x_if_ne (tgt := 78) X dX2_readCode_73 (by decide) (fun c9 => ?_) (fun c9 => ?_)
        · replace h := if_f c9 h
          refine x_aload_n X dX2_readCode_78 rfl 3 rfl ?_
          refine x_get (v := .ref (g.1 3)) X 2 0 in_X2 rfl rfl (by decide) m_X2_27 rfl dX2_readCode_79 ?_
          refine x_get (v := .int (q8.2 4 0)) X 3 3 in_X5 rfl rfl (by decide) m_X2_87 rfl dX2_readCode_82 ?_
          refine x_iload_n X dX2_readCode_85 rfl 2 rfl ?_
          refine x_icmp_eq (tgt := 100) X dX2_readCode_86 (by decide) (fun c10 => ?_) (fun c10 => ?_)
          · replace h := if_t c10 h
            refine x_aload_n X dX2_readCode_100 rfl 3 rfl ?_
            refine x_get (v := .ref (g.1 3)) X 2 0 in_X2 rfl rfl (by decide) m_X2_27 rfl dX2_readCode_101 ?_
            obtain ⟨q11, e11, h⟩ := bd h
            refine x_callV X [] [] (c_X5_release K.l K.D g q8.2 q11 e11) ok_X5_release m_X2_241 3 rfl rfl rfl rfl (Nat.le_of_ble_eq_true rfl) ⟨Nat.zero_le _, Nat.zero_le _⟩ ⟨rfl, rfl, by decide, by decide⟩ dX2_readCode_104 ?_
            refine x_aload_n X dX2_readCode_107 rfl 3 rfl ?_
            refine x_get (v := .ref (g.1 5)) X 2 4 in_X2 rfl rfl (by decide) m_X2_45 rfl dX2_readCode_108 ?_
            refine x_iload_n X dX2_readCode_111 rfl 1 rfl ?_
            obtain ⟨q12, e12, h⟩ := bd h
            refine x_callV X [.int (p0 + 6)] [] (c_X0_lookAt K.l K.D g (p0 + 6) q11 q12 e12) ok_X0_lookAt m_X2_244 5 rfl rfl rfl rfl (Nat.le_of_ble_eq_true rfl) ⟨Nat.zero_le _, Nat.zero_le _⟩ ⟨rfl, rfl, by decide, by decide⟩ dX2_readCode_112 ?_
            refine x_iconst (v := 1) X dX2_readCode_115 (by decide) ?_
            exact x_zret X rfl (Option.some.inj h) dX2_readCode_116
          · replace h := if_f c10 h
            refine x_aload_n X dX2_readCode_89 rfl 3 rfl ?_
            refine x_get (v := .ref (g.1 3)) X 2 0 in_X2 rfl rfl (by decide) m_X2_27 rfl dX2_readCode_90 ?_
            refine x_bipush (v := 20) X dX2_readCode_93 (by decide) ?_
            refine x_iload_n X dX2_readCode_95 rfl 4 rfl ?_
            obtain ⟨q13, e13, h⟩ := bd h
            refine x_callI X [.int 20, .int p0] [] (c_X5_broken K.l K.D g 20 p0 q8.2 q13 e13) ok_X5_broken m_X2_93 3 rfl rfl rfl rfl (Nat.le_of_ble_eq_true rfl) ⟨Nat.zero_le _, Nat.zero_le _⟩ ⟨rfl, rfl, by decide, by decide⟩ dX2_readCode_96 ?_
            obtain ⟨b14, h⟩ := bchk_some h
            exact x_zret X b14 (Option.some.inj h) dX2_readCode_99
        · replace h := if_t c9 h
          refine x_sub [] rfl ?_
          exact w_X2_readCode_j76 ret X q8.2 h
  · replace h := if_t c3 h
    refine x_iconst (v := 0) X dX2_readCode_40 (by decide) ?_
    exact x_zret X rfl (Option.some.inj h) dX2_readCode_41
set_option maxRecDepth 100000 in
set_option maxHeartbeats 4000000 in
theorem c_X0_tableOf (l : Launch) (D : va_G) (g : Gw) (p0 : Int32) (u : St) (ret : Int32) (h : f_X0_tableOf p0 u = some ret) : metI l D g (wdX g) yX0_tableOf cX0_tableOf 1 .int rm_X0_tableOf [.int p0] u (ret, u) := by
  refine metI_of (own := RX0) (lv := [(0, .int p0)]) (by decide) rfl rfl (Nat.le_of_ble_eq_true rfl) (fun K hl9 hD9 X => ?_)
  subst hl9
  subst hD9
  unfold f_X0_tableOf at h
  refine x_iload_n X dX0_tableOf_0 rfl 0 rfl ?_
  refine x_iconst (v := 4) X dX0_tableOf_1 (by decide) ?_
  refine x_iadd X dX0_tableOf_2 ?_
  refine x_iconst (v := 4) X dX0_tableOf_3 (by decide) ?_
  refine x_idiv X dX0_tableOf_4 (by decide) ?_
  refine x_iconst (v := 4) X dX0_tableOf_5 (by decide) ?_
  refine x_imul X dX0_tableOf_6 ?_
  exact x_iret X (roE (Option.some.inj h)) dX0_tableOf_7
set_option maxRecDepth 100000 in
set_option maxHeartbeats 4000000 in
theorem w_X0_tableSize_j72 {K : Cx} {g : Gw} (ret : Int32) (X : XC K g cX0_tableSize 7 RX0 (some .int) rm_X0_tableSize) (u : St) (h : f_X0_tableSize_j72 u = some ret) : XW K 0 0 7 (QI K g (wdX g) (ret, u)) (wdX g) u 72 [] [] := by
  unfold f_X0_tableSize_j72 at h
  refine x_iconst (v := 0) X dX0_tableSize_72 (by decide) ?_
  exact x_iret X (roE (Option.some.inj h)) dX0_tableSize_73
set_option maxRecDepth 100000 in
set_option maxHeartbeats 4000000 in
theorem c_X0_tableSize (l : Launch) (D : va_G) (g : Gw) (p0 : Int32) (u : St) (ret : Int32) (h : f_X0_tableSize p0 u = some ret) : metI l D g (wdX g) yX0_tableSize cX0_tableSize 7 .int rm_X0_tableSize [.ref (g.1 5), .int p0] u (ret, u) := by
  refine metI_of (own := RX0) (lv := [(0, .ref (g.1 5)), (1, .int p0)]) (by decide) rfl rfl (Nat.le_of_ble_eq_true rfl) (fun K hl9 hD9 X => ?_)
  subst hl9
  subst hD9
  unfold f_X0_tableSize at h
  refine x_iload_n X dX0_tableSize_0 rfl 1 rfl ?_
  obtain ⟨q1, e1, h⟩ := bd h
  refine x_scallR X [.int p0] [] (c_X0_tableOf K.l K.D g p0 u q1 e1) ok_X0_tableOf m_X0_83 rfl rfl (Nat.le_of_ble_eq_true rfl) ⟨Nat.zero_le _, Nat.zero_le _⟩ ⟨rfl, rfl, by decide, by decide⟩ dX0_tableSize_1 ?_
  refine x_istore_n (lv2 := [(2, .int q1), (0, .ref (g.1 5)), (1, .int p0)]) X dX0_tableSize_4 rfl (by decide) rfl ?_
  refine x_iload_n X dX0_tableSize_5 rfl 0 rfl ?_
  refine x_bipush (v := 12) X dX0_tableSize_6 (by decide) ?_
  refine x_iadd X dX0_tableSize_8 ?_
  refine x_aload_n X dX0_tableSize_9 rfl 1 rfl ?_
  refine x_get (v := .int (u 10 0)) X 5 6 in_X0 rfl rfl (by decide) m_X0_45 rfl dX0_tableSize_10 ?_
  refine x_icmp_le (tgt := 18) X dX0_tableSize_13 (by decide) (fun c2 => ?_) (fun c2 => ?_)
  · replace h := if_t c2 h
    refine x_aload_n X dX0_tableSize_18 rfl 1 rfl ?_
    refine x_get (v := .ref (g.1 1)) X 5 0 in_X0 rfl rfl (by decide) m_X0_27 rfl dX0_tableSize_19 ?_
    refine x_aload_n X dX0_tableSize_22 rfl 1 rfl ?_
    refine x_get (v := .int (u 9 0)) X 5 5 in_X0 rfl rfl (by decide) m_X0_48 rfl dX0_tableSize_23 ?_
    refine x_iload_n X dX0_tableSize_26 rfl 0 rfl ?_
    refine x_iadd X dX0_tableSize_27 ?_
    refine x_iconst (v := 4) X dX0_tableSize_28 (by decide) ?_
    refine x_iadd X dX0_tableSize_29 ?_
    obtain ⟨q3, e3, h⟩ := bd h
    refine x_callR X [.int (((u 9 0) + q1) + 4)] [] (c_X1_u4 K.l K.D g (((u 9 0) + q1) + 4) u q3 e3) ok_X1_u4 m_X0_42 1 rfl rfl rfl rfl (Nat.le_of_ble_eq_true rfl) ⟨Nat.zero_le _, Nat.zero_le _⟩ ⟨rfl, rfl, by decide, by decide⟩ dX0_tableSize_30 ?_
    refine x_i2l X dX0_tableSize_33 ?_
    refine x_lstore_n (lv2 := [(3, .long (q3.toInt64)), (2, .int q1), (0, .ref (g.1 5)), (1, .int p0)]) X dX0_tableSize_34 rfl (by decide) rfl ?_
    refine x_aload_n X dX0_tableSize_35 rfl 2 rfl ?_
    refine x_get (v := .ref (g.1 1)) X 5 0 in_X0 rfl rfl (by decide) m_X0_27 rfl dX0_tableSize_36 ?_
    refine x_aload_n X dX0_tableSize_39 rfl 2 rfl ?_
    refine x_get (v := .int (u 9 0)) X 5 5 in_X0 rfl rfl (by decide) m_X0_48 rfl dX0_tableSize_40 ?_
    refine x_iload_n X dX0_tableSize_43 rfl 1 rfl ?_
    refine x_iadd X dX0_tableSize_44 ?_
    refine x_bipush (v := 8) X dX0_tableSize_45 (by decide) ?_
    refine x_iadd X dX0_tableSize_47 ?_
    obtain ⟨q4, e4, h⟩ := bd h
    refine x_callR X [.int (((u 9 0) + q1) + 8)] [] (c_X1_u4 K.l K.D g (((u 9 0) + q1) + 8) u q4 e4) ok_X1_u4 m_X0_42 1 rfl rfl rfl rfl (Nat.le_of_ble_eq_true rfl) ⟨Nat.zero_le _, Nat.zero_le _⟩ ⟨rfl, rfl, by decide, by decide⟩ dX0_tableSize_48 ?_
    refine x_i2l X dX0_tableSize_51 ?_
    refine x_lstore (lv2 := [(5, .long (q4.toInt64)), (3, .long (q3.toInt64)), (2, .int q1), (0, .ref (g.1 5)), (1, .int p0)]) X dX0_tableSize_52 (by decide) rfl ?_
    refine x_lload_n X dX0_tableSize_54 rfl 1 rfl ?_
    refine x_lload X dX0_tableSize_55 0 rfl ?_
    refine x_lcmp X dX0_tableSize_57 ?_
    refine x_if_gt (tgt := 72) X dX0_tableSize_58 (by decide) (fun c5 => ?_) (fun c5 => ?_)
    · replace h := if_t c5 h
      refine x_sub [] rfl ?_
      exact w_X0_tableSize_j72 ret X u h
    · replace h := if_f c5 h
      refine x_lload X dX0_tableSize_61 0 rfl ?_
      refine x_lload_n X dX0_tableSize_63 rfl 1 rfl ?_
      refine x_lsub X dX0_tableSize_64 ?_
      refine x_ldc2 (v := 8) X m_X0_86 dX0_tableSize_65 ?_
      refine x_lcmp X dX0_tableSize_68 ?_
      refine x_if_lt (tgt := 74) X dX0_tableSize_69 (by decide) (fun c6 => ?_) (fun c6 => ?_)
      · replace h := if_t c6 h
        refine x_iload_n X dX0_tableSize_74 rfl 2 rfl ?_
        refine x_bipush (v := 12) X dX0_tableSize_75 (by decide) ?_
        refine x_iadd X dX0_tableSize_77 ?_
        refine x_iconst (v := 4) X dX0_tableSize_78 (by decide) ?_
        refine x_lload X dX0_tableSize_79 0 rfl ?_
        refine x_lload_n X dX0_tableSize_81 rfl 1 rfl ?_
        refine x_lsub X dX0_tableSize_82 ?_
        refine x_lconst (v := 1) X dX0_tableSize_83 (by decide) ?_
        refine x_ladd X dX0_tableSize_84 ?_
        refine x_l2i X dX0_tableSize_85 ?_
        refine x_imul X dX0_tableSize_86 ?_
        refine x_iadd X dX0_tableSize_87 ?_
        refine x_iload_n X dX0_tableSize_88 rfl 4 rfl ?_
        refine x_isub X dX0_tableSize_89 ?_
        exact x_iret X (roE (Option.some.inj h)) dX0_tableSize_90
      · replace h := if_f c6 h
        refine x_sub [] rfl ?_
        exact w_X0_tableSize_j72 ret X u h
  · replace h := if_f c2 h
    refine x_iconst (v := 0) X dX0_tableSize_16 (by decide) ?_
    exact x_iret X (roE (Option.some.inj h)) dX0_tableSize_17
