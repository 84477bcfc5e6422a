set_option maxRecDepth 100000 in
set_option maxHeartbeats 4000000 in
theorem w_X2_readClassNumber_j59 {K : Cx} {g : Gw} (ret : Int32 × St) (X : XC K g cX2_readClassNumber 2 RX2 (some .boolean) rm_X2_readClassNumber) (z0 : Int32) (u : St) (h : f_X2_readClassNumber_j59 z0 u = some ret) : XW K 0 0 2 (QI K g (wdX g) ret) (wdX g) u 59 [] [.int z0] := by
  unfold f_X2_readClassNumber_j59 at h
  obtain ⟨b6, h⟩ := bchk_some h
  exact x_zret X b6 (Option.some.inj h) dX2_readClassNumber_59
set_option maxRecDepth 100000 in
set_option maxHeartbeats 4000000 in
theorem w_X2_readClassNumber_j54 {K : Cx} {g : Gw} (ret : Int32 × St) (X : XC K g cX2_readClassNumber 2 RX2 (some .boolean) rm_X2_readClassNumber) (u : St) (h : f_X2_readClassNumber_j54 u = some ret) : XW K 0 0 2 (QI K g (wdX g) ret) (wdX g) u 54 [] [] := by
  unfold f_X2_readClassNumber_j54 at h
  refine x_iconst (v := 1) X dX2_readClassNumber_54 (by decide) ?_
  refine x_goto (tgt := 59) X dX2_readClassNumber_55 (by decide) ?_
  exact w_X2_readClassNumber_j59 ret X 1 u h
set_option maxRecDepth 100000 in
set_option maxHeartbeats 4000000 in
theorem c_X2_readClassNumber (l : Launch) (D : va_G) (g : Gw) (u : St) (ret : Int32 × St) (h : f_X2_readClassNumber u = some ret) : metI l D g (wdX g) yX2_readClassNumber cX2_readClassNumber 2 .boolean rm_X2_readClassNumber [.ref (g.1 2)] u ret := by
  refine metI_of (own := RX2) (lv := [(0, .ref (g.1 2))]) (by decide) rfl rfl (Nat.le_of_ble_eq_true rfl) (fun K hl9 hD9 X => ?_)
  subst hl9
  subst hD9
  unfold f_X2_readClassNumber at h
  refine x_aload_n X dX2_readClassNumber_0 rfl 0 rfl ?_
  refine x_get (v := .ref (g.1 3)) X 2 0 in_X2 rfl rfl (by decide) m_X2_27 rfl dX2_readClassNumber_1 ?_
  refine x_get (v := .int (u 4 0)) X 3 3 in_X5 rfl rfl (by decide) m_X2_87 rfl dX2_readClassNumber_4 ?_
  refine x_istore_n (lv2 := [(1, .int (u 4 0)), (0, .ref (g.1 2))]) X dX2_readClassNumber_7 rfl (by decide) rfl ?_
  refine x_aload_n X dX2_readClassNumber_8 rfl 1 rfl ?_
  refine x_get (v := .ref (g.1 3)) X 2 0 in_X2 rfl rfl (by decide) m_X2_27 rfl dX2_readClassNumber_9 ?_
  refine x_iconst (v := 2) X dX2_readClassNumber_12 (by decide) ?_
  obtain ⟨q1, e1, h⟩ := bd h
  refine x_callI X [.int 2] [] (c_X5_step K.l K.D g 2 u q1 e1) ok_X5_step m_X2_100 3 rfl rfl rfl rfl (Nat.le_of_ble_eq_true rfl) ⟨Nat.zero_le _, Nat.zero_le _⟩ ⟨rfl, rfl, by decide, by decide⟩ dX2_readClassNumber_13 ?_
  refine x_if_ne (tgt := 21) X dX2_readClassNumber_16 (by decide) (fun c2 => ?_) (fun c2 => ?_)
  · replace h := if_f c2 h
    refine x_aload_n X dX2_readClassNumber_21 rfl 1 rfl ?_
    refine x_get (v := .ref (g.1 4)) X 2 3 in_X2 rfl rfl (by decide) m_X2_36 rfl dX2_readClassNumber_22 ?_
    refine x_aload_n X dX2_readClassNumber_25 rfl 1 rfl ?_
    refine x_get (v := .ref (g.1 1)) X 2 2 in_X2 rfl rfl (by decide) m_X2_18 rfl dX2_readClassNumber_26 ?_
    refine x_iload_n X dX2_readClassNumber_29 rfl 0 rfl ?_
    obtain ⟨q3, e3, h⟩ := bd h
    refine x_callR X [.int (u 4 0)] [.ref (g.1 4)] (c_X1_u2 K.l K.D g (u 4 0) q1.2 q3 e3) ok_X1_u2 m_X2_109 1 rfl rfl rfl rfl (Nat.le_of_ble_eq_true rfl) ⟨Nat.zero_le _, Nat.zero_le _⟩ ⟨rfl, rfl, by decide, by decide⟩ dX2_readClassNumber_30 ?_
    obtain ⟨q4, e4, h⟩ := bd h
    refine x_callR X [.int q3] [] (c_X4_kindOf K.l K.D g q3 q1.2 q4 e4) ok_X4_kindOf m_X2_118 4 rfl rfl rfl rfl (Nat.le_of_ble_eq_true rfl) ⟨Nat.zero_le _, Nat.zero_le _⟩ ⟨rfl, rfl, by decide, by decide⟩ dX2_readClassNumber_33 ?_
    refine x_bipush (v := 7) X dX2_readClassNumber_36 (by decide) ?_
    refine x_icmp_eq (tgt := 54) X dX2_readClassNumber_38 (by decide) (fun c5 => ?_) (fun c5 => ?_)
    · replace h := if_t c5 h
      refine x_sub [] rfl ?_
      exact w_X2_readClassNumber_j54 ret X q1.2 h
    · replace h := if_f c5 h
      refine x_aload_n X dX2_readClassNumber_41 rfl 1 rfl ?_
      refine x_get (v := .ref (g.1 3)) X 2 0 in_X2 rfl rfl (by decide) m_X2_27 rfl dX2_readClassNumber_42 ?_
      refine x_bipush (v := 12) X dX2_readClassNumber_45 (by decide) ?_
      refine x_iload_n X dX2_readClassNumber_47 rfl 0 rfl ?_
      obtain ⟨q7, e7, h⟩ := bd h
      refine x_callI X [.int 12, .int (u 4 0)] [] (c_X5_broken K.l K.D g 12 (u 4 0) q1.2 q7 e7) ok_X5_broken m_X2_93 3 rfl rfl rfl rfl (Nat.le_of_ble_eq_true rfl) ⟨Nat.zero_le _, Nat.zero_le _⟩ ⟨rfl, rfl, by decide, by decide⟩ dX2_readClassNumber_48 ?_
      refine x_if_eq (tgt := 58) X dX2_readClassNumber_51 (by decide) (fun c8 => ?_) (fun c8 => ?_)
      · replace h := if_t c8 h
        refine x_iconst (v := 0) X dX2_readClassNumber_58 (by decide) ?_
        refine x_sub [] rfl ?_
        exact w_X2_readClassNumber_j59 ret X 0 q7.2 h
      · replace h := if_f c8 h
        refine x_sub [] rfl ?_
        exact w_X2_readClassNumber_j54 ret X q7.2 h
  · replace h := if_t c2 h
    refine x_iconst (v := 0) X dX2_readClassNumber_19 (by decide) ?_
    exact x_zret X rfl (Option.some.inj h) dX2_readClassNumber_20
set_option maxRecDepth 100000 in
set_option maxHeartbeats 4000000 in
theorem w_X2_readClass_j65 {K : Cx} {g : Gw} (ret : Int32 × St) (X : XC K g cX2_readClass 2 RX2 (some .boolean) rm_X2_readClass) (z0 : Int32) (u : St) (h : f_X2_readClass_j65 z0 u = some ret) : XW K 0 0 2 (QI K g (wdX g) ret) (wdX g) u 65 [] [.int z0] := by
  unfold f_X2_readClass_j65 at h
  obtain ⟨b8, h⟩ := bchk_some h
  exact x_zret X b8 (Option.some.inj h) dX2_readClass_65
set_option maxRecDepth 100000 in
set_option maxHeartbeats 4000000 in
theorem w_X2_readClass_j64 {K : Cx} {g : Gw} (ret : Int32 × St) (X : XC K g cX2_readClass 2 RX2 (some .boolean) rm_X2_readClass) (u : St) (h : f_X2_readClass_j64 u = some ret) : XW K 0 0 2 (QI K g (wdX g) ret) (wdX g) u 64 [] [] := by
  unfold f_X2_readClass_j64 at h
  refine x_iconst (v := 0) X dX2_readClass_64 (by decide) ?_
  exact w_X2_readClass_j65 ret X 0 u h
set_option maxRecDepth 100000 in
set_option maxHeartbeats 4000000 in
theorem c_X2_readClass (l : Launch) (D : va_G) (g : Gw) (u : St) (ret : Int32 × St) (h : f_X2_readClass u = some ret) : metI l D g (wdX g) yX2_readClass cX2_readClass 2 .boolean rm_X2_readClass [.ref (g.1 2)] u ret := by
  refine metI_of (own := RX2) (lv := [(0, .ref (g.1 2))]) (by decide) rfl rfl (Nat.le_of_ble_eq_true rfl) (fun K hl9 hD9 X => ?_)
  subst hl9
  subst hD9
  unfold f_X2_readClass at h
  refine x_aload_n X dX2_readClass_0 rfl 0 rfl ?_
  refine x_get (v := .ref (g.1 3)) X 2 0 in_X2 rfl rfl (by decide) m_X2_27 rfl dX2_readClass_1 ?_
  refine x_get (v := .int (u 4 0)) X 3 3 in_X5 rfl rfl (by decide) m_X2_87 rfl dX2_readClass_4 ?_
  refine x_istore_n (lv2 := [(1, .int (u 4 0)), (0, .ref (g.1 2))]) X dX2_readClass_7 rfl (by decide) rfl ?_
  refine x_aload_n X dX2_readClass_8 rfl 1 rfl ?_
  refine x_get (v := .ref (g.1 3)) X 2 0 in_X2 rfl rfl (by decide) m_X2_27 rfl dX2_readClass_9 ?_
  refine x_iconst (v := 2) X dX2_readClass_12 (by decide) ?_
  obtain ⟨q1, e1, h⟩ := bd h
  refine x_callI X [.int 2] [] (c_X5_step K.l K.D g 2 u q1 e1) ok_X5_step m_X2_100 3 rfl rfl rfl rfl (Nat.le_of_ble_eq_true rfl) ⟨Nat.zero_le _, Nat.zero_le _⟩ ⟨rfl, rfl, by decide, by decide⟩ dX2_readClass_13 ?_
  refine x_if_ne (tgt := 21) X dX2_readClass_16 (by decide) (fun c2 => ?_) (fun c2 => ?_)
  · replace h := if_f c2 h
    refine x_aload_n X dX2_readClass_21 rfl 1 rfl ?_
    refine x_get (v := .ref (g.1 1)) X 2 2 in_X2 rfl rfl (by decide) m_X2_18 rfl dX2_readClass_22 ?_
    refine x_iload_n X dX2_readClass_25 rfl 0 rfl ?_
    obtain ⟨q3, e3, h⟩ := bd h
    refine x_callR X [.int (u 4 0)] [] (c_X1_u2 K.l K.D g (u 4 0) q1.2 q3 e3) ok_X1_u2 m_X2_109 1 rfl rfl rfl rfl (Nat.le_of_ble_eq_true rfl) ⟨Nat.zero_le _, Nat.zero_le _⟩ ⟨rfl, rfl, by decide, by decide⟩ dX2_readClass_26 ?_
    obtain ⟨q4, e4, h⟩ := bd h
    refine x_scallR X [.int q3] [] (c_X2_classFlagsFit K.l K.D g q3 q1.2 q4 e4) ok_X2_classFlagsFit m_X2_112 rfl rfl (Nat.le_of_ble_eq_true rfl) ⟨Nat.zero_le _, Nat.zero_le _⟩ ⟨rfl, rfl, by decide, by decide⟩ dX2_readClass_29 ?_
    refine x_if_ne (tgt := 46) X dX2_readClass_32 (by decide) (fun c5 => ?_) (fun c5 => ?_)
    · replace h := if_f c5 h
      refine x_aload_n X dX2_readClass_46 rfl 1 rfl ?_
      obtain ⟨q6, e6, h⟩ := bd h
      refine x_callI X [] [] (c_X2_readClassNumber K.l K.D g q1.2 q6 e6) ok_X2_readClassNumber m_X2_115 2 rfl rfl rfl rfl (Nat.le_of_ble_eq_true rfl) ⟨Nat.zero_le _, Nat.zero_le _⟩ ⟨rfl, rfl, by decide, by decide⟩ dX2_readClass_47 ?_
      refine x_if_eq (tgt := 64) X dX2_readClass_50 (by decide) (fun c7 => ?_) (fun c7 => ?_)
      · replace h := if_t c7 h
        refine x_sub [] rfl ?_
        exact w_X2_readClass_j64 ret X q6.2 h
      · replace h := if_f c7 h
        refine x_aload_n X dX2_readClass_53 rfl 1 rfl ?_
        obtain ⟨q9, e9, h⟩ := bd h
        refine x_callI X [] [] (c_X2_readClassNumber K.l K.D g q6.2 q9 e9) ok_X2_readClassNumber m_X2_115 2 rfl rfl rfl rfl (Nat.le_of_ble_eq_true rfl) ⟨Nat.zero_le _, Nat.zero_le _⟩ ⟨rfl, rfl, by decide, by decide⟩ dX2_readClass_54 ?_
        refine x_if_eq (tgt := 64) X dX2_readClass_57 (by decide) (fun c10 => ?_) (fun c10 => ?_)
        · replace h := if_t c10 h
          refine x_sub [] rfl ?_
          exact w_X2_readClass_j64 ret X q9.2 h
        · replace h := if_f c10 h
          refine x_iconst (v := 1) X dX2_readClass_60 (by decide) ?_
          refine x_goto (tgt := 65) X dX2_readClass_61 (by decide) ?_
          refine x_sub [] rfl ?_
          exact w_X2_readClass_j65 ret X 1 q9.2 h
    · replace h := if_t c5 h
      refine x_aload_n X dX2_readClass_35 rfl 1 rfl ?_
      refine x_get (v := .ref (g.1 3)) X 2 0 in_X2 rfl rfl (by decide) m_X2_27 rfl dX2_readClass_36 ?_
      refine x_bipush (v := 11) X dX2_readClass_39 (by decide) ?_
      refine x_iload_n X dX2_readClass_41 rfl 0 rfl ?_
      obtain ⟨q11, e11, h⟩ := bd h
      refine x_callI X [.int 11, .int (u 4 0)] [] (c_X5_broken K.l K.D g 11 (u 4 0) q1.2 q11 e11) ok_X5_broken m_X2_93 3 rfl rfl rfl rfl (Nat.le_of_ble_eq_true rfl) ⟨Nat.zero_le _, Nat.zero_le _⟩ ⟨rfl, rfl, by decide, by decide⟩ dX2_readClass_42 ?_
      obtain ⟨b12, h⟩ := bchk_some h
      exact x_zret X b12 (Option.some.inj h) dX2_readClass_45
  · replace h := if_t c2 h
    refine x_iconst (v := 0) X dX2_readClass_19 (by decide) ?_
    exact x_zret X rfl (Option.some.inj h) dX2_readClass_20
set_option maxRecDepth 100000 in
set_option maxHeartbeats 4000000 in
theorem w_X2_readNumber_j31 {K : Cx} {g : Gw} (ret : Int32 × St) (X : XC K g cX2_readNumber 2 RX2 (some .int) rm_X2_readNumber) (z0 : Int32) (u : St) (h : f_X2_readNumber_j31 z0 u = some ret) : XW K 0 0 2 (QI K g (wdX g) ret) (wdX g) u 31 [] [.int z0] := by
  unfold f_X2_readNumber_j31 at h
  exact x_iret X (Option.some.inj h) dX2_readNumber_31
set_option maxRecDepth 100000 in
set_option maxHeartbeats 4000000 in
theorem c_X2_readNumber (l : Launch) (D : va_G) (g : Gw) (u : St) (ret : Int32 × St) (h : f_X2_readNumber u = some ret) : metI l D g (wdX g) yX2_readNumber cX2_readNumber 2 .int rm_X2_readNumber [.ref (g.1 2)] u ret := by
  refine metI_of (own := RX2) (lv := [(0, .ref (g.1 2))]) (by decide) rfl rfl (Nat.le_of_ble_eq_true rfl) (fun K hl9 hD9 X => ?_)
  subst hl9
  subst hD9
  unfold f_X2_readNumber at h
  refine x_aload_n X dX2_readNumber_0 rfl 0 rfl ?_
  refine x_get (v := .ref (g.1 3)) X 2 0 in_X2 rfl rfl (by decide) m_X2_27 rfl dX2_readNumber_1 ?_
  refine x_get (v := .int (u 4 0)) X 3 3 in_X5 rfl rfl (by decide) m_X2_87 rfl dX2_readNumber_4 ?_
  refine x_istore_n (lv2 := [(1, .int (u 4 0)), (0, .ref (g.1 2))]) X dX2_readNumber_7 rfl (by decide) rfl ?_
  refine x_aload_n X dX2_readNumber_8 rfl 1 rfl ?_
  refine x_get (v := .ref (g.1 3)) X 2 0 in_X2 rfl rfl (by decide) m_X2_27 rfl dX2_readNumber_9 ?_
  refine x_iconst (v := 2) X dX2_readNumber_12 (by decide) ?_
  obtain ⟨q1, e1, h⟩ := bd h
  refine x_callI X [.int 2] [] (c_X5_step K.l K.D g 2 u q1 e1) ok_X5_step m_X2_100 3 rfl rfl rfl rfl (Nat.le_of_ble_eq_true rfl) ⟨Nat.zero_le _, Nat.zero_le _⟩ ⟨rfl, rfl, by decide, by decide⟩ dX2_readNumber_13 ?_
  refine x_if_eq (tgt := 30) X dX2_readNumber_16 (by decide) (fun c2 => ?_) (fun c2 => ?_)
  · replace h := if_t c2 h
    refine x_iconst (v := (-1)) X dX2_readNumber_30 (by decide) ?_
    refine x_sub [] rfl ?_
    exact w_X2_readNumber_j31 ret X (-1) q1.2 h
  · replace h := if_f c2 h
    refine x_aload_n X dX2_readNumber_19 rfl 1 rfl ?_
    refine x_get (v := .ref (g.1 1)) X 2 2 in_X2 rfl rfl (by decide) m_X2_18 rfl dX2_readNumber_20 ?_
    refine x_iload_n X dX2_readNumber_23 rfl 0 rfl ?_
    obtain ⟨q3, e3, h⟩ := bd h
    refine x_callR X [.int (u 4 0)] [] (c_X1_u2 K.l K.D g (u 4 0) q1.2 q3 e3) ok_X1_u2 m_X2_109 1 rfl rfl rfl rfl (Nat.le_of_ble_eq_true rfl) ⟨Nat.zero_le _, Nat.zero_le _⟩ ⟨rfl, rfl, by decide, by decide⟩ dX2_readNumber_24 ?_
    refine x_goto (tgt := 31) X dX2_readNumber_27 (by decide) ?_
    refine x_sub [] rfl ?_
    exact w_X2_readNumber_j31 ret X q3 q1.2 h
abbrev H_X2_readInterfaces_15 (x1 : Int32) (x2 : Int32) (K : Cx) (g : Gw) (ret : Int32 × St) (a : Int32 × St) : Prop := XW K 0 0 6 (QI K g (wdX g) ret) (wdX g) a.2 15 [(0, .ref (g.1 2)), (1, .int x1), (2, .int x2), (3, .int a.1)] []
abbrev E_X2_readInterfaces_15 (x1 : Int32) (x2 : Int32) (K : Cx) (g : Gw) (ret : Int32 × St) (q : (Int32 × St) ⊕ (St)) : Prop := Sum.elim (fun q => q = ret) (fun q => XW K 0 0 6 (QI K g (wdX g) ret) (wdX g) q 93 [(1, .int x1)] []) q
abbrev H_X2_readInterfaces_41 (x1 : Int32) (x2 : Int32) (x3 : Int32) (x4 : Int32) (K : Cx) (g : Gw) (ret : Int32 × St) (a : Int32 × St) : Prop := XW K 0 0 6 (QI K g (wdX g) ret) (wdX g) a.2 41 [(0, .ref (g.1 2)), (1, .int x1), (2, .int x2), (3, .int x3), (4, .int x4), (5, .int a.1)] []
abbrev E_X2_readInterfaces_41 (x1 : Int32) (x2 : Int32) (x3 : Int32) (x4 : Int32) (K : Cx) (g : Gw) (ret : Int32 × St) (q : (Int32 × St) ⊕ (St)) : Prop := Sum.elim (fun q => q = ret) (fun q => XW K 0 0 6 (QI K g (wdX g) ret) (wdX g) q 87 [(0, .ref (g.1 2)), (1, .int x1), (2, .int x2), (3, .int x3)] []) q
set_option maxRecDepth 100000 in
set_option maxHeartbeats 4000000 in
theorem w_X2_readInterfaces_b41 {K : Cx} {g : Gw} (x1 : Int32) (x2 : Int32) (x3 : Int32) (x4 : Int32) (ret : Int32 × St) (X : XC K g cX2_readInterfaces 6 RX2 (some .boolean) rm_X2_readInterfaces) (a : Int32 × St) (r : ((Int32 × St) ⊕ (St)) ⊕ (Int32 × St)) (h : f_X2_readInterfaces_b41 x1 x2 x3 x4 a = some r) (k0 : ∀ q, r = .inl q → E_X2_readInterfaces_41 x1 x2 x3 x4 K g ret q) (k1 : ∀ q, r = .inr q → H_X2_readInterfaces_41 x1 x2 x3 x4 K g ret q) : H_X2_readInterfaces_41 x1 x2 x3 x4 K g ret a := by
  unfold f_X2_readInterfaces_b41 at h
  show XW K 0 0 6 (QI K g (wdX g) ret) (wdX g) a.2 41 [(0, .ref (g.1 2)), (1, .int x1), (2, .int x2), (3, .int x3), (4, .int x4), (5, .int a.1)] []
  refine x_iload X dX2_readInterfaces_41 5 rfl ?_
  refine x_iload X dX2_readInterfaces_43 4 rfl ?_
  refine x_icmp_ge (tgt := 87) X dX2_readInterfaces_45 (by decide) (fun c5 => ?_) (fun c5 => ?_)
  · replace h := if_t c5 h
    refine x_sub [0, 1, 2, 3] rfl ?_
    have h9 := k0 _ (Option.some.inj h).symm
    exact h9
  · replace h := if_f c5 h
    refine x_aload_n X dX2_readInterfaces_48 rfl 0 rfl ?_
    refine x_get (v := .ref (g.1 1)) X 2 2 in_X2 rfl rfl (by decide) m_X2_18 rfl dX2_readInterfaces_49 ?_
    refine x_iload X dX2_readInterfaces_52 5 rfl ?_
    obtain ⟨q6, e6, h⟩ := bd h
    refine x_callR X [.int a.1] [] (c_X1_u2 K.l K.D g a.1 a.2 q6 e6) ok_X1_u2 m_X2_109 1 rfl rfl rfl rfl (Nat.le_of_ble_eq_true rfl) ⟨Nat.zero_le _, Nat.zero_le _⟩ ⟨rfl, rfl, by decide, by decide⟩ dX2_readInterfaces_54 ?_
    refine x_aload_n X dX2_readInterfaces_57 rfl 0 rfl ?_
    refine x_get (v := .ref (g.1 1)) X 2 2 in_X2 rfl rfl (by decide) m_X2_18 rfl dX2_readInterfaces_58 ?_
    refine x_iload X dX2_readInterfaces_61 4 rfl ?_
    obtain ⟨q7, e7, h⟩ := bd h
    refine x_callR X [.int x4] [.int q6] (c_X1_u2 K.l K.D g x4 a.2 q7 e7) ok_X1_u2 m_X2_109 1 rfl rfl rfl rfl (Nat.le_of_ble_eq_true rfl) ⟨Nat.zero_le _, Nat.zero_le _⟩ ⟨rfl, rfl, by decide, by decide⟩ dX2_readInterfaces_63 ?_
    refine x_icmp_ne (tgt := 81) X dX2_readInterfaces_66 (by decide) (fun c8 => ?_) (fun c8 => ?_)
    · replace h := if_f c8 h
      refine x_iinc (v := (a.1 + 2)) (lv2 := [(5, .int (a.1 + 2)), (0, .ref (g.1 2)), (1, .int x1), (2, .int x2), (3, .int x3), (4, .int x4)]) X dX2_readInterfaces_81 5 rfl rfl (by decide) rfl ?_
      refine x_goto (tgt := 41) X dX2_readInterfaces_84 (by decide) ?_
      refine x_sub [1, 2, 3, 4, 5, 0] rfl ?_
      have h9 := k1 _ (Option.some.inj h).symm
      exact h9
    · replace h := if_t c8 h
      refine x_aload_n X dX2_readInterfaces_69 rfl 0 rfl ?_
      refine x_get (v := .ref (g.1 3)) X 2 0 in_X2 rfl rfl (by decide) m_X2_27 rfl dX2_readInterfaces_70 ?_
      refine x_bipush (v := 13) X dX2_readInterfaces_73 (by decide) ?_
      refine x_iload X dX2_readInterfaces_75 4 rfl ?_
      obtain ⟨q9, e9, h⟩ := bd h
      refine x_callI X [.int 13, .int x4] [] (c_X5_broken K.l K.D g 13 x4 a.2 q9 e9) ok_X5_broken m_X2_93 3 rfl rfl rfl rfl (Nat.le_of_ble_eq_true rfl) ⟨Nat.zero_le _, Nat.zero_le _⟩ ⟨rfl, rfl, by decide, by decide⟩ dX2_readInterfaces_77 ?_
      obtain ⟨b10, h⟩ := bchk_some h
      exact x_zret X b10 (k0 _ (Option.some.inj h).symm) dX2_readInterfaces_80
set_option maxRecDepth 100000 in
set_option maxHeartbeats 4000000 in
theorem w_X2_readInterfaces_b15 {K : Cx} {g : Gw} (x1 : Int32) (x2 : Int32) (ret : Int32 × St) (X : XC K g cX2_readInterfaces 6 RX2 (some .boolean) rm_X2_readInterfaces) (a : Int32 × St) (r : ((Int32 × St) ⊕ (St)) ⊕ (Int32 × St)) (h : f_X2_readInterfaces_b15 x1 x2 a = some r) (k0 : ∀ q, r = .inl q → E_X2_readInterfaces_15 x1 x2 K g ret q) (k1 : ∀ q, r = .inr q → H_X2_readInterfaces_15 x1 x2 K g ret q) : H_X2_readInterfaces_15 x1 x2 K g ret a := by
  unfold f_X2_readInterfaces_b15 at h
  show XW K 0 0 6 (QI K g (wdX g) ret) (wdX g) a.2 15 [(0, .ref (g.1 2)), (1, .int x1), (2, .int x2), (3, .int a.1)] []
  refine x_iload_n X dX2_readInterfaces_15 rfl 3 rfl ?_
  refine x_iload_n X dX2_readInterfaces_16 rfl 1 rfl ?_
  refine x_icmp_ge (tgt := 93) X dX2_readInterfaces_17 (by decide) (fun c2 => ?_) (fun c2 => ?_)
  · replace h := if_t c2 h
    refine x_sub [1] rfl ?_
    have h9 := k0 _ (Option.some.inj h).symm
    exact h9
  · replace h := if_f c2 h
    refine x_aload_n X dX2_readInterfaces_20 rfl 0 rfl ?_
    refine x_get (v := .ref (g.1 3)) X 2 0 in_X2 rfl rfl (by decide) m_X2_27 rfl dX2_readInterfaces_21 ?_
    refine x_get (v := .int (a.2 4 0)) X 3 3 in_X5 rfl rfl (by decide) m_X2_87 rfl dX2_readInterfaces_24 ?_
    refine x_istore (lv2 := [(4, .int (a.2 4 0)), (0, .ref (g.1 2)), (1, .int x1), (2, .int x2), (3, .int a.1)]) X dX2_readInterfaces_27 (by decide) rfl ?_
    refine x_aload_n X dX2_readInterfaces_29 rfl 1 rfl ?_
    obtain ⟨q3, e3, h⟩ := bd h
    refine x_callI X [] [] (c_X2_readClassNumber K.l K.D g a.2 q3 e3) ok_X2_readClassNumber m_X2_115 2 rfl rfl rfl rfl (Nat.le_of_ble_eq_true rfl) ⟨Nat.zero_le _, Nat.zero_le _⟩ ⟨rfl, rfl, by decide, by decide⟩ dX2_readInterfaces_30 ?_
    refine x_if_ne (tgt := 38) X dX2_readInterfaces_33 (by decide) (fun c4 => ?_) (fun c4 => ?_)
    · replace h := if_f c4 h
      refine x_iload_n X dX2_readInterfaces_38 rfl 3 rfl ?_
      refine x_istore (lv2 := [(5, .int x2), (4, .int (a.2 4 0)), (0, .ref (g.1 2)), (1, .int x1), (2, .int x2), (3, .int a.1)]) X dX2_readInterfaces_39 (by decide) rfl ?_
      refine x_sub [2, 3, 4, 5, 1, 0] rfl ?_
      obtain ⟨q110, e11, h⟩ := bd h
      refine loopF_w (WH := H_X2_readInterfaces_41 x1 x2 a.1 (a.2 4 0) K g ret) (KB := E_X2_readInterfaces_41 x1 x2 a.1 (a.2 4 0) K g ret) (fun a9 r9 h9 k8 k7 => w_X2_readInterfaces_b41 x1 x2 a.1 (a.2 4 0) ret X a9 r9 h9 k8 k7) FU (x2, q3.2) q110 e11 ?_
      rcases q110 with q11 | q11
      · replace h := sl h
        exact (k0 _ (Option.some.inj h).symm)
      · replace h := sr h
        show XW K 0 0 6 (QI K g (wdX g) ret) (wdX g) q11 87 [(0, .ref (g.1 2)), (1, .int x1), (2, .int x2), (3, .int a.1)] []
        refine x_iinc (v := (a.1 + 1)) (lv2 := [(3, .int (a.1 + 1)), (0, .ref (g.1 2)), (1, .int x1), (2, .int x2)]) X dX2_readInterfaces_87 3 rfl rfl (by decide) rfl ?_
        refine x_goto (tgt := 15) X dX2_readInterfaces_90 (by decide) ?_
        refine x_sub [1, 2, 3, 0] rfl ?_
        have h9 := k1 _ (Option.some.inj h).symm
        exact h9
    · replace h := if_t c4 h
      refine x_iconst (v := 0) X dX2_readInterfaces_36 (by decide) ?_
      exact x_zret X rfl (k0 _ (Option.some.inj h).symm) dX2_readInterfaces_37
set_option maxRecDepth 100000 in
set_option maxHeartbeats 4000000 in
theorem w_X2_readInterfaces_j103 {K : Cx} {g : Gw} (ret : Int32 × St) (X : XC K g cX2_readInterfaces 6 RX2 (some .boolean) rm_X2_readInterfaces) (z0 : Int32) (u : St) (h : f_X2_readInterfaces_j103 z0 u = some ret) : XW K 0 0 6 (QI K g (wdX g) ret) (wdX g) u 103 [] [.int z0] := by
  unfold f_X2_readInterfaces_j103 at h
  obtain ⟨b14, h⟩ := bchk_some h
  exact x_zret X b14 (Option.some.inj h) dX2_readInterfaces_103
set_option maxRecDepth 100000 in
set_option maxHeartbeats 4000000 in
theorem c_X2_readInterfaces (l : Launch) (D : va_G) (g : Gw) (u : St) (ret : Int32 × St) (h : f_X2_readInterfaces u = some ret) : metI l D g (wdX g) yX2_readInterfaces cX2_readInterfaces 6 .boolean rm_X2_readInterfaces [.ref (g.1 2)] u ret := by
  refine metI_of (own := RX2) (lv := [(0, .ref (g.1 2))]) (by decide) rfl rfl (Nat.le_of_ble_eq_true rfl) (fun K hl9 hD9 X => ?_)
  subst hl9
  subst hD9
  unfold f_X2_readInterfaces at h
  refine x_aload_n X dX2_readInterfaces_0 rfl 0 rfl ?_
  obtain ⟨q1, e1, h⟩ := bd h
  refine x_callI X [] [] (c_X2_readNumber K.l K.D g u q1 e1) ok_X2_readNumber m_X2_121 2 rfl rfl rfl rfl (Nat.le_of_ble_eq_true rfl) ⟨Nat.zero_le _, Nat.zero_le _⟩ ⟨rfl, rfl, by decide, by decide⟩ dX2_readInterfaces_1 ?_
  refine x_istore_n (lv2 := [(1, .int q1.1), (0, .ref (g.1 2))]) X dX2_readInterfaces_4 rfl (by decide) rfl ?_
  refine x_aload_n X dX2_readInterfaces_5 rfl 1 rfl ?_
  refine x_get (v := .ref (g.1 3)) X 2 0 in_X2 rfl rfl (by decide) m_X2_27 rfl dX2_readInterfaces_6 ?_
  refine x_get (v := .int (q1.2 4 0)) X 3 3 in_X5 rfl rfl (by decide) m_X2_87 rfl dX2_readInterfaces_9 ?_
  refine x_istore_n (lv2 := [(2, .int (q1.2 4 0)), (1, .int q1.1), (0, .ref (g.1 2))]) X dX2_readInterfaces_12 rfl (by decide) rfl ?_
  refine x_iconst (v := 0) X dX2_readInterfaces_13 (by decide) ?_
  refine x_istore_n (lv2 := [(3, .int 0), (2, .int (q1.2 4 0)), (1, .int q1.1), (0, .ref (g.1 2))]) X dX2_readInterfaces_14 rfl (by decide) rfl ?_
  refine x_sub [3, 2, 1, 0] rfl ?_
  obtain ⟨q120, e12, h⟩ := bd h
  refine loopF_w (WH := H_X2_readInterfaces_15 q1.1 (q1.2 4 0) K g ret) (KB := E_X2_readInterfaces_15 q1.1 (q1.2 4 0) K g ret) (fun a9 r9 h9 k8 k7 => w_X2_readInterfaces_b15 q1.1 (q1.2 4 0) ret X a9 r9 h9 k8 k7) FU (0, q1.2) q120 e12 ?_
  rcases q120 with q12 | q12
  · replace h := sl h
    exact (Option.some.inj h)
  · replace h := sr h
    show XW K 0 0 6 (QI K g (wdX g) ret) (wdX g) q12 93 [(1, .int q1.1)] []
    refine x_iload_n X dX2_readInterfaces_93 rfl 0 rfl ?_
    refine x_iconst (v := (-1)) X dX2_readInterfaces_94 (by decide) ?_
    refine x_icmp_eq (tgt := 102) X dX2_readInterfaces_95 (by decide) (fun c13 => ?_) (fun c13 => ?_)
    · replace h := if_t c13 h
      refine x_iconst (v := 0) X dX2_readInterfaces_102 (by decide) ?_
      refine x_sub [] rfl ?_
      exact w_X2_readInterfaces_j103 ret X 0 q12 h
    · replace h := if_f c13 h
      refine x_iconst (v := 1) X dX2_readInterfaces_98 (by decide) ?_
      refine x_goto (tgt := 103) X dX2_readInterfaces_99 (by decide) ?_
      refine x_sub [] rfl ?_
      exact w_X2_readInterfaces_j103 ret X 1 q12 h
set_option maxRecDepth 100000 in
set_option maxHeartbeats 4000000 in
theorem c_X8_bitCount (l : Launch) (D : va_G) (g : Gw) (p0 : Int32) (u : St) (ret : Int32) (h : f_X8_bitCount p0 u = some ret) : metI l D g (wdX g) yX8_bitCount cX8_bitCount 1 .int rm_X8_bitCount [.int p0] u (ret, u) := by
  refine metI_of (own := RX8) (lv := [(0, .int p0)]) (by decide) rfl rfl (Nat.le_of_ble_eq_true rfl) (fun K hl9 hD9 X => ?_)
  subst hl9
  subst hD9
  unfold f_X8_bitCount at h
  refine x_iload_n X dX8_bitCount_0 rfl 0 rfl ?_
  refine x_iload_n X dX8_bitCount_1 rfl 0 rfl ?_
  refine x_iconst (v := 1) X dX8_bitCount_2 (by decide) ?_
  refine x_iushr X dX8_bitCount_3 ?_
  refine x_ldcw (v := 1431655765) X m_X8_265 dX8_bitCount_4 ?_
  refine x_iand X dX8_bitCount_7 ?_
  refine x_isub X dX8_bitCount_8 ?_
  refine x_istore_n (lv2 := [(0, .int (p0 - (((Int32.toUInt32 p0 >>> (Int32.toUInt32 1 &&& Int32.toUInt32 31)).toInt32) &&& 1431655765)))]) X dX8_bitCount_9 rfl (by decide) rfl ?_
  refine x_iload_n X dX8_bitCount_10 rfl 0 rfl ?_
  refine x_ldcw (v := 858993459) X m_X8_266 dX8_bitCount_11 ?_
  refine x_iand X dX8_bitCount_14 ?_
  refine x_iload_n X dX8_bitCount_15 rfl 0 rfl ?_
  refine x_iconst (v := 2) X dX8_bitCount_16 (by decide) ?_
  refine x_iushr X dX8_bitCount_17 ?_
  refine x_ldcw (v := 858993459) X m_X8_266 dX8_bitCount_18 ?_
  refine x_iand X dX8_bitCount_21 ?_
  refine x_iadd X dX8_bitCount_22 ?_
  refine x_istore_n (lv2 := [(0, .int (((p0 - (((Int32.toUInt32 p0 >>> (Int32.toUInt32 1 &&& Int32.toUInt32 31)).toInt32) &&& 1431655765)) &&& 858993459) + (((Int32.toUInt32 (p0 - (((Int32.toUInt32 p0 >>> (Int32.toUInt32 1 &&& Int32.toUInt32 31)).toInt32) &&& 1431655765)) >>> (Int32.toUInt32 2 &&& Int32.toUInt32 31)).toInt32) &&& 858993459)))]) X dX8_bitCount_23 rfl (by decide) rfl ?_
  refine x_iload_n X dX8_bitCount_24 rfl 0 rfl ?_
  refine x_iload_n X dX8_bitCount_25 rfl 0 rfl ?_
  refine x_iconst (v := 4) X dX8_bitCount_26 (by decide) ?_
  refine x_iushr X dX8_bitCount_27 ?_
  refine x_iadd X dX8_bitCount_28 ?_
  refine x_ldcw (v := 252645135) X m_X8_267 dX8_bitCount_29 ?_
  refine x_iand X dX8_bitCount_32 ?_
  refine x_istore_n (lv2 := [(0, .int (((((p0 - (((Int32.toUInt32 p0 >>> (Int32.toUInt32 1 &&& Int32.toUInt32 31)).toInt32) &&& 1431655765)) &&& 858993459) + (((Int32.toUInt32 (p0 - (((Int32.toUInt32 p0 >>> (Int32.toUInt32 1 &&& Int32.toUInt32 31)).toInt32) &&& 1431655765)) >>> (Int32.toUInt32 2 &&& Int32.toUInt32 31)).toInt32) &&& 858993459)) + ((Int32.toUInt32 (((p0 - (((Int32.toUInt32 p0 >>> (Int32.toUInt32 1 &&& Int32.toUInt32 31)).toInt32) &&& 1431655765)) &&& 858993459) + (((Int32.toUInt32 (p0 - (((Int32.toUInt32 p0 >>> (Int32.toUInt32 1 &&& Int32.toUInt32 31)).toInt32) &&& 1431655765)) >>> (Int32.toUInt32 2 &&& Int32.toUInt32 31)).toInt32) &&& 858993459)) >>> (Int32.toUInt32 4 &&& Int32.toUInt32 31)).toInt32)) &&& 252645135))]) X dX8_bitCount_33 rfl (by decide) rfl ?_
  refine x_iload_n X dX8_bitCount_34 rfl 0 rfl ?_
  refine x_iload_n X dX8_bitCount_35 rfl 0 rfl ?_
  refine x_bipush (v := 8) X dX8_bitCount_36 (by decide) ?_
  refine x_iushr X dX8_bitCount_38 ?_
  refine x_iadd X dX8_bitCount_39 ?_
  refine x_istore_n (lv2 := [(0, .int ((((((p0 - (((Int32.toUInt32 p0 >>> (Int32.toUInt32 1 &&& Int32.toUInt32 31)).toInt32) &&& 1431655765)) &&& 858993459) + (((Int32.toUInt32 (p0 - (((Int32.toUInt32 p0 >>> (Int32.toUInt32 1 &&& Int32.toUInt32 31)).toInt32) &&& 1431655765)) >>> (Int32.toUInt32 2 &&& Int32.toUInt32 31)).toInt32) &&& 858993459)) + ((Int32.toUInt32 (((p0 - (((Int32.toUInt32 p0 >>> (Int32.toUInt32 1 &&& Int32.toUInt32 31)).toInt32) &&& 1431655765)) &&& 858993459) + (((Int32.toUInt32 (p0 - (((Int32.toUInt32 p0 >>> (Int32.toUInt32 1 &&& Int32.toUInt32 31)).toInt32) &&& 1431655765)) >>> (Int32.toUInt32 2 &&& Int32.toUInt32 31)).toInt32) &&& 858993459)) >>> (Int32.toUInt32 4 &&& Int32.toUInt32 31)).toInt32)) &&& 252645135) + ((Int32.toUInt32 (((((p0 - (((Int32.toUInt32 p0 >>> (Int32.toUInt32 1 &&& Int32.toUInt32 31)).toInt32) &&& 1431655765)) &&& 858993459) + (((Int32.toUInt32 (p0 - (((Int32.toUInt32 p0 >>> (Int32.toUInt32 1 &&& Int32.toUInt32 31)).toInt32) &&& 1431655765)) >>> (Int32.toUInt32 2 &&& Int32.toUInt32 31)).toInt32) &&& 858993459)) + ((Int32.toUInt32 (((p0 - (((Int32.toUInt32 p0 >>> (Int32.toUInt32 1 &&& Int32.toUInt32 31)).toInt32) &&& 1431655765)) &&& 858993459) + (((Int32.toUInt32 (p0 - (((Int32.toUInt32 p0 >>> (Int32.toUInt32 1 &&& Int32.toUInt32 31)).toInt32) &&& 1431655765)) >>> (Int32.toUInt32 2 &&& Int32.toUInt32 31)).toInt32) &&& 858993459)) >>> (Int32.toUInt32 4 &&& Int32.toUInt32 31)).toInt32)) &&& 252645135) >>> (Int32.toUInt32 8 &&& Int32.toUInt32 31)).toInt32)))]) X dX8_bitCount_40 rfl (by decide) rfl ?_
  refine x_iload_n X dX8_bitCount_41 rfl 0 rfl ?_
  refine x_iload_n X dX8_bitCount_42 rfl 0 rfl ?_
  refine x_bipush (v := 16) X dX8_bitCount_43 (by decide) ?_
  refine x_iushr X dX8_bitCount_45 ?_
  refine x_iadd X dX8_bitCount_46 ?_
  refine x_istore_n (lv2 := [(0, .int (((((((p0 - (((Int32.toUInt32 p0 >>> (Int32.toUInt32 1 &&& Int32.toUInt32 31)).toInt32) &&& 1431655765)) &&& 858993459) + (((Int32.toUInt32 (p0 - (((Int32.toUInt32 p0 >>> (Int32.toUInt32 1 &&& Int32.toUInt32 31)).toInt32) &&& 1431655765)) >>> (Int32.toUInt32 2 &&& Int32.toUInt32 31)).toInt32) &&& 858993459)) + ((Int32.toUInt32 (((p0 - (((Int32.toUInt32 p0 >>> (Int32.toUInt32 1 &&& Int32.toUInt32 31)).toInt32) &&& 1431655765)) &&& 858993459) + (((Int32.toUInt32 (p0 - (((Int32.toUInt32 p0 >>> (Int32.toUInt32 1 &&& Int32.toUInt32 31)).toInt32) &&& 1431655765)) >>> (Int32.toUInt32 2 &&& Int32.toUInt32 31)).toInt32) &&& 858993459)) >>> (Int32.toUInt32 4 &&& Int32.toUInt32 31)).toInt32)) &&& 252645135) + ((Int32.toUInt32 (((((p0 - (((Int32.toUInt32 p0 >>> (Int32.toUInt32 1 &&& Int32.toUInt32 31)).toInt32) &&& 1431655765)) &&& 858993459) + (((Int32.toUInt32 (p0 - (((Int32.toUInt32 p0 >>> (Int32.toUInt32 1 &&& Int32.toUInt32 31)).toInt32) &&& 1431655765)) >>> (Int32.toUInt32 2 &&& Int32.toUInt32 31)).toInt32) &&& 858993459)) + ((Int32.toUInt32 (((p0 - (((Int32.toUInt32 p0 >>> (Int32.toUInt32 1 &&& Int32.toUInt32 31)).toInt32) &&& 1431655765)) &&& 858993459) + (((Int32.toUInt32 (p0 - (((Int32.toUInt32 p0 >>> (Int32.toUInt32 1 &&& Int32.toUInt32 31)).toInt32) &&& 1431655765)) >>> (Int32.toUInt32 2 &&& Int32.toUInt32 31)).toInt32) &&& 858993459)) >>> (Int32.toUInt32 4 &&& Int32.toUInt32 31)).toInt32)) &&& 252645135) >>> (Int32.toUInt32 8 &&& Int32.toUInt32 31)).toInt32)) + ((Int32.toUInt32 ((((((p0 - (((Int32.toUInt32 p0 >>> (Int32.toUInt32 1 &&& Int32.toUInt32 31)).toInt32) &&& 1431655765)) &&& 858993459) + (((Int32.toUInt32 (p0 - (((Int32.toUInt32 p0 >>> (Int32.toUInt32 1 &&& Int32.toUInt32 31)).toInt32) &&& 1431655765)) >>> (Int32.toUInt32 2 &&& Int32.toUInt32 31)).toInt32) &&& 858993459)) + ((Int32.toUInt32 (((p0 - (((Int32.toUInt32 p0 >>> (Int32.toUInt32 1 &&& Int32.toUInt32 31)).toInt32) &&& 1431655765)) &&& 858993459) + (((Int32.toUInt32 (p0 - (((Int32.toUInt32 p0 >>> (Int32.toUInt32 1 &&& Int32.toUInt32 31)).toInt32) &&& 1431655765)) >>> (Int32.toUInt32 2 &&& Int32.toUInt32 31)).toInt32) &&& 858993459)) >>> (Int32.toUInt32 4 &&& Int32.toUInt32 31)).toInt32)) &&& 252645135) + ((Int32.toUInt32 (((((p0 - (((Int32.toUInt32 p0 >>> (Int32.toUInt32 1 &&& Int32.toUInt32 31)).toInt32) &&& 1431655765)) &&& 858993459) + (((Int32.toUInt32 (p0 - (((Int32.toUInt32 p0 >>> (Int32.toUInt32 1 &&& Int32.toUInt32 31)).toInt32) &&& 1431655765)) >>> (Int32.toUInt32 2 &&& Int32.toUInt32 31)).toInt32) &&& 858993459)) + ((Int32.toUInt32 (((p0 - (((Int32.toUInt32 p0 >>> (Int32.toUInt32 1 &&& Int32.toUInt32 31)).toInt32) &&& 1431655765)) &&& 858993459) + (((Int32.toUInt32 (p0 - (((Int32.toUInt32 p0 >>> (Int32.toUInt32 1 &&& Int32.toUInt32 31)).toInt32) &&& 1431655765)) >>> (Int32.toUInt32 2 &&& Int32.toUInt32 31)).toInt32) &&& 858993459)) >>> (Int32.toUInt32 4 &&& Int32.toUInt32 31)).toInt32)) &&& 252645135) >>> (Int32.toUInt32 8 &&& Int32.toUInt32 31)).toInt32)) >>> (Int32.toUInt32 16 &&& Int32.toUInt32 31)).toInt32)))]) X dX8_bitCount_47 rfl (by decide) rfl ?_
  refine x_iload_n X dX8_bitCount_48 rfl 0 rfl ?_
  refine x_bipush (v := 63) X dX8_bitCount_49 (by decide) ?_
  refine x_iand X dX8_bitCount_51 ?_
  exact x_iret X (roE (Option.some.inj h)) dX8_bitCount_52
set_option maxRecDepth 100000 in
set_option maxHeartbeats 4000000 in
theorem w_X2_hasAtMostOneAccess_j16 {K : Cx} {g : Gw} (ret : Int32) (X : XC K g cX2_hasAtMostOneAccess 1 RX2 (some .boolean) rm_X2_hasAtMostOneAccess) (z0 : Int32) (u : St) (h : f_X2_hasAtMostOneAccess_j16 z0 u = some ret) : XW K 0 0 1 (QI K g (wdX g) (ret, u)) (wdX g) u 16 [] [.int z0] := by
  unfold f_X2_hasAtMostOneAccess_j16 at h
  obtain ⟨b3, h⟩ := bchk_some h
  exact x_zret X b3 (roE (Option.some.inj h)) dX2_hasAtMostOneAccess_16
set_option maxRecDepth 100000 in
set_option maxHeartbeats 4000000 in
theorem c_X2_hasAtMostOneAccess (l : Launch) (D : va_G) (g : Gw) (p0 : Int32) (u : St) (ret : Int32) (h : f_X2_hasAtMostOneAccess p0 u = some ret) : metI l D g (wdX g) yX2_hasAtMostOneAccess cX2_hasAtMostOneAccess 1 .boolean rm_X2_hasAtMostOneAccess [.int p0] u (ret, u) := by
  refine metI_of (own := RX2) (lv := [(0, .int p0)]) (by decide) rfl rfl (Nat.le_of_ble_eq_true rfl) (fun K hl9 hD9 X => ?_)
  subst hl9
  subst hD9
  unfold f_X2_hasAtMostOneAccess at h
  refine x_iload_n X dX2_hasAtMostOneAccess_0 rfl 0 rfl ?_
  refine x_bipush (v := 7) X dX2_hasAtMostOneAccess_1 (by decide) ?_
  refine x_iand X dX2_hasAtMostOneAccess_3 ?_
  obtain ⟨q1, e1, h⟩ := bd h
  refine x_scallR X [.int (p0 &&& 7)] [] (c_X8_bitCount K.l K.D g (p0 &&& 7) u q1 e1) ok_X8_bitCount m_X2_181 rfl rfl (Nat.le_of_ble_eq_true rfl) ⟨Nat.zero_le _, Nat.zero_le _⟩ ⟨rfl, rfl, by decide, by decide⟩ dX2_hasAtMostOneAccess_4 ?_
  refine x_iconst (v := 1) X dX2_hasAtMostOneAccess_7 (by decide) ?_
  refine x_icmp_gt (tgt := 15) X dX2_hasAtMostOneAccess_8 (by decide) (fun c2 => ?_) (fun c2 => ?_)
  · replace h := if_t c2 h
    refine x_iconst (v := 0) X dX2_hasAtMostOneAccess_15 (by decide) ?_
    refine x_sub [] rfl ?_
    exact w_X2_hasAtMostOneAccess_j16 ret X 0 u h
  · replace h := if_f c2 h
    refine x_iconst (v := 1) X dX2_hasAtMostOneAccess_11 (by decide) ?_
    refine x_goto (tgt := 16) X dX2_hasAtMostOneAccess_12 (by decide) ?_
    refine x_sub [] rfl ?_
    exact w_X2_hasAtMostOneAccess_j16 ret X 1 u h
set_option maxRecDepth 100000 in
set_option maxHeartbeats 4000000 in
theorem w_X2_fieldFlagsFit_j36 {K : Cx} {g : Gw} (ret : Int32) (X : XC K g cX2_fieldFlagsFit 2 RX2 (some .boolean) rm_X2_fieldFlagsFit) (z0 : Int32) (u : St) (h : f_X2_fieldFlagsFit_j36 z0 u = some ret) : XW K 0 0 2 (QI K g (wdX g) (ret, u)) (wdX g) u 36 [] [.int z0] := by
  unfold f_X2_fieldFlagsFit_j36 at h
  obtain ⟨b4, h⟩ := bchk_some h
  exact x_zret X b4 (roE (Option.some.inj h)) dX2_fieldFlagsFit_36
set_option maxRecDepth 100000 in
set_option maxHeartbeats 4000000 in
theorem w_X2_fieldFlagsFit_j35 {K : Cx} {g : Gw} (ret : Int32) (X : XC K g cX2_fieldFlagsFit 2 RX2 (some .boolean) rm_X2_fieldFlagsFit) (u : St) (h : f_X2_fieldFlagsFit_j35 u = some ret) : XW K 0 0 2 (QI K g (wdX g) (ret, u)) (wdX g) u 35 [] [] := by
  unfold f_X2_fieldFlagsFit_j35 at h
  refine x_iconst (v := 0) X dX2_fieldFlagsFit_35 (by decide) ?_
  exact w_X2_fieldFlagsFit_j36 ret X 0 u h
set_option maxRecDepth 100000 in
set_option maxHeartbeats 4000000 in
theorem w_X2_fieldFlagsFit_j19 {K : Cx} {g : Gw} (ret : Int32) (X : XC K g cX2_fieldFlagsFit 2 RX2 (some .boolean) rm_X2_fieldFlagsFit) (x0 : Int32) (z0 : Int32) (u : St) (h : f_X2_fieldFlagsFit_j19 x0 z0 u = some ret) : XW K 0 0 2 (QI K g (wdX g) (ret, u)) (wdX g) u 19 [(0, .int x0)] [.int z0] := by
  unfold f_X2_fieldFlagsFit_j19 at h
  refine x_istore_n (lv2 := [(1, .int z0), (0, .int x0)]) X dX2_fieldFlagsFit_19 rfl (by decide) rfl ?_
  refine x_iload_n X dX2_fieldFlagsFit_20 rfl 1 rfl ?_
  obtain ⟨q2, e2, h⟩ := bd h
  refine x_scallR X [.int x0] [] (c_X2_hasAtMostOneAccess K.l K.D g x0 u q2 e2) ok_X2_hasAtMostOneAccess m_X2_178 rfl rfl (Nat.le_of_ble_eq_true rfl) ⟨Nat.zero_le _, Nat.zero_le _⟩ ⟨rfl, rfl, by decide, by decide⟩ dX2_fieldFlagsFit_21 ?_
  refine x_if_eq (tgt := 35) X dX2_fieldFlagsFit_24 (by decide) (fun c3 => ?_) (fun c3 => ?_)
  · replace h := if_t c3 h
    refine x_sub [] rfl ?_
    exact w_X2_fieldFlagsFit_j35 ret X u h
  · replace h := if_f c3 h
    refine x_iload_n X dX2_fieldFlagsFit_27 rfl 0 rfl ?_
    refine x_if_ne (tgt := 35) X dX2_fieldFlagsFit_28 (by decide) (fun c5 => ?_) (fun c5 => ?_)
    · replace h := if_f c5 h
      refine x_sub [] rfl ?_
      exact w_X2_fieldFlagsFit_j35 ret X u h
    · replace h := if_t c5 h
      refine x_iconst (v := 1) X dX2_fieldFlagsFit_31 (by decide) ?_
      refine x_goto (tgt := 36) X dX2_fieldFlagsFit_32 (by decide) ?_
      refine x_sub [] rfl ?_
      exact w_X2_fieldFlagsFit_j36 ret X 1 u h
set_option maxRecDepth 100000 in
set_option maxHeartbeats 4000000 in
theorem w_X2_fieldFlagsFit_j18 {K : Cx} {g : Gw} (ret : Int32) (X : XC K g cX2_fieldFlagsFit 2 RX2 (some .boolean) rm_X2_fieldFlagsFit) (x0 : Int32) (u : St) (h : f_X2_fieldFlagsFit_j18 x0 u = some ret) : XW K 0 0 2 (QI K g (wdX g) (ret, u)) (wdX g) u 18 [(0, .int x0)] [] := by
  unfold f_X2_fieldFlagsFit_j18 at h
  refine x_iconst (v := 0) X dX2_fieldFlagsFit_18 (by decide) ?_
  exact w_X2_fieldFlagsFit_j19 ret X x0 0 u h
set_option maxRecDepth 100000 in
set_option maxHeartbeats 4000000 in
theorem c_X2_fieldFlagsFit (l : Launch) (D : va_G) (g : Gw) (p0 : Int32) (u : St) (ret : Int32) (h : f_X2_fieldFlagsFit p0 u = some ret) : metI l D g (wdX g) yX2_fieldFlagsFit cX2_fieldFlagsFit 2 .boolean rm_X2_fieldFlagsFit [.int p0] u (ret, u) := by
  refine metI_of (own := RX2) (lv := [(0, .int p0)]) (by decide) rfl rfl (Nat.le_of_ble_eq_true rfl) (fun K hl9 hD9 X => ?_)
  subst hl9
  subst hD9
  unfold f_X2_fieldFlagsFit at h
  refine x_iload_n X dX2_fieldFlagsFit_0 rfl 0 rfl ?_
  refine x_bipush (v := 16) X dX2_fieldFlagsFit_1 (by decide) ?_
  refine x_iand X dX2_fieldFlagsFit_3 ?_
  refine x_if_eq (tgt := 18) X dX2_fieldFlagsFit_4 (by decide) (fun c1 => ?_) (fun c1 => ?_)
  · replace h := if_t c1 h
    exact w_X2_fieldFlagsFit_j18 ret X p0 u h
  · replace h := if_f c1 h
    refine x_iload_n X dX2_fieldFlagsFit_7 rfl 0 rfl ?_
    refine x_bipush (v := 64) X dX2_fieldFlagsFit_8 (by decide) ?_
    refine x_iand X dX2_fieldFlagsFit_10 ?_
    refine x_if_eq (tgt := 18) X dX2_fieldFlagsFit_11 (by decide) (fun c6 => ?_) (fun c6 => ?_)
    · replace h := if_t c6 h
      exact w_X2_fieldFlagsFit_j18 ret X p0 u h
    · replace h := if_f c6 h
      refine x_iconst (v := 1) X dX2_fieldFlagsFit_14 (by decide) ?_
      refine x_goto (tgt := 19) X dX2_fieldFlagsFit_15 (by decide) ?_
      exact w_X2_fieldFlagsFit_j19 ret X p0 1 u h
set_option maxRecDepth 100000 in
set_option maxHeartbeats 4000000 in
theorem w_X4_isFieldName_j37 {K : Cx} {g : Gw} (ret : Int32) (X : XC K g cX4_isFieldName 2 RX4 (some .boolean) rm_X4_isFieldName) (z0 : Int32) (u : St) (h : f_X4_isFieldName_j37 z0 u = some ret) : XW K 0 0 2 (QI K g (wdX g) (ret, u)) (wdX g) u 37 [] [.int z0] := by
  unfold f_X4_isFieldName_j37 at h
  obtain ⟨b3, h⟩ := bchk_some h
  exact x_zret X b3 (roE (Option.some.inj h)) dX4_isFieldName_37
set_option maxRecDepth 100000 in
set_option maxHeartbeats 4000000 in
theorem w_X4_isFieldName_j36 {K : Cx} {g : Gw} (ret : Int32) (X : XC K g cX4_isFieldName 2 RX4 (some .boolean) rm_X4_isFieldName) (u : St) (h : f_X4_isFieldName_j36 u = some ret) : XW K 0 0 2 (QI K g (wdX g) (ret, u)) (wdX g) u 36 [] [] := by
  unfold f_X4_isFieldName_j36 at h
  refine x_iconst (v := 0) X dX4_isFieldName_36 (by decide) ?_
  exact w_X4_isFieldName_j37 ret X 0 u h
set_option maxRecDepth 100000 in
set_option maxHeartbeats 4000000 in
theorem c_X4_isFieldName (l : Launch) (D : va_G) (g : Gw) (p0 : Int32) (u : St) (ret : Int32) (h : f_X4_isFieldName p0 u = some ret) : metI l D g (wdX g) yX4_isFieldName cX4_isFieldName 2 .boolean rm_X4_isFieldName [.ref (g.1 4), .int p0] u (ret, u) := by
  refine metI_of (own := RX4) (lv := [(0, .ref (g.1 4)), (1, .int p0)]) (by decide) rfl rfl (Nat.le_of_ble_eq_true rfl) (fun K hl9 hD9 X => ?_)
  subst hl9
  subst hD9
  unfold f_X4_isFieldName at h
  refine x_aload_n X dX4_isFieldName_0 rfl 0 rfl ?_
  refine x_iload_n X dX4_isFieldName_1 rfl 1 rfl ?_
  obtain ⟨q1, e1, h⟩ := bd h
  refine x_callR X [.int p0] [] (c_X4_kindOf K.l K.D g p0 u q1 e1) ok_X4_kindOf m_X4_77 4 rfl rfl rfl rfl (Nat.le_of_ble_eq_true rfl) ⟨Nat.zero_le _, Nat.zero_le _⟩ ⟨rfl, rfl, by decide, by decide⟩ dX4_isFieldName_2 ?_
  refine x_iconst (v := 1) X dX4_isFieldName_5 (by decide) ?_
  refine x_icmp_ne (tgt := 36) X dX4_isFieldName_6 (by decide) (fun c2 => ?_) (fun c2 => ?_)
  · replace h := if_f c2 h
    refine x_sub [] rfl ?_
    exact w_X4_isFieldName_j36 ret X u h
  · replace h := if_t c2 h
    refine x_aload_n X dX4_isFieldName_9 rfl 0 rfl ?_
    refine x_get (v := .ref (g.1 1)) X 4 0 in_X4 rfl rfl (by decide) m_X4_30 rfl dX4_isFieldName_10 ?_
    refine x_get (v := .ref (g.1 8)) X 1 0 in_X1 rfl rfl (by decide) m_X4_53 rfl dX4_isFieldName_13 ?_
    refine x_aload_n X dX4_isFieldName_16 rfl 0 rfl ?_
    refine x_iload_n X dX4_isFieldName_17 rfl 1 rfl ?_
    obtain ⟨q4, e4, h⟩ := bd h
    refine x_callR X [.int p0] [.ref (g.1 8)] (c_X4_textStart K.l K.D g p0 u q4 e4) ok_X4_textStart m_X4_86 4 rfl rfl rfl rfl (Nat.le_of_ble_eq_true rfl) ⟨Nat.zero_le _, Nat.zero_le _⟩ ⟨rfl, rfl, by decide, by decide⟩ dX4_isFieldName_18 ?_
    refine x_aload_n X dX4_isFieldName_21 rfl 0 rfl ?_
    refine x_iload_n X dX4_isFieldName_22 rfl 1 rfl ?_
    obtain ⟨q5, e5, h⟩ := bd h
    refine x_callR X [.int p0] [.int q4, .ref (g.1 8)] (c_X4_textEnd K.l K.D g p0 u q5 e5) ok_X4_textEnd m_X4_89 4 rfl rfl rfl rfl (Nat.le_of_ble_eq_true rfl) ⟨Nat.zero_le _, Nat.zero_le _⟩ ⟨rfl, rfl, by decide, by decide⟩ dX4_isFieldName_23 ?_
    obtain ⟨q6, e6, h⟩ := bd h
    refine x_scallR X [.ref (g.1 8), .int q4, .int q5] [] (c_X3_isFieldName K.l K.D g q4 q5 u q6 e6) ok_X3_isFieldName m_X4_102 rfl rfl (Nat.le_of_ble_eq_true rfl) ⟨Nat.zero_le _, Nat.zero_le _⟩ ⟨rfl, rfl, by decide, by decide⟩ dX4_isFieldName_26 ?_
    refine x_if_eq (tgt := 36) X dX4_isFieldName_29 (by decide) (fun c7 => ?_) (fun c7 => ?_)
    · replace h := if_t c7 h
      refine x_sub [] rfl ?_
      exact w_X4_isFieldName_j36 ret X u h
    · replace h := if_f c7 h
      refine x_iconst (v := 1) X dX4_isFieldName_32 (by decide) ?_
      refine x_goto (tgt := 37) X dX4_isFieldName_33 (by decide) ?_
      refine x_sub [] rfl ?_
      exact w_X4_isFieldName_j37 ret X 1 u h
