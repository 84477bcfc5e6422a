set_option maxRecDepth 100000 in
set_option maxHeartbeats 4000000 in
theorem w_X7_textAt_j34 {K : Cx} {g : Gw} (ret : Int32 × St) (X : XC K g cX7_textAt 3 RX7 (some .int) rm_X7_textAt) (x2 : Int32) (u : St) (h : f_X7_textAt_j34 x2 u = some ret) : XW K 0 0 3 (QI K g (wdM g) ret) (wdM g) u 34 [(2, .int x2)] [] := by
  unfold f_X7_textAt_j34 at h
  refine x_iload_n X dX7_textAt_34 rfl 0 rfl ?_
  exact x_iret X (Option.some.inj h) dX7_textAt_35
set_option maxRecDepth 100000 in
set_option maxHeartbeats 4000000 in
theorem c_X7_textAt (l : Launch) (D : va_G) (g : Gw) (u : St) (ret : Int32 × St) (h : f_X7_textAt u = some ret) : metI l D g (wdM g) yX7_textAt cX7_textAt 3 .int rm_X7_textAt [.ref (g.1 0)] u ret := by
  refine metI_of (own := RX7) (lv := [(0, .ref (g.1 0))]) (by decide) rfl rfl (Nat.le_of_ble_eq_true rfl) (fun K hl9 hD9 X => ?_)
  subst hl9
  subst hD9
  unfold f_X7_textAt at h
  refine x_aload_n X dX7_textAt_0 rfl 0 rfl ?_
  refine x_get (v := .int (u 3 0)) X 0 5 in_X7 rfl rfl (by decide) m_X7_77 rfl dX7_textAt_1 ?_
  refine x_istore_n (lv2 := [(1, .int (u 3 0)), (0, .ref (g.1 0))]) X dX7_textAt_4 rfl (by decide) rfl ?_
  refine x_aload_n X dX7_textAt_5 rfl 1 rfl ?_
  obtain ⟨q1, e1, h⟩ := bd h
  refine x_callI X [] [] (c_X7_u2 K.l K.D g u q1 e1) ok_X7_u2 m_X7_130 0 rfl rfl rfl rfl (Nat.le_of_ble_eq_true rfl) ⟨Nat.zero_le _, Nat.zero_le _⟩ ⟨rfl, rfl, by decide, by decide⟩ dX7_textAt_6 ?_
  refine x_istore_n (lv2 := [(2, .int q1.1), (1, .int (u 3 0)), (0, .ref (g.1 0))]) X dX7_textAt_9 rfl (by decide) rfl ?_
  refine x_aload_n X dX7_textAt_10 rfl 2 rfl ?_
  refine x_get (v := .int (q1.2 7 0)) X 0 9 in_X7 rfl rfl (by decide) m_X7_71 rfl dX7_textAt_11 ?_
  refine x_if_ne (tgt := 34) X dX7_textAt_14 (by decide) (fun c2 => ?_) (fun c2 => ?_)
  · replace h := if_f c2 h
    refine x_sub [0] rfl ?_
    exact w_X7_textAt_j34 ret X q1.1 q1.2 h
  · replace h := if_t c2 h
    refine x_aload_n X dX7_textAt_17 rfl 2 rfl ?_
    refine x_iload_n X dX7_textAt_18 rfl 0 rfl ?_
    refine x_iconst (v := 1) X dX7_textAt_19 (by decide) ?_
    obtain ⟨q3, e3, h⟩ := bd h
    refine x_callR X [.int q1.1, .int 1] [] (c_X7_is K.l K.D g q1.1 1 q1.2 q3 e3) ok_X7_is m_X7_143 0 rfl rfl rfl rfl (Nat.le_of_ble_eq_true rfl) ⟨Nat.zero_le _, Nat.zero_le _⟩ ⟨rfl, rfl, by decide, by decide⟩ dX7_textAt_20 ?_
    refine x_if_ne (tgt := 34) X dX7_textAt_23 (by decide) (fun c4 => ?_) (fun c4 => ?_)
    · replace h := if_f c4 h
      refine x_sub [0] rfl ?_
      exact w_X7_textAt_j34 ret X q1.1 q1.2 h
    · replace h := if_t c4 h
      refine x_aload_n X dX7_textAt_26 rfl 2 rfl ?_
      refine x_bipush (v := 15) X dX7_textAt_27 (by decide) ?_
      refine x_iload_n X dX7_textAt_29 rfl 1 rfl ?_
      obtain ⟨q5, e5, h⟩ := bd h
      refine x_callI X [.int 15, .int (u 3 0)] [] (c_X7_fail K.l K.D g 15 (u 3 0) q1.2 q5 e5) ok_X7_fail m_X7_89 0 rfl rfl rfl rfl (Nat.le_of_ble_eq_true rfl) ⟨Nat.zero_le _, Nat.zero_le _⟩ ⟨rfl, rfl, by decide, by decide⟩ dX7_textAt_30 ?_
      refine x_pop X dX7_textAt_33 rfl ?_
      refine x_sub [0] rfl ?_
      exact w_X7_textAt_j34 ret X q1.1 q5.2 h
set_option maxRecDepth 100000 in
set_option maxHeartbeats 4000000 in
theorem w_X7_lengthAt_j34 {K : Cx} {g : Gw} (ret : Int64 × St) (X : XC K g cX7_lengthAt 3 RX7 (some .long) rm_X7_lengthAt) (x1 : Int64) (u : St) (h : f_X7_lengthAt_j34 x1 u = some ret) : XW K 0 0 3 (QL K g (wdM g) ret) (wdM g) u 34 [(1, .long x1)] [] := by
  unfold f_X7_lengthAt_j34 at h
  refine x_lload_n X dX7_lengthAt_34 rfl 0 rfl ?_
  exact x_lret X (Option.some.inj h) dX7_lengthAt_35
set_option maxRecDepth 100000 in
set_option maxHeartbeats 4000000 in
theorem c_X7_lengthAt (l : Launch) (D : va_G) (g : Gw) (u : St) (ret : Int64 × St) (h : f_X7_lengthAt u = some ret) : metL l D g (wdM g) yX7_lengthAt cX7_lengthAt 3 rm_X7_lengthAt [.ref (g.1 0)] u ret := by
  refine metL_of (own := RX7) (lv := [(0, .ref (g.1 0))]) (by decide) rfl rfl (Nat.le_of_ble_eq_true rfl) (fun K hl9 hD9 X => ?_)
  subst hl9
  subst hD9
  unfold f_X7_lengthAt at h
  refine x_aload_n X dX7_lengthAt_0 rfl 0 rfl ?_
  refine x_iconst (v := 4) X dX7_lengthAt_1 (by decide) ?_
  obtain ⟨q1, e1, h⟩ := bd h
  refine x_callL X [.int 4] [] (c_X7_u K.l K.D g 4 u q1 e1) ok_X7_u m_X7_94 0 rfl rfl rfl rfl (Nat.le_of_ble_eq_true rfl) ⟨Nat.zero_le _, Nat.zero_le _⟩ ⟨rfl, rfl, by decide, by decide⟩ dX7_lengthAt_2 ?_
  refine x_lstore_n (lv2 := [(1, .long q1.1), (0, .ref (g.1 0))]) X dX7_lengthAt_5 rfl (by decide) rfl ?_
  refine x_aload_n X dX7_lengthAt_6 rfl 1 rfl ?_
  refine x_get (v := .int (q1.2 7 0)) X 0 9 in_X7 rfl rfl (by decide) m_X7_71 rfl dX7_lengthAt_7 ?_
  refine x_if_ne (tgt := 34) X dX7_lengthAt_10 (by decide) (fun c2 => ?_) (fun c2 => ?_)
  · replace h := if_f c2 h
    refine x_sub [0] rfl ?_
    exact w_X7_lengthAt_j34 ret X q1.1 q1.2 h
  · replace h := if_t c2 h
    refine x_lload_n X dX7_lengthAt_13 rfl 0 rfl ?_
    refine x_ldc2 (v := 2147483648) X m_X7_171 dX7_lengthAt_14 ?_
    refine x_lcmp X dX7_lengthAt_17 ?_
    refine x_if_lt (tgt := 34) X dX7_lengthAt_18 (by decide) (fun c3 => ?_) (fun c3 => ?_)
    · replace h := if_t c3 h
      refine x_sub [0] rfl ?_
      exact w_X7_lengthAt_j34 ret X q1.1 q1.2 h
    · replace h := if_f c3 h
      refine x_aload_n X dX7_lengthAt_21 rfl 1 rfl ?_
      refine x_aload_n X dX7_lengthAt_22 rfl 1 rfl ?_
      refine x_get (v := .int (q1.2 5 0)) X 0 7 in_X7 rfl rfl (by decide) m_X7_83 rfl dX7_lengthAt_23 ?_
      refine x_aload_n X dX7_lengthAt_26 rfl 1 rfl ?_
      refine x_get (v := .int (q1.2 6 0)) X 0 8 in_X7 rfl rfl (by decide) m_X7_86 rfl dX7_lengthAt_27 ?_
      obtain ⟨q4, e4, h⟩ := bd h
      refine x_callI X [.int (q1.2 5 0), .int (q1.2 6 0)] [] (c_X7_fail K.l K.D g (q1.2 5 0) (q1.2 6 0) q1.2 q4 e4) ok_X7_fail m_X7_89 0 rfl rfl rfl rfl (Nat.le_of_ble_eq_true rfl) ⟨Nat.zero_le _, Nat.zero_le _⟩ ⟨rfl, rfl, by decide, by decide⟩ dX7_lengthAt_30 ?_
      refine x_pop X dX7_lengthAt_33 rfl ?_
      refine x_sub [0] rfl ?_
      exact w_X7_lengthAt_j34 ret X q1.1 q4.2 h
abbrev H_X7_attributes_7 (x1 : Int32) (K : Cx) (g : Gw) (ret : St) (a : Int32 × St) : Prop := XW K 0 0 3 (QV K g (wdM g) ret) (wdM g) a.2 7 [(0, .ref (g.1 0)), (1, .int x1), (2, .int a.1)] []
abbrev E_X7_attributes_7 (x1 : Int32) (K : Cx) (g : Gw) (ret : St) (q : (St) ⊕ (St)) : Prop := Sum.elim (fun q => q = ret) (fun q => XW K 0 0 3 (QV K g (wdM g) ret) (wdM g) q 55 [] []) q
set_option maxRecDepth 100000 in
set_option maxHeartbeats 4000000 in
theorem w_X7_attributes_j49_7 {K : Cx} {g : Gw} (ret : St) (X : XC K g cX7_attributes 3 RX7 none rm_X7_attributes) (x1 : Int32) (x2 : Int32) (u : St) (r : ((St) ⊕ (St)) ⊕ (Int32 × St)) (h : f_X7_attributes_j49_7 x1 x2 u = some r) (k0 : ∀ q, r = .inl q → E_X7_attributes_7 x1 K g ret q) (k1 : ∀ q, r = .inr q → H_X7_attributes_7 x1 K g ret q) : XW K 0 0 3 (QV K g (wdM g) ret) (wdM g) u 49 [(0, .ref (g.1 0)), (1, .int x1), (2, .int x2)] [] := by
  unfold f_X7_attributes_j49_7 at h
  refine x_iinc (v := (x2 + 1)) (lv2 := [(2, .int (x2 + 1)), (0, .ref (g.1 0)), (1, .int x1)]) X dX7_attributes_49 2 rfl rfl (by decide) rfl ?_
  refine x_goto (tgt := 7) X dX7_attributes_52 (by decide) ?_
  refine x_sub [1, 2, 0] rfl ?_
  have h9 := k1 _ (Option.some.inj h).symm
  exact h9
set_option maxRecDepth 100000 in
set_option maxHeartbeats 4000000 in
theorem w_X7_attributes_b7 {K : Cx} {g : Gw} (x1 : Int32) (ret : St) (X : XC K g cX7_attributes 3 RX7 none rm_X7_attributes) (a : Int32 × St) (r : ((St) ⊕ (St)) ⊕ (Int32 × St)) (h : f_X7_attributes_b7 x1 a = some r) (k0 : ∀ q, r = .inl q → E_X7_attributes_7 x1 K g ret q) (k1 : ∀ q, r = .inr q → H_X7_attributes_7 x1 K g ret q) : H_X7_attributes_7 x1 K g ret a := by
  unfold f_X7_attributes_b7 at h
  show XW K 0 0 3 (QV K g (wdM g) ret) (wdM g) a.2 7 [(0, .ref (g.1 0)), (1, .int x1), (2, .int a.1)] []
  refine x_iload_n X dX7_attributes_7 rfl 2 rfl ?_
  refine x_iload_n X dX7_attributes_8 rfl 1 rfl ?_
  refine x_icmp_ge (tgt := 55) X dX7_attributes_9 (by decide) (fun c2 => ?_) (fun c2 => ?_)
  · replace h := if_t c2 h
    refine x_sub [] rfl ?_
    have h9 := k0 _ (Option.some.inj h).symm
    exact h9
  · replace h := if_f c2 h
    refine x_aload_n X dX7_attributes_12 rfl 0 rfl ?_
    refine x_get (v := .int (a.2 7 0)) X 0 9 in_X7 rfl rfl (by decide) m_X7_71 rfl dX7_attributes_13 ?_
    refine x_if_ne (tgt := 55) X dX7_attributes_16 (by decide) (fun c3 => ?_) (fun c3 => ?_)
    · replace h := if_f c3 h
      refine x_sub [] rfl ?_
      have h9 := k0 _ (Option.some.inj h).symm
      exact h9
    · replace h := if_t c3 h
      refine x_aload_n X dX7_attributes_19 rfl 0 rfl ?_
      obtain ⟨q4, e4, h⟩ := bd h
      refine x_callI X [] [] (c_X7_textAt K.l K.D g a.2 q4 e4) ok_X7_textAt m_X7_173 0 rfl rfl rfl rfl (Nat.le_of_ble_eq_true rfl) ⟨Nat.zero_le _, Nat.zero_le _⟩ ⟨rfl, rfl, by decide, by decide⟩ dX7_attributes_20 ?_
      refine x_pop X dX7_attributes_23 rfl ?_
      refine x_aload_n X dX7_attributes_24 rfl 0 rfl ?_
      refine x_aload_n X dX7_attributes_25 rfl 0 rfl ?_
      obtain ⟨q5, e5, h⟩ := bd h
      refine x_callL X [] [.ref (g.1 0)] (c_X7_lengthAt K.l K.D g q4.2 q5 e5) ok_X7_lengthAt m_X7_176 0 rfl rfl rfl rfl (Nat.le_of_ble_eq_true rfl) ⟨Nat.zero_le _, Nat.zero_le _⟩ ⟨rfl, rfl, by decide, by decide⟩ dX7_attributes_26 ?_
      obtain ⟨q6, e6, h⟩ := bd h
      refine x_callV X [.long q5.1] [] (c_X7_skip K.l K.D g q5.1 q5.2 q6 e6) ok_X7_skip m_X7_133 0 rfl rfl rfl rfl (Nat.le_of_ble_eq_true rfl) ⟨Nat.zero_le _, Nat.zero_le _⟩ ⟨rfl, rfl, by decide, by decide⟩ dX7_attributes_29 ?_
      refine x_aload_n X dX7_attributes_32 rfl 0 rfl ?_
      refine x_get (v := .int (q6 7 0)) X 0 9 in_X7 rfl rfl (by decide) m_X7_71 rfl dX7_attributes_33 ?_
      refine x_if_ne (tgt := 49) X dX7_attributes_36 (by decide) (fun c7 => ?_) (fun c7 => ?_)
      · replace h := if_f c7 h
        exact w_X7_attributes_j49_7 ret X x1 a.1 q6 r h k0 k1
      · replace h := if_t c7 h
        refine x_aload_n X dX7_attributes_39 rfl 0 rfl ?_
        refine x_get (v := .ref (g.1 3)) X 0 11 in_X7 rfl rfl (by decide) m_X7_16 rfl dX7_attributes_40 ?_
        refine x_iconst (v := 5) X dX7_attributes_43 (by decide) ?_
        refine x_dup2 X dX7_attributes_44 rfl rfl ?_
        obtain ⟨i8, h⟩ := chk_some h
        refine x_iald (f := (q6 32)) X 3 0 rfl rfl i8 dX7_attributes_45 ?_
        refine x_iconst (v := 1) X dX7_attributes_46 (by decide) ?_
        refine x_iadd X dX7_attributes_47 ?_
        obtain ⟨i9, h⟩ := chk_some h
        refine x_iast (f := (q6 32)) (u2 := (up q6 32 (Int32.toNatClampNeg 5) (((q6 32) (Int32.toNatClampNeg 5)) + 1))) X 3 0 rfl rfl i9 (wdM_32 g q6 (Int32.toNatClampNeg 5) (((q6 32) (Int32.toNatClampNeg 5)) + 1)) dX7_attributes_48 ?_
        exact w_X7_attributes_j49_7 ret X x1 a.1 (up q6 32 (Int32.toNatClampNeg 5) (((q6 32) (Int32.toNatClampNeg 5)) + 1)) r h k0 k1
set_option maxRecDepth 100000 in
set_option maxHeartbeats 4000000 in
theorem w_X7_attributes_j55 {K : Cx} {g : Gw} (ret : St) (X : XC K g cX7_attributes 3 RX7 none rm_X7_attributes) (u : St) (h : f_X7_attributes_j55 u = some ret) : XW K 0 0 3 (QV K g (wdM g) ret) (wdM g) u 55 [] [] := by
  unfold f_X7_attributes_j55 at h
  exact x_vret X (Option.some.inj h) dX7_attributes_55
set_option maxRecDepth 100000 in
set_option maxHeartbeats 4000000 in
theorem c_X7_attributes (l : Launch) (D : va_G) (g : Gw) (u : St) (ret : St) (h : f_X7_attributes u = some ret) : metV l D g (wdM g) yX7_attributes cX7_attributes 3 rm_X7_attributes [.ref (g.1 0)] u ret := by
  refine metV_of (own := RX7) (lv := [(0, .ref (g.1 0))]) (by decide) rfl rfl (Nat.le_of_ble_eq_true rfl) (fun K hl9 hD9 X => ?_)
  subst hl9
  subst hD9
  unfold f_X7_attributes at h
  refine x_aload_n X dX7_attributes_0 rfl 0 rfl ?_
  obtain ⟨q1, e1, h⟩ := bd h
  refine x_callI X [] [] (c_X7_u2 K.l K.D g u q1 e1) ok_X7_u2 m_X7_130 0 rfl rfl rfl rfl (Nat.le_of_ble_eq_true rfl) ⟨Nat.zero_le _, Nat.zero_le _⟩ ⟨rfl, rfl, by decide, by decide⟩ dX7_attributes_1 ?_
  refine x_istore_n (lv2 := [(1, .int q1.1), (0, .ref (g.1 0))]) X dX7_attributes_4 rfl (by decide) rfl ?_
  refine x_iconst (v := 0) X dX7_attributes_5 (by decide) ?_
  refine x_istore_n (lv2 := [(2, .int 0), (1, .int q1.1), (0, .ref (g.1 0))]) X dX7_attributes_6 rfl (by decide) rfl ?_
  refine x_sub [2, 1, 0] rfl ?_
  obtain ⟨q100, e10, h⟩ := bd h
  refine loopF_w (WH := H_X7_attributes_7 q1.1 K g ret) (KB := E_X7_attributes_7 q1.1 K g ret) (fun a9 r9 h9 k8 k7 => w_X7_attributes_b7 q1.1 ret X a9 r9 h9 k8 k7) FU (0, q1.2) q100 e10 ?_
  rcases q100 with q10 | q10
  · replace h := sl h
    exact (Option.some.inj h)
  · replace h := sr h
    show XW K 0 0 3 (QV K g (wdM g) ret) (wdM g) q10 55 [] []
    exact w_X7_attributes_j55 ret X q10 h
set_option maxRecDepth 100000 in
set_option maxHeartbeats 4000000 in
theorem w_X7_constantFits_j76 {K : Cx} {g : Gw} (ret : Int32) (X : XC K g cX7_constantFits 4 RX7 (some .boolean) rm_X7_constantFits) (z0 : Int32) (u : St) (h : f_X7_constantFits_j76 z0 u = some ret) : XW K 0 0 4 (QI K g (wdM g) (ret, u)) (wdM g) u 76 [] [.int z0] := by
  unfold f_X7_constantFits_j76 at h
  obtain ⟨b8, h⟩ := bchk_some h
  exact x_zret X b8 (roE (Option.some.inj h)) dX7_constantFits_76
set_option maxRecDepth 100000 in
set_option maxHeartbeats 4000000 in
theorem w_X7_constantFits_j75 {K : Cx} {g : Gw} (ret : Int32) (X : XC K g cX7_constantFits 4 RX7 (some .boolean) rm_X7_constantFits) (u : St) (h : f_X7_constantFits_j75 u = some ret) : XW K 0 0 4 (QI K g (wdM g) (ret, u)) (wdM g) u 75 [] [] := by
  unfold f_X7_constantFits_j75 at h
  refine x_iconst (v := 0) X dX7_constantFits_75 (by decide) ?_
  exact w_X7_constantFits_j76 ret X 0 u h
set_option maxRecDepth 100000 in
set_option maxHeartbeats 4000000 in
theorem w_X7_constantFits_j62 {K : Cx} {g : Gw} (ret : Int32) (X : XC K g cX7_constantFits 4 RX7 (some .boolean) rm_X7_constantFits) (x2 : Int32) (u : St) (h : f_X7_constantFits_j62 x2 u = some ret) : XW K 0 0 4 (QI K g (wdM g) (ret, u)) (wdM g) u 62 [(0, .ref (g.1 0)), (2, .int x2)] [] := by
  unfold f_X7_constantFits_j62 at h
  refine x_aload_n X dX7_constantFits_62 rfl 0 rfl ?_
  refine x_iload_n X dX7_constantFits_63 rfl 1 rfl ?_
  refine x_iconst (v := 3) X dX7_constantFits_64 (by decide) ?_
  obtain ⟨q6, e6, h⟩ := bd h
  refine x_callR X [.int x2, .int 3] [] (c_X7_is K.l K.D g x2 3 u q6 e6) ok_X7_is m_X7_143 0 rfl rfl rfl rfl (Nat.le_of_ble_eq_true rfl) ⟨Nat.zero_le _, Nat.zero_le _⟩ ⟨rfl, rfl, by decide, by decide⟩ dX7_constantFits_65 ?_
  refine x_if_eq (tgt := 75) X dX7_constantFits_68 (by decide) (fun c7 => ?_) (fun c7 => ?_)
  · replace h := if_t c7 h
    refine x_sub [] rfl ?_
    exact w_X7_constantFits_j75 ret X u h
  · replace h := if_f c7 h
    refine x_iconst (v := 1) X dX7_constantFits_71 (by decide) ?_
    refine x_goto (tgt := 76) X dX7_constantFits_72 (by decide) ?_
    refine x_sub [] rfl ?_
    exact w_X7_constantFits_j76 ret X 1 u h
set_option maxRecDepth 100000 in
set_option maxHeartbeats 4000000 in
theorem c_X7_constantFits (l : Launch) (D : va_G) (g : Gw) (p0 : Int32) (p1 : Int32) (u : St) (ret : Int32) (h : f_X7_constantFits p0 p1 u = some ret) : metI l D g (wdM g) yX7_constantFits cX7_constantFits 4 .boolean rm_X7_constantFits [.ref (g.1 0), .int p0, .int p1] u (ret, u) := by
  refine metI_of (own := RX7) (lv := [(0, .ref (g.1 0)), (1, .int p0), (2, .int p1)]) (by decide) rfl rfl (Nat.le_of_ble_eq_true rfl) (fun K hl9 hD9 X => ?_)
  subst hl9
  subst hD9
  unfold f_X7_constantFits at h
  refine x_aload_n X dX7_constantFits_0 rfl 0 rfl ?_
  refine x_get (v := .ref (g.1 7)) X 0 15 in_X7 rfl rfl (by decide) m_X7_28 rfl dX7_constantFits_1 ?_
  refine x_iload_n X dX7_constantFits_4 rfl 1 rfl ?_
  obtain ⟨i1, h⟩ := chk_some h
  refine x_iald (f := (u 36)) X 7 0 rfl rfl i1 dX7_constantFits_5 ?_
  refine x_iconst (v := 1) X dX7_constantFits_6 (by decide) ?_
  refine x_icmp_eq (tgt := 12) X dX7_constantFits_7 (by decide) (fun c2 => ?_) (fun c2 => ?_)
  · replace h := if_t c2 h
    refine x_aload_n X dX7_constantFits_12 rfl 0 rfl ?_
    refine x_iload_n X dX7_constantFits_13 rfl 1 rfl ?_
    refine x_iconst (v := 0) X dX7_constantFits_14 (by decide) ?_
    obtain ⟨q3, e3, h⟩ := bd h
    refine x_callR X [.int p0, .int 0] [] (c_X7_letter K.l K.D g p0 0 u q3 e3) ok_X7_letter m_X7_101 0 rfl rfl rfl rfl (Nat.le_of_ble_eq_true rfl) ⟨Nat.zero_le _, Nat.zero_le _⟩ ⟨rfl, rfl, by decide, by decide⟩ dX7_constantFits_15 ?_
    refine x_istore_n (lv2 := [(3, .int q3), (0, .ref (g.1 0)), (1, .int p0), (2, .int p1)]) X dX7_constantFits_18 rfl (by decide) rfl ?_
    refine x_iload_n X dX7_constantFits_19 rfl 0 rfl ?_
    refine x_bipush (v := 74) X dX7_constantFits_20 (by decide) ?_
    refine x_icmp_ne (tgt := 32) X dX7_constantFits_22 (by decide) (fun c4 => ?_) (fun c4 => ?_)
    · replace h := if_f c4 h
      refine x_iload_n X dX7_constantFits_32 rfl 0 rfl ?_
      refine x_bipush (v := 73) X dX7_constantFits_33 (by decide) ?_
      refine x_icmp_eq (tgt := 62) X dX7_constantFits_35 (by decide) (fun c5 => ?_) (fun c5 => ?_)
      · replace h := if_t c5 h
        refine x_sub [1, 3] rfl ?_
        exact w_X7_constantFits_j62 ret X p1 u h
      · replace h := if_f c5 h
        refine x_iload_n X dX7_constantFits_38 rfl 0 rfl ?_
        refine x_bipush (v := 83) X dX7_constantFits_39 (by decide) ?_
        refine x_icmp_eq (tgt := 62) X dX7_constantFits_41 (by decide) (fun c9 => ?_) (fun c9 => ?_)
        · replace h := if_t c9 h
          refine x_sub [1, 3] rfl ?_
          exact w_X7_constantFits_j62 ret X p1 u h
        · replace h := if_f c9 h
          refine x_iload_n X dX7_constantFits_44 rfl 0 rfl ?_
          refine x_bipush (v := 66) X dX7_constantFits_45 (by decide) ?_
          refine x_icmp_eq (tgt := 62) X dX7_constantFits_47 (by decide) (fun c10 => ?_) (fun c10 => ?_)
          · replace h := if_t c10 h
            refine x_sub [1, 3] rfl ?_
            exact w_X7_constantFits_j62 ret X p1 u h
          · replace h := if_f c10 h
            refine x_iload_n X dX7_constantFits_50 rfl 0 rfl ?_
            refine x_bipush (v := 67) X dX7_constantFits_51 (by decide) ?_
            refine x_icmp_eq (tgt := 62) X dX7_constantFits_53 (by decide) (fun c11 => ?_) (fun c11 => ?_)
            · replace h := if_t c11 h
              refine x_sub [1, 3] rfl ?_
              exact w_X7_constantFits_j62 ret X p1 u h
            · replace h := if_f c11 h
              refine x_iload_n X dX7_constantFits_56 rfl 0 rfl ?_
              refine x_bipush (v := 90) X dX7_constantFits_57 (by decide) ?_
              refine x_icmp_ne (tgt := 75) X dX7_constantFits_59 (by decide) (fun c12 => ?_) (fun c12 => ?_)
              · replace h := if_f c12 h
                refine x_sub [] rfl ?_
                exact w_X7_constantFits_j75 ret X u h
              · replace h := if_t c12 h
                refine x_sub [1, 3] rfl ?_
                exact w_X7_constantFits_j62 ret X p1 u h
    · replace h := if_t c4 h
      refine x_aload_n X dX7_constantFits_25 rfl 1 rfl ?_
      refine x_iload_n X dX7_constantFits_26 rfl 3 rfl ?_
      refine x_iconst (v := 5) X dX7_constantFits_27 (by decide) ?_
      obtain ⟨q13, e13, h⟩ := bd h
      refine x_callR X [.int p1, .int 5] [] (c_X7_is K.l K.D g p1 5 u q13 e13) ok_X7_is m_X7_143 0 rfl rfl rfl rfl (Nat.le_of_ble_eq_true rfl) ⟨Nat.zero_le _, Nat.zero_le _⟩ ⟨rfl, rfl, by decide, by decide⟩ dX7_constantFits_28 ?_
      obtain ⟨b14, h⟩ := bchk_some h
      exact x_zret X b14 (roE (Option.some.inj h)) dX7_constantFits_31
  · replace h := if_f c2 h
    refine x_iconst (v := 0) X dX7_constantFits_10 (by decide) ?_
    exact x_zret X rfl (roE (Option.some.inj h)) dX7_constantFits_11
abbrev H_X7_spells_a15_15 (x1 : Int32) (K : Cx) (g : Gw) (u : St) (ret : Int32) (a : Int32) : Prop := XW K 0 0 4 (QI K g (wdM g) (ret, u)) (wdM g) u 15 [(0, .ref (g.1 0)), (1, .int x1), (2, .ref (g.1 15)), (3, .int a)] []
abbrev E_X7_spells_a15_15 (x1 : Int32) (K : Cx) (g : Gw) (u : St) (ret : Int32) (q : (Int32) ⊕ (Unit)) : Prop := Sum.elim (fun q => q = ret) (fun q => XW K 0 0 4 (QI K g (wdM g) (ret, u)) (wdM g) u 41 [] []) q
set_option maxRecDepth 100000 in
set_option maxHeartbeats 4000000 in
theorem w_X7_spells_a15_b15 {K : Cx} {g : Gw} (x1 : Int32) (u : St) (ret : Int32) (X : XC K g cX7_spells 4 RX7 (some .boolean) rm_X7_spells) (a : Int32) (r : ((Int32) ⊕ (Unit)) ⊕ (Int32)) (h : f_X7_spells_a15_b15 x1 u a = some r) (k0 : ∀ q, r = .inl q → E_X7_spells_a15_15 x1 K g u ret q) (k1 : ∀ q, r = .inr q → H_X7_spells_a15_15 x1 K g u ret q) : H_X7_spells_a15_15 x1 K g u ret a := by
  unfold f_X7_spells_a15_b15 at h
  show XW K 0 0 4 (QI K g (wdM g) (ret, u)) (wdM g) u 15 [(0, .ref (g.1 0)), (1, .int x1), (2, .ref (g.1 15)), (3, .int a)] []
  refine x_iload_n X dX7_spells_15 rfl 3 rfl ?_
  refine x_aload_n X dX7_spells_16 rfl 2 rfl ?_
  refine x_alen (v := 13) X 15 0 rfl rfl rfl dX7_spells_17 ?_
  refine x_icmp_ge (tgt := 41) X dX7_spells_18 (by decide) (fun c3 => ?_) (fun c3 => ?_)
  · replace h := if_t c3 h
    refine x_sub [] rfl ?_
    have h9 := k0 _ (Option.some.inj h).symm
    exact h9
  · replace h := if_f c3 h
    refine x_aload_n X dX7_spells_21 rfl 0 rfl ?_
    refine x_iload_n X dX7_spells_22 rfl 1 rfl ?_
    refine x_iload_n X dX7_spells_23 rfl 3 rfl ?_
    obtain ⟨q4, e4, h⟩ := bd h
    refine x_callR X [.int x1, .int a] [] (c_X7_letter K.l K.D g x1 a u q4 e4) ok_X7_letter m_X7_101 0 rfl rfl rfl rfl (Nat.le_of_ble_eq_true rfl) ⟨Nat.zero_le _, Nat.zero_le _⟩ ⟨rfl, rfl, by decide, by decide⟩ dX7_spells_24 ?_
    refine x_aload_n X dX7_spells_27 rfl 2 rfl ?_
    refine x_iload_n X dX7_spells_28 rfl 3 rfl ?_
    obtain ⟨i5, h⟩ := chk_some h
    refine x_iald (f := (u 44)) X 15 0 rfl rfl i5 dX7_spells_29 ?_
    refine x_icmp_eq (tgt := 35) X dX7_spells_30 (by decide) (fun c6 => ?_) (fun c6 => ?_)
    · replace h := if_t c6 h
      refine x_iinc (v := (a + 1)) (lv2 := [(3, .int (a + 1)), (0, .ref (g.1 0)), (1, .int x1), (2, .ref (g.1 15))]) X dX7_spells_35 3 rfl rfl (by decide) rfl ?_
      refine x_goto (tgt := 15) X dX7_spells_38 (by decide) ?_
      refine x_sub [1, 2, 3, 0] rfl ?_
      have h9 := k1 _ (Option.some.inj h).symm
      exact h9
    · replace h := if_f c6 h
      refine x_iconst (v := 0) X dX7_spells_33 (by decide) ?_
      exact x_zret X rfl (roE (k0 _ (Option.some.inj h).symm)) dX7_spells_34
set_option maxRecDepth 100000 in
set_option maxHeartbeats 4000000 in
theorem c_X7_spells_a15 (l : Launch) (D : va_G) (g : Gw) (p0 : Int32) (u : St) (ret : Int32) (h : f_X7_spells_a15 p0 u = some ret) : metI l D g (wdM g) yX7_spells cX7_spells 4 .boolean rm_X7_spells [.ref (g.1 0), .int p0, .ref (g.1 15)] u (ret, u) := by
  refine metI_of (own := RX7) (lv := [(0, .ref (g.1 0)), (1, .int p0), (2, .ref (g.1 15))]) (by decide) rfl rfl (Nat.le_of_ble_eq_true rfl) (fun K hl9 hD9 X => ?_)
  subst hl9
  subst hD9
  unfold f_X7_spells_a15 at h
  refine x_aload_n X dX7_spells_0 rfl 0 rfl ?_
  refine x_get (v := .ref (g.1 7)) X 0 15 in_X7 rfl rfl (by decide) m_X7_28 rfl dX7_spells_1 ?_
  refine x_iload_n X dX7_spells_4 rfl 1 rfl ?_
  obtain ⟨i1, h⟩ := chk_some h
  refine x_iald (f := (u 36)) X 7 0 rfl rfl i1 dX7_spells_5 ?_
  refine x_aload_n X dX7_spells_6 rfl 2 rfl ?_
  refine x_alen (v := 13) X 15 0 rfl rfl rfl dX7_spells_7 ?_
  refine x_icmp_eq (tgt := 13) X dX7_spells_8 (by decide) (fun c2 => ?_) (fun c2 => ?_)
  · replace h := if_t c2 h
    refine x_iconst (v := 0) X dX7_spells_13 (by decide) ?_
    refine x_istore_n (lv2 := [(3, .int 0), (0, .ref (g.1 0)), (1, .int p0), (2, .ref (g.1 15))]) X dX7_spells_14 rfl (by decide) rfl ?_
    refine x_sub [1, 2, 3, 0] rfl ?_
    obtain ⟨q70, e7, h⟩ := bd h
    refine loopF_w (WH := H_X7_spells_a15_15 p0 K g u ret) (KB := E_X7_spells_a15_15 p0 K g u ret) (fun a9 r9 h9 k8 k7 => w_X7_spells_a15_b15 p0 u ret X a9 r9 h9 k8 k7) FU 0 q70 e7 ?_
    rcases q70 with q7 | q7
    · replace h := sl h
      exact (Option.some.inj h)
    · replace h := sr h
      show XW K 0 0 4 (QI K g (wdM g) (ret, u)) (wdM g) u 41 [] []
      refine x_iconst (v := 1) X dX7_spells_41 (by decide) ?_
      exact x_zret X rfl (roE (Option.some.inj h)) dX7_spells_42
  · replace h := if_f c2 h
    refine x_iconst (v := 0) X dX7_spells_11 (by decide) ?_
    exact x_zret X rfl (roE (Option.some.inj h)) dX7_spells_12
abbrev H_X7_fieldAttributes_7 (x1 : Int32) (x2 : Int32) (K : Cx) (g : Gw) (ret : St) (a : Int32 × St) : Prop := XW K 0 0 10 (QV K g (wdM g) ret) (wdM g) a.2 7 [(0, .ref (g.1 0)), (1, .int x1), (2, .int x2), (3, .int a.1)] []
abbrev E_X7_fieldAttributes_7 (x1 : Int32) (x2 : Int32) (K : Cx) (g : Gw) (ret : St) (q : (St) ⊕ (St)) : Prop := Sum.elim (fun q => q = ret) (fun q => XW K 0 0 10 (QV K g (wdM g) ret) (wdM g) q 157 [] []) q
set_option maxRecDepth 100000 in
set_option maxHeartbeats 4000000 in
theorem w_X7_fieldAttributes_j151_7 {K : Cx} {g : Gw} (ret : St) (X : XC K g cX7_fieldAttributes 10 RX7 none rm_X7_fieldAttributes) (x1 : Int32) (x2 : Int32) (x3 : Int32) (u : St) (r : ((St) ⊕ (St)) ⊕ (Int32 × St)) (h : f_X7_fieldAttributes_j151_7 x1 x2 x3 u = some r) (k0 : ∀ q, r = .inl q → E_X7_fieldAttributes_7 x1 x2 K g ret q) (k1 : ∀ q, r = .inr q → H_X7_fieldAttributes_7 x1 x2 K g ret q) : XW K 0 0 10 (QV K g (wdM g) ret) (wdM g) u 151 [(0, .ref (g.1 0)), (1, .int x1), (2, .int x2), (3, .int x3)] [] := by
  unfold f_X7_fieldAttributes_j151_7 at h
  refine x_iinc (v := (x3 + 1)) (lv2 := [(3, .int (x3 + 1)), (0, .ref (g.1 0)), (1, .int x1), (2, .int x2)]) X dX7_fieldAttributes_151 3 rfl rfl (by decide) rfl ?_
  refine x_goto (tgt := 7) X dX7_fieldAttributes_154 (by decide) ?_
  refine x_sub [1, 2, 3, 0] rfl ?_
  have h9 := k1 _ (Option.some.inj h).symm
  exact h9
set_option maxRecDepth 100000 in
set_option maxHeartbeats 4000000 in
theorem w_X7_fieldAttributes_j134_7 {K : Cx} {g : Gw} (ret : St) (X : XC K g cX7_fieldAttributes 10 RX7 none rm_X7_fieldAttributes) (x1 : Int32) (x2 : Int32) (x3 : Int32) (u : St) (r : ((St) ⊕ (St)) ⊕ (Int32 × St)) (h : f_X7_fieldAttributes_j134_7 x1 x2 x3 u = some r) (k0 : ∀ q, r = .inl q → E_X7_fieldAttributes_7 x1 x2 K g ret q) (k1 : ∀ q, r = .inr q → H_X7_fieldAttributes_7 x1 x2 K g ret q) : XW K 0 0 10 (QV K g (wdM g) ret) (wdM g) u 134 [(0, .ref (g.1 0)), (1, .int x1), (2, .int x2), (3, .int x3)] [] := by
  unfold f_X7_fieldAttributes_j134_7 at h
  refine x_aload_n X dX7_fieldAttributes_134 rfl 0 rfl ?_
  refine x_get (v := .int (u 7 0)) X 0 9 in_X7 rfl rfl (by decide) m_X7_71 rfl dX7_fieldAttributes_135 ?_
  refine x_if_ne (tgt := 151) X dX7_fieldAttributes_138 (by decide) (fun c10 => ?_) (fun c10 => ?_)
  · replace h := if_f c10 h
    exact w_X7_fieldAttributes_j151_7 ret X x1 x2 x3 u r h k0 k1
  · replace h := if_t c10 h
    refine x_aload_n X dX7_fieldAttributes_141 rfl 0 rfl ?_
    refine x_get (v := .ref (g.1 3)) X 0 11 in_X7 rfl rfl (by decide) m_X7_16 rfl dX7_fieldAttributes_142 ?_
    refine x_iconst (v := 5) X dX7_fieldAttributes_145 (by decide) ?_
    refine x_dup2 X dX7_fieldAttributes_146 rfl rfl ?_
    obtain ⟨i11, h⟩ := chk_some h
    refine x_iald (f := (u 32)) X 3 0 rfl rfl i11 dX7_fieldAttributes_147 ?_
    refine x_iconst (v := 1) X dX7_fieldAttributes_148 (by decide) ?_
    refine x_iadd X dX7_fieldAttributes_149 ?_
    obtain ⟨i12, h⟩ := chk_some h
    refine x_iast (f := (u 32)) (u2 := (up u 32 (Int32.toNatClampNeg 5) (((u 32) (Int32.toNatClampNeg 5)) + 1))) X 3 0 rfl rfl i12 (wdM_32 g u (Int32.toNatClampNeg 5) (((u 32) (Int32.toNatClampNeg 5)) + 1)) dX7_fieldAttributes_150 ?_
    exact w_X7_fieldAttributes_j151_7 ret X x1 x2 x3 (up u 32 (Int32.toNatClampNeg 5) (((u 32) (Int32.toNatClampNeg 5)) + 1)) r h k0 k1
set_option maxRecDepth 100000 in
set_option maxHeartbeats 4000000 in
theorem w_X7_fieldAttributes_j125_7 {K : Cx} {g : Gw} (ret : St) (X : XC K g cX7_fieldAttributes 10 RX7 none rm_X7_fieldAttributes) (x1 : Int32) (x2 : Int32) (x3 : Int32) (x4 : Int32) (u : St) (r : ((St) ⊕ (St)) ⊕ (Int32 × St)) (h : f_X7_fieldAttributes_j125_7 x1 x2 x3 x4 u = some r) (k0 : ∀ q, r = .inl q → E_X7_fieldAttributes_7 x1 x2 K g ret q) (k1 : ∀ q, r = .inr q → H_X7_fieldAttributes_7 x1 x2 K g ret q) : XW K 0 0 10 (QV K g (wdM g) ret) (wdM g) u 125 [(0, .ref (g.1 0)), (1, .int x1), (2, .int x2), (3, .int x3), (4, .int x4)] [] := by
  unfold f_X7_fieldAttributes_j125_7 at h
  refine x_aload_n X dX7_fieldAttributes_125 rfl 0 rfl ?_
  refine x_bipush (v := 18) X dX7_fieldAttributes_126 (by decide) ?_
  refine x_iload X dX7_fieldAttributes_128 4 rfl ?_
  obtain ⟨q15, e15, h⟩ := bd h
  refine x_callI X [.int 18, .int x4] [] (c_X7_fail K.l K.D g 18 x4 u q15 e15) ok_X7_fail m_X7_89 0 rfl rfl rfl rfl (Nat.le_of_ble_eq_true rfl) ⟨Nat.zero_le _, Nat.zero_le _⟩ ⟨rfl, rfl, by decide, by decide⟩ dX7_fieldAttributes_130 ?_
  refine x_pop X dX7_fieldAttributes_133 rfl ?_
  refine x_sub [0, 1, 2, 3] rfl ?_
  exact w_X7_fieldAttributes_j134_7 ret X x1 x2 x3 q15.2 r h k0 k1
set_option maxRecDepth 100000 in
set_option maxHeartbeats 4000000 in
theorem w_X7_fieldAttributes_j104_7 {K : Cx} {g : Gw} (ret : St) (X : XC K g cX7_fieldAttributes 10 RX7 none rm_X7_fieldAttributes) (x1 : Int32) (x2 : Int32) (x3 : Int32) (x4 : Int32) (x6 : Int64) (z0 : Int32) (u : St) (r : ((St) ⊕ (St)) ⊕ (Int32 × St)) (h : f_X7_fieldAttributes_j104_7 x1 x2 x3 x4 x6 z0 u = some r) (k0 : ∀ q, r = .inl q → E_X7_fieldAttributes_7 x1 x2 K g ret q) (k1 : ∀ q, r = .inr q → H_X7_fieldAttributes_7 x1 x2 K g ret q) : XW K 0 0 10 (QV K g (wdM g) ret) (wdM g) u 104 [(0, .ref (g.1 0)), (1, .int x1), (2, .int x2), (3, .int x3), (4, .int x4), (6, .long x6)] [.int z0] := by
  unfold f_X7_fieldAttributes_j104_7 at h
  refine x_istore (lv2 := [(9, .int z0), (0, .ref (g.1 0)), (1, .int x1), (2, .int x2), (3, .int x3), (4, .int x4), (6, .long x6)]) X dX7_fieldAttributes_104 (by decide) rfl ?_
  refine x_lload X dX7_fieldAttributes_106 6 rfl ?_
  refine x_ldc2 (v := 2) X m_X7_180 dX7_fieldAttributes_108 ?_
  refine x_lcmp X dX7_fieldAttributes_111 ?_
  refine x_if_ne (tgt := 125) X dX7_fieldAttributes_112 (by decide) (fun c14 => ?_) (fun c14 => ?_)
  · replace h := if_f c14 h
    refine x_sub [1, 2, 3, 4, 5] rfl ?_
    exact w_X7_fieldAttributes_j125_7 ret X x1 x2 x3 x4 u r h k0 k1
  · replace h := if_t c14 h
    refine x_aload_n X dX7_fieldAttributes_115 rfl 1 rfl ?_
    refine x_iload_n X dX7_fieldAttributes_116 rfl 2 rfl ?_
    refine x_iload X dX7_fieldAttributes_117 0 rfl ?_
    obtain ⟨q16, e16, h⟩ := bd h
    refine x_callR X [.int x1, .int z0] [] (c_X7_constantFits K.l K.D g x1 z0 u q16 e16) ok_X7_constantFits m_X7_182 0 rfl rfl rfl rfl (Nat.le_of_ble_eq_true rfl) ⟨Nat.zero_le _, Nat.zero_le _⟩ ⟨rfl, rfl, by decide, by decide⟩ dX7_fieldAttributes_119 ?_
    refine x_if_ne (tgt := 134) X dX7_fieldAttributes_122 (by decide) (fun c17 => ?_) (fun c17 => ?_)
    · replace h := if_f c17 h
      refine x_sub [1, 2, 3, 4] rfl ?_
      exact w_X7_fieldAttributes_j134_7 ret X x1 x2 x3 u r h k0 k1
    · replace h := if_t c17 h
      refine x_sub [1, 2, 3, 4, 5] rfl ?_
      exact w_X7_fieldAttributes_j125_7 ret X x1 x2 x3 x4 u r h k0 k1
set_option maxRecDepth 100000 in
set_option maxHeartbeats 4000000 in
theorem w_X7_fieldAttributes_b7 {K : Cx} {g : Gw} (x1 : Int32) (x2 : Int32) (ret : St) (X : XC K g cX7_fieldAttributes 10 RX7 none rm_X7_fieldAttributes) (a : Int32 × St) (r : ((St) ⊕ (St)) ⊕ (Int32 × St)) (h : f_X7_fieldAttributes_b7 x1 x2 a = some r) (k0 : ∀ q, r = .inl q → E_X7_fieldAttributes_7 x1 x2 K g ret q) (k1 : ∀ q, r = .inr q → H_X7_fieldAttributes_7 x1 x2 K g ret q) : H_X7_fieldAttributes_7 x1 x2 K g ret a := by
  unfold f_X7_fieldAttributes_b7 at h
  show XW K 0 0 10 (QV K g (wdM g) ret) (wdM g) a.2 7 [(0, .ref (g.1 0)), (1, .int x1), (2, .int x2), (3, .int a.1)] []
  refine x_iload_n X dX7_fieldAttributes_7 rfl 3 rfl ?_
  refine x_iload_n X dX7_fieldAttributes_8 rfl 2 rfl ?_
  refine x_icmp_ge (tgt := 157) X dX7_fieldAttributes_9 (by decide) (fun c2 => ?_) (fun c2 => ?_)
  · replace h := if_t c2 h
    refine x_sub [] rfl ?_
    have h9 := k0 _ (Option.some.inj h).symm
    exact h9
  · replace h := if_f c2 h
    refine x_aload_n X dX7_fieldAttributes_12 rfl 0 rfl ?_
    refine x_get (v := .int (a.2 7 0)) X 0 9 in_X7 rfl rfl (by decide) m_X7_71 rfl dX7_fieldAttributes_13 ?_
    refine x_if_ne (tgt := 157) X dX7_fieldAttributes_16 (by decide) (fun c3 => ?_) (fun c3 => ?_)
    · replace h := if_f c3 h
      refine x_sub [] rfl ?_
      have h9 := k0 _ (Option.some.inj h).symm
      exact h9
    · replace h := if_t c3 h
      refine x_aload_n X dX7_fieldAttributes_19 rfl 0 rfl ?_
      refine x_get (v := .int (a.2 3 0)) X 0 5 in_X7 rfl rfl (by decide) m_X7_77 rfl dX7_fieldAttributes_20 ?_
      refine x_istore (lv2 := [(4, .int (a.2 3 0)), (0, .ref (g.1 0)), (1, .int x1), (2, .int x2), (3, .int a.1)]) X dX7_fieldAttributes_23 (by decide) rfl ?_
      refine x_aload_n X dX7_fieldAttributes_25 rfl 1 rfl ?_
      obtain ⟨q4, e4, h⟩ := bd h
      refine x_callI X [] [] (c_X7_textAt K.l K.D g a.2 q4 e4) ok_X7_textAt m_X7_173 0 rfl rfl rfl rfl (Nat.le_of_ble_eq_true rfl) ⟨Nat.zero_le _, Nat.zero_le _⟩ ⟨rfl, rfl, by decide, by decide⟩ dX7_fieldAttributes_26 ?_
      refine x_istore (lv2 := [(5, .int q4.1), (4, .int (a.2 3 0)), (0, .ref (g.1 0)), (1, .int x1), (2, .int x2), (3, .int a.1)]) X dX7_fieldAttributes_29 (by decide) rfl ?_
      refine x_aload_n X dX7_fieldAttributes_31 rfl 2 rfl ?_
      obtain ⟨q5, e5, h⟩ := bd h
      refine x_callL X [] [] (c_X7_lengthAt K.l K.D g q4.2 q5 e5) ok_X7_lengthAt m_X7_176 0 rfl rfl rfl rfl (Nat.le_of_ble_eq_true rfl) ⟨Nat.zero_le _, Nat.zero_le _⟩ ⟨rfl, rfl, by decide, by decide⟩ dX7_fieldAttributes_32 ?_
      refine x_lstore (lv2 := [(6, .long q5.1), (5, .int q4.1), (4, .int (a.2 3 0)), (0, .ref (g.1 0)), (1, .int x1), (2, .int x2), (3, .int a.1)]) X dX7_fieldAttributes_35 (by decide) rfl ?_
      refine x_aload_n X dX7_fieldAttributes_37 rfl 3 rfl ?_
      refine x_get (v := .int (q5.2 3 0)) X 0 5 in_X7 rfl rfl (by decide) m_X7_77 rfl dX7_fieldAttributes_38 ?_
      refine x_istore (lv2 := [(8, .int (q5.2 3 0)), (6, .long q5.1), (5, .int q4.1), (4, .int (a.2 3 0)), (0, .ref (g.1 0)), (1, .int x1), (2, .int x2), (3, .int a.1)]) X dX7_fieldAttributes_41 (by decide) rfl ?_
      refine x_aload_n X dX7_fieldAttributes_43 rfl 4 rfl ?_
      refine x_lload X dX7_fieldAttributes_44 1 rfl ?_
      obtain ⟨q6, e6, h⟩ := bd h
      refine x_callV X [.long q5.1] [] (c_X7_skip K.l K.D g q5.1 q5.2 q6 e6) ok_X7_skip m_X7_133 0 rfl rfl rfl rfl (Nat.le_of_ble_eq_true rfl) ⟨Nat.zero_le _, Nat.zero_le _⟩ ⟨rfl, rfl, by decide, by decide⟩ dX7_fieldAttributes_46 ?_
      refine x_aload_n X dX7_fieldAttributes_49 rfl 4 rfl ?_
      refine x_get (v := .int (q6 7 0)) X 0 9 in_X7 rfl rfl (by decide) m_X7_71 rfl dX7_fieldAttributes_50 ?_
      refine x_if_eq (tgt := 57) X dX7_fieldAttributes_53 (by decide) (fun c7 => ?_) (fun c7 => ?_)
      · replace h := if_t c7 h
        refine x_aload_n X dX7_fieldAttributes_57 rfl 4 rfl ?_
        refine x_iload X dX7_fieldAttributes_58 2 rfl ?_
        refine x_aload_n X dX7_fieldAttributes_60 rfl 4 rfl ?_
        refine x_get (v := .ref (g.1 15)) X 0 31 in_X7 rfl rfl (by decide) m_X7_53 rfl dX7_fieldAttributes_61 ?_
        obtain ⟨q8, e8, h⟩ := bd h
        refine x_callR X [.int q4.1, .ref (g.1 15)] [] (c_X7_spells_a15 K.l K.D g q4.1 q6 q8 e8) ok_X7_spells m_X7_105 0 rfl rfl rfl rfl (Nat.le_of_ble_eq_true rfl) ⟨Nat.zero_le _, Nat.zero_le _⟩ ⟨rfl, rfl, by decide, by decide⟩ dX7_fieldAttributes_64 ?_
        refine x_if_eq (tgt := 134) X dX7_fieldAttributes_67 (by decide) (fun c9 => ?_) (fun c9 => ?_)
        · replace h := if_t c9 h
          refine x_sub [4, 5, 6, 7] rfl ?_
          exact w_X7_fieldAttributes_j134_7 ret X x1 x2 a.1 q6 r h k0 k1
        · replace h := if_f c9 h
          refine x_lload X dX7_fieldAttributes_70 1 rfl ?_
          refine x_ldc2 (v := 2) X m_X7_180 dX7_fieldAttributes_72 ?_
          refine x_lcmp X dX7_fieldAttributes_75 ?_
          refine x_if_ne (tgt := 103) X dX7_fieldAttributes_76 (by decide) (fun c13 => ?_) (fun c13 => ?_)
          · replace h := if_f c13 h
            refine x_iconst (v := 0) X dX7_fieldAttributes_103 (by decide) ?_
            refine x_sub [4, 5, 6, 7, 3, 1] rfl ?_
            exact w_X7_fieldAttributes_j104_7 ret X x1 x2 a.1 (a.2 3 0) q5.1 0 q6 r h k0 k1
          · replace h := if_t c13 h
            refine x_sipush (v := 256) X dX7_fieldAttributes_79 (by decide) ?_
            refine x_aload_n X dX7_fieldAttributes_82 rfl 4 rfl ?_
            refine x_get (v := .ref (g.1 1)) X 0 0 in_X7 rfl rfl (by decide) m_X7_7 rfl dX7_fieldAttributes_83 ?_
            refine x_iload X dX7_fieldAttributes_86 0 rfl ?_
            obtain ⟨i18, h⟩ := chk_some h
            refine x_iald (f := (q6 30)) X 1 0 rfl rfl i18 dX7_fieldAttributes_88 ?_
            refine x_imul X dX7_fieldAttributes_89 ?_
            refine x_aload_n X dX7_fieldAttributes_90 rfl 4 rfl ?_
            refine x_get (v := .ref (g.1 1)) X 0 0 in_X7 rfl rfl (by decide) m_X7_7 rfl dX7_fieldAttributes_91 ?_
            refine x_iload X dX7_fieldAttributes_94 0 rfl ?_
            refine x_iconst (v := 1) X dX7_fieldAttributes_96 (by decide) ?_
            refine x_iadd X dX7_fieldAttributes_97 ?_
            obtain ⟨i19, h⟩ := chk_some h
            refine x_iald (f := (q6 30)) X 1 0 rfl rfl i19 dX7_fieldAttributes_98 ?_
            refine x_iadd X dX7_fieldAttributes_99 ?_
            refine x_goto (tgt := 104) X dX7_fieldAttributes_100 (by decide) ?_
            refine x_sub [4, 5, 6, 7, 3, 1] rfl ?_
            exact w_X7_fieldAttributes_j104_7 ret X x1 x2 a.1 (a.2 3 0) q5.1 ((256 * ((q6 30) (Int32.toNatClampNeg (q5.2 3 0)))) + ((q6 30) (Int32.toNatClampNeg ((q5.2 3 0) + 1)))) q6 r h k0 k1
      · replace h := if_f c7 h
        exact x_vret X (k0 _ (Option.some.inj h).symm) dX7_fieldAttributes_56
set_option maxRecDepth 100000 in
set_option maxHeartbeats 4000000 in
theorem w_X7_fieldAttributes_j157 {K : Cx} {g : Gw} (ret : St) (X : XC K g cX7_fieldAttributes 10 RX7 none rm_X7_fieldAttributes) (u : St) (h : f_X7_fieldAttributes_j157 u = some ret) : XW K 0 0 10 (QV K g (wdM g) ret) (wdM g) u 157 [] [] := by
  unfold f_X7_fieldAttributes_j157 at h
  exact x_vret X (Option.some.inj h) dX7_fieldAttributes_157
set_option maxRecDepth 100000 in
set_option maxHeartbeats 4000000 in
theorem c_X7_fieldAttributes (l : Launch) (D : va_G) (g : Gw) (p0 : Int32) (u : St) (ret : St) (h : f_X7_fieldAttributes p0 u = some ret) : metV l D g (wdM g) yX7_fieldAttributes cX7_fieldAttributes 10 rm_X7_fieldAttributes [.ref (g.1 0), .int p0] u ret := by
  refine metV_of (own := RX7) (lv := [(0, .ref (g.1 0)), (1, .int p0)]) (by decide) rfl rfl (Nat.le_of_ble_eq_true rfl) (fun K hl9 hD9 X => ?_)
  subst hl9
  subst hD9
  unfold f_X7_fieldAttributes at h
  refine x_aload_n X dX7_fieldAttributes_0 rfl 0 rfl ?_
  obtain ⟨q1, e1, h⟩ := bd h
  refine x_callI X [] [] (c_X7_u2 K.l K.D g u q1 e1) ok_X7_u2 m_X7_130 0 rfl rfl rfl rfl (Nat.le_of_ble_eq_true rfl) ⟨Nat.zero_le _, Nat.zero_le _⟩ ⟨rfl, rfl, by decide, by decide⟩ dX7_fieldAttributes_1 ?_
  refine x_istore_n (lv2 := [(2, .int q1.1), (0, .ref (g.1 0)), (1, .int p0)]) X dX7_fieldAttributes_4 rfl (by decide) rfl ?_
  refine x_iconst (v := 0) X dX7_fieldAttributes_5 (by decide) ?_
  refine x_istore_n (lv2 := [(3, .int 0), (2, .int q1.1), (0, .ref (g.1 0)), (1, .int p0)]) X dX7_fieldAttributes_6 rfl (by decide) rfl ?_
  refine x_sub [2, 3, 1, 0] rfl ?_
  obtain ⟨q200, e20, h⟩ := bd h
  refine loopF_w (WH := H_X7_fieldAttributes_7 p0 q1.1 K g ret) (KB := E_X7_fieldAttributes_7 p0 q1.1 K g ret) (fun a9 r9 h9 k8 k7 => w_X7_fieldAttributes_b7 p0 q1.1 ret X a9 r9 h9 k8 k7) FU (0, q1.2) q200 e20 ?_
  rcases q200 with q20 | q20
  · replace h := sl h
    exact (Option.some.inj h)
  · replace h := sr h
    show XW K 0 0 10 (QV K g (wdM g) ret) (wdM g) q20 157 [] []
    exact w_X7_fieldAttributes_j157 ret X q20 h
