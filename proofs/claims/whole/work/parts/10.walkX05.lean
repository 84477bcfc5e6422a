set_option maxRecDepth 100000 in
set_option maxHeartbeats 4000000 in
theorem w_X3_isMethodType_j13 {K : Cx} {g : Gw} (ret : Int32) (X : XC K g cX3_isMethodType 6 RX3 (some .boolean) rm_X3_isMethodType) (u : St) (h : f_X3_isMethodType_j13 u = some ret) : XW K 0 0 6 (QI K g (wdX g) (ret, u)) (wdX g) u 13 [] [] := by
  unfold f_X3_isMethodType_j13 at h
  refine x_iconst (v := 0) X dX3_isMethodType_13 (by decide) ?_
  exact x_zret X rfl (roE (Option.some.inj h)) dX3_isMethodType_14
abbrev H_X3_isMethodType_19 (x2 : Int32) (K : Cx) (g : Gw) (u : St) (ret : Int32) (a : Int32) : Prop := XW K 0 0 6 (QI K g (wdX g) (ret, u)) (wdX g) u 19 [(0, .ref (g.1 8)), (2, .int x2), (3, .int a)] []
abbrev E_X3_isMethodType_19 (x2 : Int32) (K : Cx) (g : Gw) (u : St) (ret : Int32) (q : (Int32) ⊕ (Int32)) : Prop := Sum.elim (fun q => q = ret) (fun q => XW K 0 0 6 (QI K g (wdX g) (ret, u)) (wdX g) u 54 [(0, .ref (g.1 8)), (2, .int x2), (3, .int q)] []) q
set_option maxRecDepth 100000 in
set_option maxHeartbeats 4000000 in
theorem w_X3_isMethodType_b19 {K : Cx} {g : Gw} (x2 : Int32) (u : St) (ret : Int32) (X : XC K g cX3_isMethodType 6 RX3 (some .boolean) rm_X3_isMethodType) (a : Int32) (r : ((Int32) ⊕ (Int32)) ⊕ (Int32)) (h : f_X3_isMethodType_b19 x2 u a = some r) (k0 : ∀ q, r = .inl q → E_X3_isMethodType_19 x2 K g u ret q) (k1 : ∀ q, r = .inr q → H_X3_isMethodType_19 x2 K g u ret q) : H_X3_isMethodType_19 x2 K g u ret a := by
  unfold f_X3_isMethodType_b19 at h
  show XW K 0 0 6 (QI K g (wdX g) (ret, u)) (wdX g) u 19 [(0, .ref (g.1 8)), (2, .int x2), (3, .int a)] []
  refine x_iload_n X dX3_isMethodType_19 rfl 2 rfl ?_
  refine x_iload_n X dX3_isMethodType_20 rfl 1 rfl ?_
  refine x_icmp_ge (tgt := 54) X dX3_isMethodType_21 (by decide) (fun c4 => ?_) (fun c4 => ?_)
  · replace h := if_t c4 h
    have h9 := k0 _ (Option.some.inj h).symm
    exact h9
  · replace h := if_f c4 h
    refine x_aload_n X dX3_isMethodType_24 rfl 0 rfl ?_
    refine x_iload_n X dX3_isMethodType_25 rfl 2 rfl ?_
    obtain ⟨i5, h⟩ := chk_some h
    refine x_iald (f := (u 22)) X 8 0 rfl rfl i5 dX3_isMethodType_26 ?_
    refine x_bipush (v := 41) X dX3_isMethodType_27 (by decide) ?_
    refine x_icmp_eq (tgt := 54) X dX3_isMethodType_29 (by decide) (fun c6 => ?_) (fun c6 => ?_)
    · replace h := if_t c6 h
      have h9 := k0 _ (Option.some.inj h).symm
      exact h9
    · replace h := if_f c6 h
      refine x_aload_n X dX3_isMethodType_32 rfl 0 rfl ?_
      refine x_iload_n X dX3_isMethodType_33 rfl 2 rfl ?_
      refine x_iload_n X dX3_isMethodType_34 rfl 1 rfl ?_
      obtain ⟨q7, e7, h⟩ := bd h
      refine x_scallR X [.ref (g.1 8), .int a, .int x2] [] (c_X3_fieldTypeEnd K.l K.D g a x2 u q7 e7) ok_X3_fieldTypeEnd m_X3_20 rfl rfl (Nat.le_of_ble_eq_true rfl) ⟨Nat.zero_le _, Nat.zero_le _⟩ ⟨rfl, rfl, by decide, by decide⟩ dX3_isMethodType_35 ?_
      refine x_istore (lv2 := [(4, .int q7), (0, .ref (g.1 8)), (2, .int x2), (3, .int a)]) X dX3_isMethodType_38 (by decide) rfl ?_
      refine x_iload X dX3_isMethodType_40 0 rfl ?_
      refine x_iload_n X dX3_isMethodType_42 rfl 3 rfl ?_
      refine x_icmp_gt (tgt := 48) X dX3_isMethodType_43 (by decide) (fun c8 => ?_) (fun c8 => ?_)
      · replace h := if_t c8 h
        refine x_iload X dX3_isMethodType_48 0 rfl ?_
        refine x_istore_n (lv2 := [(3, .int q7), (4, .int q7), (0, .ref (g.1 8)), (2, .int x2)]) X dX3_isMethodType_50 rfl (by decide) rfl ?_
        refine x_goto (tgt := 19) X dX3_isMethodType_51 (by decide) ?_
        refine x_sub [2, 3, 0] rfl ?_
        have h9 := k1 _ (Option.some.inj h).symm
        exact h9
      · replace h := if_f c8 h
        refine x_iconst (v := 0) X dX3_isMethodType_46 (by decide) ?_
        exact x_zret X rfl (roE (k0 _ (Option.some.inj h).symm)) dX3_isMethodType_47
set_option maxRecDepth 100000 in
set_option maxHeartbeats 4000000 in
theorem w_X3_isMethodType_j104 {K : Cx} {g : Gw} (ret : Int32) (X : XC K g cX3_isMethodType 6 RX3 (some .boolean) rm_X3_isMethodType) (z0 : Int32) (u : St) (h : f_X3_isMethodType_j104 z0 u = some ret) : XW K 0 0 6 (QI K g (wdX g) (ret, u)) (wdX g) u 104 [] [.int z0] := by
  unfold f_X3_isMethodType_j104 at h
  obtain ⟨b12, h⟩ := bchk_some h
  exact x_zret X b12 (roE (Option.some.inj h)) dX3_isMethodType_104
set_option maxRecDepth 100000 in
set_option maxHeartbeats 4000000 in
theorem w_X3_isMethodType_j99 {K : Cx} {g : Gw} (ret : Int32) (X : XC K g cX3_isMethodType 6 RX3 (some .boolean) rm_X3_isMethodType) (u : St) (h : f_X3_isMethodType_j99 u = some ret) : XW K 0 0 6 (QI K g (wdX g) (ret, u)) (wdX g) u 99 [] [] := by
  unfold f_X3_isMethodType_j99 at h
  refine x_iconst (v := 1) X dX3_isMethodType_99 (by decide) ?_
  refine x_goto (tgt := 104) X dX3_isMethodType_100 (by decide) ?_
  exact w_X3_isMethodType_j104 ret X 1 u h
set_option maxRecDepth 100000 in
set_option maxHeartbeats 4000000 in
theorem w_X3_isMethodType_j81 {K : Cx} {g : Gw} (ret : Int32) (X : XC K g cX3_isMethodType 6 RX3 (some .boolean) rm_X3_isMethodType) (x2 : Int32) (x4 : Int32) (z0 : Int32) (u : St) (h : f_X3_isMethodType_j81 x2 x4 z0 u = some ret) : XW K 0 0 6 (QI K g (wdX g) (ret, u)) (wdX g) u 81 [(0, .ref (g.1 8)), (2, .int x2), (4, .int x4)] [.int z0] := by
  unfold f_X3_isMethodType_j81 at h
  refine x_istore (lv2 := [(5, .int z0), (0, .ref (g.1 8)), (2, .int x2), (4, .int x4)]) X dX3_isMethodType_81 (by decide) rfl ?_
  refine x_iload X dX3_isMethodType_83 0 rfl ?_
  refine x_if_ne (tgt := 99) X dX3_isMethodType_85 (by decide) (fun c11 => ?_) (fun c11 => ?_)
  · replace h := if_f c11 h
    refine x_sub [] rfl ?_
    exact w_X3_isMethodType_j99 ret X u h
  · replace h := if_t c11 h
    refine x_aload_n X dX3_isMethodType_88 rfl 1 rfl ?_
    refine x_iload X dX3_isMethodType_89 3 rfl ?_
    refine x_iload_n X dX3_isMethodType_91 rfl 2 rfl ?_
    obtain ⟨q13, e13, h⟩ := bd h
    refine x_scallR X [.ref (g.1 8), .int x4, .int x2] [] (c_X3_fieldTypeEnd K.l K.D g x4 x2 u q13 e13) ok_X3_fieldTypeEnd m_X3_20 rfl rfl (Nat.le_of_ble_eq_true rfl) ⟨Nat.zero_le _, Nat.zero_le _⟩ ⟨rfl, rfl, by decide, by decide⟩ dX3_isMethodType_92 ?_
    refine x_iload_n X dX3_isMethodType_95 rfl 2 rfl ?_
    refine x_icmp_ne (tgt := 103) X dX3_isMethodType_96 (by decide) (fun c14 => ?_) (fun c14 => ?_)
    · replace h := if_f c14 h
      refine x_iconst (v := 0) X dX3_isMethodType_103 (by decide) ?_
      refine x_sub [] rfl ?_
      exact w_X3_isMethodType_j104 ret X 0 u h
    · replace h := if_t c14 h
      refine x_sub [] rfl ?_
      exact w_X3_isMethodType_j99 ret X u h
set_option maxRecDepth 100000 in
set_option maxHeartbeats 4000000 in
theorem w_X3_isMethodType_j80 {K : Cx} {g : Gw} (ret : Int32) (X : XC K g cX3_isMethodType 6 RX3 (some .boolean) rm_X3_isMethodType) (x2 : Int32) (x4 : Int32) (u : St) (h : f_X3_isMethodType_j80 x2 x4 u = some ret) : XW K 0 0 6 (QI K g (wdX g) (ret, u)) (wdX g) u 80 [(0, .ref (g.1 8)), (2, .int x2), (4, .int x4)] [] := by
  unfold f_X3_isMethodType_j80 at h
  refine x_iconst (v := 0) X dX3_isMethodType_80 (by decide) ?_
  exact w_X3_isMethodType_j81 ret X x2 x4 0 u h
set_option maxRecDepth 100000 in
set_option maxHeartbeats 4000000 in
theorem w_X3_isMethodType_j54 {K : Cx} {g : Gw} (ret : Int32) (X : XC K g cX3_isMethodType 6 RX3 (some .boolean) rm_X3_isMethodType) (x2 : Int32) (x3 : Int32) (u : St) (h : f_X3_isMethodType_j54 x2 x3 u = some ret) : XW K 0 0 6 (QI K g (wdX g) (ret, u)) (wdX g) u 54 [(0, .ref (g.1 8)), (2, .int x2), (3, .int x3)] [] := by
  unfold f_X3_isMethodType_j54 at h
  refine x_iload_n X dX3_isMethodType_54 rfl 2 rfl ?_
  refine x_iconst (v := 1) X dX3_isMethodType_55 (by decide) ?_
  refine x_iadd X dX3_isMethodType_56 ?_
  refine x_istore (lv2 := [(4, .int (x3 + 1)), (0, .ref (g.1 8)), (2, .int x2), (3, .int x3)]) X dX3_isMethodType_57 (by decide) rfl ?_
  refine x_iload X dX3_isMethodType_59 0 rfl ?_
  refine x_iload_n X dX3_isMethodType_61 rfl 2 rfl ?_
  refine x_iconst (v := 1) X dX3_isMethodType_62 (by decide) ?_
  refine x_isub X dX3_isMethodType_63 ?_
  refine x_icmp_ne (tgt := 80) X dX3_isMethodType_64 (by decide) (fun c10 => ?_) (fun c10 => ?_)
  · replace h := if_f c10 h
    refine x_sub [1, 2, 0] rfl ?_
    exact w_X3_isMethodType_j80 ret X x2 (x3 + 1) u h
  · replace h := if_t c10 h
    refine x_aload_n X dX3_isMethodType_67 rfl 1 rfl ?_
    refine x_iload X dX3_isMethodType_68 0 rfl ?_
    obtain ⟨i15, h⟩ := chk_some h
    refine x_iald (f := (u 22)) X 8 0 rfl rfl i15 dX3_isMethodType_70 ?_
    refine x_bipush (v := 86) X dX3_isMethodType_71 (by decide) ?_
    refine x_icmp_ne (tgt := 80) X dX3_isMethodType_73 (by decide) (fun c16 => ?_) (fun c16 => ?_)
    · replace h := if_f c16 h
      refine x_sub [1, 2, 0] rfl ?_
      exact w_X3_isMethodType_j80 ret X x2 (x3 + 1) u h
    · replace h := if_t c16 h
      refine x_iconst (v := 1) X dX3_isMethodType_76 (by decide) ?_
      refine x_goto (tgt := 81) X dX3_isMethodType_77 (by decide) ?_
      refine x_sub [1, 2, 0] rfl ?_
      exact w_X3_isMethodType_j81 ret X x2 (x3 + 1) 1 u h
set_option maxRecDepth 100000 in
set_option maxHeartbeats 4000000 in
theorem c_X3_isMethodType (l : Launch) (D : va_G) (g : Gw) (p1 : Int32) (p2 : Int32) (u : St) (ret : Int32) (h : f_X3_isMethodType p1 p2 u = some ret) : metI l D g (wdX g) yX3_isMethodType cX3_isMethodType 6 .boolean rm_X3_isMethodType [.ref (g.1 8), .int p1, .int p2] u (ret, u) := by
  refine metI_of (own := RX3) (lv := [(0, .ref (g.1 8)), (1, .int p1), (2, .int p2)]) (by decide) rfl rfl (Nat.le_of_ble_eq_true rfl) (fun K hl9 hD9 X => ?_)
  subst hl9
  subst hD9
  unfold f_X3_isMethodType at h
  refine x_iload_n X dX3_isMethodType_0 rfl 1 rfl ?_
  refine x_iload_n X dX3_isMethodType_1 rfl 2 rfl ?_
  refine x_icmp_ge (tgt := 13) X dX3_isMethodType_2 (by decide) (fun c1 => ?_) (fun c1 => ?_)
  · replace h := if_t c1 h
    refine x_sub [] rfl ?_
    exact w_X3_isMethodType_j13 ret X u h
  · replace h := if_f c1 h
    refine x_aload_n X dX3_isMethodType_5 rfl 0 rfl ?_
    refine x_iload_n X dX3_isMethodType_6 rfl 1 rfl ?_
    obtain ⟨i2, h⟩ := chk_some h
    refine x_iald (f := (u 22)) X 8 0 rfl rfl i2 dX3_isMethodType_7 ?_
    refine x_bipush (v := 40) X dX3_isMethodType_8 (by decide) ?_
    refine x_icmp_eq (tgt := 15) X dX3_isMethodType_10 (by decide) (fun c3 => ?_) (fun c3 => ?_)
    · replace h := if_t c3 h
      refine x_iload_n X dX3_isMethodType_15 rfl 1 rfl ?_
      refine x_iconst (v := 1) X dX3_isMethodType_16 (by decide) ?_
      refine x_iadd X dX3_isMethodType_17 ?_
      refine x_istore_n (lv2 := [(3, .int (p1 + 1)), (0, .ref (g.1 8)), (1, .int p1), (2, .int p2)]) X dX3_isMethodType_18 rfl (by decide) rfl ?_
      refine x_sub [1, 3, 0] rfl ?_
      obtain ⟨q90, e9, h⟩ := bd h
      refine loopF_w (WH := H_X3_isMethodType_19 p2 K g u ret) (KB := E_X3_isMethodType_19 p2 K g u ret) (fun a9 r9 h9 k8 k7 => w_X3_isMethodType_b19 p2 u ret X a9 r9 h9 k8 k7) FU (p1 + 1) q90 e9 ?_
      rcases q90 with q9 | q9
      · replace h := sl h
        exact (Option.some.inj h)
      · replace h := sr h
        show XW K 0 0 6 (QI K g (wdX g) (ret, u)) (wdX g) u 54 [(0, .ref (g.1 8)), (2, .int p2), (3, .int q9)] []
        exact w_X3_isMethodType_j54 ret X p2 q9 u h
    · replace h := if_f c3 h
      refine x_sub [] rfl ?_
      exact w_X3_isMethodType_j13 ret X u h
set_option maxRecDepth 100000 in
set_option maxHeartbeats 4000000 in
theorem w_X4_isMethodType_j37 {K : Cx} {g : Gw} (ret : Int32) (X : XC K g cX4_isMethodType 2 RX4 (some .boolean) rm_X4_isMethodType) (z0 : Int32) (u : St) (h : f_X4_isMethodType_j37 z0 u = some ret) : XW K 0 0 2 (QI K g (wdX g) (ret, u)) (wdX g) u 37 [] [.int z0] := by
  unfold f_X4_isMethodType_j37 at h
  obtain ⟨b3, h⟩ := bchk_some h
  exact x_zret X b3 (roE (Option.some.inj h)) dX4_isMethodType_37
set_option maxRecDepth 100000 in
set_option maxHeartbeats 4000000 in
theorem w_X4_isMethodType_j36 {K : Cx} {g : Gw} (ret : Int32) (X : XC K g cX4_isMethodType 2 RX4 (some .boolean) rm_X4_isMethodType) (u : St) (h : f_X4_isMethodType_j36 u = some ret) : XW K 0 0 2 (QI K g (wdX g) (ret, u)) (wdX g) u 36 [] [] := by
  unfold f_X4_isMethodType_j36 at h
  refine x_iconst (v := 0) X dX4_isMethodType_36 (by decide) ?_
  exact w_X4_isMethodType_j37 ret X 0 u h
set_option maxRecDepth 100000 in
set_option maxHeartbeats 4000000 in
theorem c_X4_isMethodType (l : Launch) (D : va_G) (g : Gw) (p0 : Int32) (u : St) (ret : Int32) (h : f_X4_isMethodType p0 u = some ret) : metI l D g (wdX g) yX4_isMethodType cX4_isMethodType 2 .boolean rm_X4_isMethodType [.ref (g.1 4), .int p0] u (ret, u) := by
  refine metI_of (own := RX4) (lv := [(0, .ref (g.1 4)), (1, .int p0)]) (by decide) rfl rfl (Nat.le_of_ble_eq_true rfl) (fun K hl9 hD9 X => ?_)
  subst hl9
  subst hD9
  unfold f_X4_isMethodType at h
  refine x_aload_n X dX4_isMethodType_0 rfl 0 rfl ?_
  refine x_iload_n X dX4_isMethodType_1 rfl 1 rfl ?_
  obtain ⟨q1, e1, h⟩ := bd h
  refine x_callR X [.int p0] [] (c_X4_kindOf K.l K.D g p0 u q1 e1) ok_X4_kindOf m_X4_77 4 rfl rfl rfl rfl (Nat.le_of_ble_eq_true rfl) ⟨Nat.zero_le _, Nat.zero_le _⟩ ⟨rfl, rfl, by decide, by decide⟩ dX4_isMethodType_2 ?_
  refine x_iconst (v := 1) X dX4_isMethodType_5 (by decide) ?_
  refine x_icmp_ne (tgt := 36) X dX4_isMethodType_6 (by decide) (fun c2 => ?_) (fun c2 => ?_)
  · replace h := if_f c2 h
    refine x_sub [] rfl ?_
    exact w_X4_isMethodType_j36 ret X u h
  · replace h := if_t c2 h
    refine x_aload_n X dX4_isMethodType_9 rfl 0 rfl ?_
    refine x_get (v := .ref (g.1 1)) X 4 0 in_X4 rfl rfl (by decide) m_X4_30 rfl dX4_isMethodType_10 ?_
    refine x_get (v := .ref (g.1 8)) X 1 0 in_X1 rfl rfl (by decide) m_X4_53 rfl dX4_isMethodType_13 ?_
    refine x_aload_n X dX4_isMethodType_16 rfl 0 rfl ?_
    refine x_iload_n X dX4_isMethodType_17 rfl 1 rfl ?_
    obtain ⟨q4, e4, h⟩ := bd h
    refine x_callR X [.int p0] [.ref (g.1 8)] (c_X4_textStart K.l K.D g p0 u q4 e4) ok_X4_textStart m_X4_86 4 rfl rfl rfl rfl (Nat.le_of_ble_eq_true rfl) ⟨Nat.zero_le _, Nat.zero_le _⟩ ⟨rfl, rfl, by decide, by decide⟩ dX4_isMethodType_18 ?_
    refine x_aload_n X dX4_isMethodType_21 rfl 0 rfl ?_
    refine x_iload_n X dX4_isMethodType_22 rfl 1 rfl ?_
    obtain ⟨q5, e5, h⟩ := bd h
    refine x_callR X [.int p0] [.int q4, .ref (g.1 8)] (c_X4_textEnd K.l K.D g p0 u q5 e5) ok_X4_textEnd m_X4_89 4 rfl rfl rfl rfl (Nat.le_of_ble_eq_true rfl) ⟨Nat.zero_le _, Nat.zero_le _⟩ ⟨rfl, rfl, by decide, by decide⟩ dX4_isMethodType_23 ?_
    obtain ⟨q6, e6, h⟩ := bd h
    refine x_scallR X [.ref (g.1 8), .int q4, .int q5] [] (c_X3_isMethodType K.l K.D g q4 q5 u q6 e6) ok_X3_isMethodType m_X4_110 rfl rfl (Nat.le_of_ble_eq_true rfl) ⟨Nat.zero_le _, Nat.zero_le _⟩ ⟨rfl, rfl, by decide, by decide⟩ dX4_isMethodType_26 ?_
    refine x_if_eq (tgt := 36) X dX4_isMethodType_29 (by decide) (fun c7 => ?_) (fun c7 => ?_)
    · replace h := if_t c7 h
      refine x_sub [] rfl ?_
      exact w_X4_isMethodType_j36 ret X u h
    · replace h := if_f c7 h
      refine x_iconst (v := 1) X dX4_isMethodType_32 (by decide) ?_
      refine x_goto (tgt := 37) X dX4_isMethodType_33 (by decide) ?_
      refine x_sub [] rfl ?_
      exact w_X4_isMethodType_j37 ret X 1 u h
set_option maxRecDepth 100000 in
set_option maxHeartbeats 4000000 in
theorem w_X4_textRule_j93 {K : Cx} {g : Gw} (ret : Int32) (X : XC K g cX4_textRule 3 RX4 (some .int) rm_X4_textRule) (z0 : Int32) (u : St) (h : f_X4_textRule_j93 z0 u = some ret) : XW K 0 0 3 (QI K g (wdX g) (ret, u)) (wdX g) u 93 [] [.int z0] := by
  unfold f_X4_textRule_j93 at h
  exact x_iret X (roE (Option.some.inj h)) dX4_textRule_93
set_option maxRecDepth 100000 in
set_option maxHeartbeats 4000000 in
theorem w_X4_textRule_j46 {K : Cx} {g : Gw} (ret : Int32) (X : XC K g cX4_textRule 3 RX4 (some .int) rm_X4_textRule) (z0 : Int32) (u : St) (h : f_X4_textRule_j46 z0 u = some ret) : XW K 0 0 3 (QI K g (wdX g) (ret, u)) (wdX g) u 46 [] [.int z0] := by
  unfold f_X4_textRule_j46 at h
  exact x_iret X (roE (Option.some.inj h)) dX4_textRule_46
set_option maxRecDepth 100000 in
set_option maxHeartbeats 4000000 in
theorem c_X4_textRule (l : Launch) (D : va_G) (g : Gw) (p0 : Int32) (u : St) (ret : Int32) (h : f_X4_textRule p0 u = some ret) : metI l D g (wdX g) yX4_textRule cX4_textRule 3 .int rm_X4_textRule [.ref (g.1 4), .int p0] u (ret, u) := by
  refine metI_of (own := RX4) (lv := [(0, .ref (g.1 4)), (1, .int p0)]) (by decide) rfl rfl (Nat.le_of_ble_eq_true rfl) (fun K hl9 hD9 X => ?_)
  subst hl9
  subst hD9
  unfold f_X4_textRule at h
  refine x_aload_n X dX4_textRule_0 rfl 0 rfl ?_
  refine x_get (v := .ref (g.1 11)) X 4 2 in_X4 rfl rfl (by decide) m_X4_13 rfl dX4_textRule_1 ?_
  refine x_iload_n X dX4_textRule_4 rfl 1 rfl ?_
  obtain ⟨i1, h⟩ := chk_some h
  refine x_iald (f := (u 25)) X 11 0 rfl rfl i1 dX4_textRule_5 ?_
  refine x_bipush (v := 7) X dX4_textRule_6 (by decide) ?_
  refine x_icmp_ne (tgt := 47) X dX4_textRule_8 (by decide) (fun c2 => ?_) (fun c2 => ?_)
  · replace h := if_f c2 h
    refine x_aload_n X dX4_textRule_47 rfl 0 rfl ?_
    refine x_get (v := .ref (g.1 11)) X 4 2 in_X4 rfl rfl (by decide) m_X4_13 rfl dX4_textRule_48 ?_
    refine x_iload_n X dX4_textRule_51 rfl 1 rfl ?_
    obtain ⟨i3, h⟩ := chk_some h
    refine x_iald (f := (u 25)) X 11 0 rfl rfl i3 dX4_textRule_52 ?_
    refine x_bipush (v := 12) X dX4_textRule_53 (by decide) ?_
    refine x_icmp_eq (tgt := 60) X dX4_textRule_55 (by decide) (fun c4 => ?_) (fun c4 => ?_)
    · replace h := if_t c4 h
      refine x_aload_n X dX4_textRule_60 rfl 0 rfl ?_
      refine x_aload_n X dX4_textRule_61 rfl 0 rfl ?_
      refine x_iload_n X dX4_textRule_62 rfl 1 rfl ?_
      obtain ⟨q5, e5, h⟩ := bd h
      refine x_callR X [.int p0] [.ref (g.1 4)] (c_X4_first K.l K.D g p0 u q5 e5) ok_X4_first m_X4_74 4 rfl rfl rfl rfl (Nat.le_of_ble_eq_true rfl) ⟨Nat.zero_le _, Nat.zero_le _⟩ ⟨rfl, rfl, by decide, by decide⟩ dX4_textRule_63 ?_
      obtain ⟨q6, e6, h⟩ := bd h
      refine x_callR X [.int q5] [] (c_X4_isMemberName K.l K.D g q5 u q6 e6) ok_X4_isMemberName m_X4_96 4 rfl rfl rfl rfl (Nat.le_of_ble_eq_true rfl) ⟨Nat.zero_le _, Nat.zero_le _⟩ ⟨rfl, rfl, by decide, by decide⟩ dX4_textRule_66 ?_
      refine x_if_ne (tgt := 75) X dX4_textRule_69 (by decide) (fun c7 => ?_) (fun c7 => ?_)
      · replace h := if_f c7 h
        refine x_aload_n X dX4_textRule_75 rfl 0 rfl ?_
        refine x_aload_n X dX4_textRule_76 rfl 0 rfl ?_
        refine x_iload_n X dX4_textRule_77 rfl 1 rfl ?_
        obtain ⟨q8, e8, h⟩ := bd h
        refine x_callR X [.int p0] [.ref (g.1 4)] (c_X4_second K.l K.D g p0 u q8 e8) ok_X4_second m_X4_80 4 rfl rfl rfl rfl (Nat.le_of_ble_eq_true rfl) ⟨Nat.zero_le _, Nat.zero_le _⟩ ⟨rfl, rfl, by decide, by decide⟩ dX4_textRule_78 ?_
        obtain ⟨q9, e9, h⟩ := bd h
        refine x_callR X [.int q8] [] (c_X4_isMethodType K.l K.D g q8 u q9 e9) ok_X4_isMethodType m_X4_99 4 rfl rfl rfl rfl (Nat.le_of_ble_eq_true rfl) ⟨Nat.zero_le _, Nat.zero_le _⟩ ⟨rfl, rfl, by decide, by decide⟩ dX4_textRule_81 ?_
        refine x_if_eq (tgt := 91) X dX4_textRule_84 (by decide) (fun c10 => ?_) (fun c10 => ?_)
        · replace h := if_t c10 h
          refine x_bipush (v := 10) X dX4_textRule_91 (by decide) ?_
          refine x_sub [] rfl ?_
          exact w_X4_textRule_j93 ret X 10 u h
        · replace h := if_f c10 h
          refine x_iconst (v := 0) X dX4_textRule_87 (by decide) ?_
          refine x_goto (tgt := 93) X dX4_textRule_88 (by decide) ?_
          refine x_sub [] rfl ?_
          exact w_X4_textRule_j93 ret X 0 u h
      · replace h := if_t c7 h
        refine x_bipush (v := 9) X dX4_textRule_72 (by decide) ?_
        exact x_iret X (roE (Option.some.inj h)) dX4_textRule_74
    · replace h := if_f c4 h
      refine x_iconst (v := 0) X dX4_textRule_58 (by decide) ?_
      exact x_iret X (roE (Option.some.inj h)) dX4_textRule_59
  · replace h := if_t c2 h
    refine x_aload_n X dX4_textRule_11 rfl 0 rfl ?_
    refine x_iload_n X dX4_textRule_12 rfl 1 rfl ?_
    obtain ⟨q11, e11, h⟩ := bd h
    refine x_callR X [.int p0] [] (c_X4_first K.l K.D g p0 u q11 e11) ok_X4_first m_X4_74 4 rfl rfl rfl rfl (Nat.le_of_ble_eq_true rfl) ⟨Nat.zero_le _, Nat.zero_le _⟩ ⟨rfl, rfl, by decide, by decide⟩ dX4_textRule_13 ?_
    refine x_istore_n (lv2 := [(2, .int q11), (0, .ref (g.1 4)), (1, .int p0)]) X dX4_textRule_16 rfl (by decide) rfl ?_
    refine x_aload_n X dX4_textRule_17 rfl 1 rfl ?_
    refine x_get (v := .ref (g.1 1)) X 4 0 in_X4 rfl rfl (by decide) m_X4_30 rfl dX4_textRule_18 ?_
    refine x_get (v := .ref (g.1 8)) X 1 0 in_X1 rfl rfl (by decide) m_X4_53 rfl dX4_textRule_21 ?_
    refine x_aload_n X dX4_textRule_24 rfl 1 rfl ?_
    refine x_iload_n X dX4_textRule_25 rfl 0 rfl ?_
    obtain ⟨q12, e12, h⟩ := bd h
    refine x_callR X [.int q11] [.ref (g.1 8)] (c_X4_textStart K.l K.D g q11 u q12 e12) ok_X4_textStart m_X4_86 4 rfl rfl rfl rfl (Nat.le_of_ble_eq_true rfl) ⟨Nat.zero_le _, Nat.zero_le _⟩ ⟨rfl, rfl, by decide, by decide⟩ dX4_textRule_26 ?_
    refine x_aload_n X dX4_textRule_29 rfl 1 rfl ?_
    refine x_iload_n X dX4_textRule_30 rfl 0 rfl ?_
    obtain ⟨q13, e13, h⟩ := bd h
    refine x_callR X [.int q11] [.int q12, .ref (g.1 8)] (c_X4_textEnd K.l K.D g q11 u q13 e13) ok_X4_textEnd m_X4_89 4 rfl rfl rfl rfl (Nat.le_of_ble_eq_true rfl) ⟨Nat.zero_le _, Nat.zero_le _⟩ ⟨rfl, rfl, by decide, by decide⟩ dX4_textRule_31 ?_
    obtain ⟨q14, e14, h⟩ := bd h
    refine x_scallR X [.ref (g.1 8), .int q12, .int q13] [] (c_X3_isClassName K.l K.D g q12 q13 u q14 e14) ok_X3_isClassName m_X4_92 rfl rfl (Nat.le_of_ble_eq_true rfl) ⟨Nat.zero_le _, Nat.zero_le _⟩ ⟨rfl, rfl, by decide, by decide⟩ dX4_textRule_34 ?_
    refine x_if_eq (tgt := 44) X dX4_textRule_37 (by decide) (fun c15 => ?_) (fun c15 => ?_)
    · replace h := if_t c15 h
      refine x_bipush (v := 9) X dX4_textRule_44 (by decide) ?_
      refine x_sub [] rfl ?_
      exact w_X4_textRule_j46 ret X 9 u h
    · replace h := if_f c15 h
      refine x_iconst (v := 0) X dX4_textRule_40 (by decide) ?_
      refine x_goto (tgt := 46) X dX4_textRule_41 (by decide) ?_
      refine x_sub [] rfl ?_
      exact w_X4_textRule_j46 ret X 0 u h
abbrev H_X4_judgeTexts_2 (K : Cx) (g : Gw) (ret : Int32 × St) (a : Int32 × St) : Prop := XW K 0 0 3 (QI K g (wdX g) ret) (wdX g) a.2 2 [(0, .ref (g.1 4)), (1, .int a.1)] []
abbrev E_X4_judgeTexts_2 (K : Cx) (g : Gw) (ret : Int32 × St) (q : (Int32 × St) ⊕ (St)) : Prop := Sum.elim (fun q => q = ret) (fun q => XW K 0 0 3 (QI K g (wdX g) ret) (wdX g) q 41 [] []) q
set_option maxRecDepth 100000 in
set_option maxHeartbeats 4000000 in
theorem w_X4_judgeTexts_b2 {K : Cx} {g : Gw} (ret : Int32 × St) (X : XC K g cX4_judgeTexts 3 RX4 (some .boolean) rm_X4_judgeTexts) (a : Int32 × St) (r : ((Int32 × St) ⊕ (St)) ⊕ (Int32 × St)) (h : f_X4_judgeTexts_b2 a = some r) (k0 : ∀ q, r = .inl q → E_X4_judgeTexts_2 K g ret q) (k1 : ∀ q, r = .inr q → H_X4_judgeTexts_2 K g ret q) : H_X4_judgeTexts_2 K g ret a := by
  unfold f_X4_judgeTexts_b2 at h
  show XW K 0 0 3 (QI K g (wdX g) ret) (wdX g) a.2 2 [(0, .ref (g.1 4)), (1, .int a.1)] []
  refine x_iload_n X dX4_judgeTexts_2 rfl 1 rfl ?_
  refine x_aload_n X dX4_judgeTexts_3 rfl 0 rfl ?_
  refine x_get (v := .int (a.2 8 0)) X 4 4 in_X4 rfl rfl (by decide) m_X4_31 rfl dX4_judgeTexts_4 ?_
  refine x_icmp_gt (tgt := 41) X dX4_judgeTexts_7 (by decide) (fun c1 => ?_) (fun c1 => ?_)
  · replace h := if_t c1 h
    refine x_sub [] rfl ?_
    have h9 := k0 _ (Option.some.inj h).symm
    exact h9
  · replace h := if_f c1 h
    refine x_aload_n X dX4_judgeTexts_10 rfl 0 rfl ?_
    refine x_iload_n X dX4_judgeTexts_11 rfl 1 rfl ?_
    obtain ⟨q2, e2, h⟩ := bd h
    refine x_callR X [.int a.1] [] (c_X4_textRule K.l K.D g a.1 a.2 q2 e2) ok_X4_textRule m_X4_83 4 rfl rfl rfl rfl (Nat.le_of_ble_eq_true rfl) ⟨Nat.zero_le _, Nat.zero_le _⟩ ⟨rfl, rfl, by decide, by decide⟩ dX4_judgeTexts_12 ?_
    refine x_istore_n (lv2 := [(2, .int q2), (0, .ref (g.1 4)), (1, .int a.1)]) X dX4_judgeTexts_15 rfl (by decide) rfl ?_
    refine x_iload_n X dX4_judgeTexts_16 rfl 0 rfl ?_
    refine x_if_eq (tgt := 35) X dX4_judgeTexts_17 (by decide) (fun c3 => ?_) (fun c3 => ?_)
    · replace h := if_t c3 h
      refine x_iinc (v := (a.1 + 1)) (lv2 := [(1, .int (a.1 + 1)), (2, .int q2), (0, .ref (g.1 4))]) X dX4_judgeTexts_35 2 rfl rfl (by decide) rfl ?_
      refine x_goto (tgt := 2) X dX4_judgeTexts_38 (by decide) ?_
      refine x_sub [2, 0] rfl ?_
      have h9 := k1 _ (Option.some.inj h).symm
      exact h9
    · replace h := if_f c3 h
      refine x_aload_n X dX4_judgeTexts_20 rfl 1 rfl ?_
      refine x_get (v := .ref (g.1 3)) X 4 1 in_X4 rfl rfl (by decide) m_X4_20 rfl dX4_judgeTexts_21 ?_
      refine x_iload_n X dX4_judgeTexts_24 rfl 0 rfl ?_
      refine x_aload_n X dX4_judgeTexts_25 rfl 1 rfl ?_
      refine x_get (v := .ref (g.1 12)) X 4 3 in_X4 rfl rfl (by decide) m_X4_17 rfl dX4_judgeTexts_26 ?_
      refine x_iload_n X dX4_judgeTexts_29 rfl 2 rfl ?_
      obtain ⟨i4, h⟩ := chk_some h
      refine x_iald (f := (a.2 26)) X 12 0 rfl rfl i4 dX4_judgeTexts_30 ?_
      obtain ⟨q5, e5, h⟩ := bd h
      refine x_callI X [.int q2, .int ((a.2 26) (Int32.toNatClampNeg a.1))] [] (c_X5_broken K.l K.D g q2 ((a.2 26) (Int32.toNatClampNeg a.1)) a.2 q5 e5) ok_X5_broken m_X4_46 3 rfl rfl rfl rfl (Nat.le_of_ble_eq_true rfl) ⟨Nat.zero_le _, Nat.zero_le _⟩ ⟨rfl, rfl, by decide, by decide⟩ dX4_judgeTexts_31 ?_
      obtain ⟨b6, h⟩ := bchk_some h
      exact x_zret X b6 (k0 _ (Option.some.inj h).symm) dX4_judgeTexts_34
set_option maxRecDepth 100000 in
set_option maxHeartbeats 4000000 in
theorem c_X4_judgeTexts (l : Launch) (D : va_G) (g : Gw) (u : St) (ret : Int32 × St) (h : f_X4_judgeTexts u = some ret) : metI l D g (wdX g) yX4_judgeTexts cX4_judgeTexts 3 .boolean rm_X4_judgeTexts [.ref (g.1 4)] u ret := by
  refine metI_of (own := RX4) (lv := [(0, .ref (g.1 4))]) (by decide) rfl rfl (Nat.le_of_ble_eq_true rfl) (fun K hl9 hD9 X => ?_)
  subst hl9
  subst hD9
  unfold f_X4_judgeTexts at h
  refine x_iconst (v := 1) X dX4_judgeTexts_0 (by decide) ?_
  refine x_istore_n (lv2 := [(1, .int 1), (0, .ref (g.1 4))]) X dX4_judgeTexts_1 rfl (by decide) rfl ?_
  refine x_sub [1, 0] rfl ?_
  obtain ⟨q70, e7, h⟩ := bd h
  refine loopF_w (WH := H_X4_judgeTexts_2 K g ret) (KB := E_X4_judgeTexts_2 K g ret) (fun a9 r9 h9 k8 k7 => w_X4_judgeTexts_b2 ret X a9 r9 h9 k8 k7) FU (1, u) q70 e7 ?_
  rcases q70 with q7 | q7
  · replace h := sl h
    exact (Option.some.inj h)
  · replace h := sr h
    show XW K 0 0 3 (QI K g (wdX g) ret) (wdX g) q7 41 [] []
    refine x_iconst (v := 1) X dX4_judgeTexts_41 (by decide) ?_
    exact x_zret X rfl (Option.some.inj h) dX4_judgeTexts_42
set_option maxRecDepth 100000 in
set_option maxHeartbeats 4000000 in
theorem w_X2_classFlagsFit_j54 {K : Cx} {g : Gw} (ret : Int32) (X : XC K g cX2_classFlagsFit 3 RX2 (some .boolean) rm_X2_classFlagsFit) (z0 : Int32) (u : St) (h : f_X2_classFlagsFit_j54 z0 u = some ret) : XW K 0 0 3 (QI K g (wdX g) (ret, u)) (wdX g) u 54 [] [.int z0] := by
  unfold f_X2_classFlagsFit_j54 at h
  obtain ⟨b5, h⟩ := bchk_some h
  exact x_zret X b5 (roE (Option.some.inj h)) dX2_classFlagsFit_54
set_option maxRecDepth 100000 in
set_option maxHeartbeats 4000000 in
theorem w_X2_classFlagsFit_j49 {K : Cx} {g : Gw} (ret : Int32) (X : XC K g cX2_classFlagsFit 3 RX2 (some .boolean) rm_X2_classFlagsFit) (u : St) (h : f_X2_classFlagsFit_j49 u = some ret) : XW K 0 0 3 (QI K g (wdX g) (ret, u)) (wdX g) u 49 [] [] := by
  unfold f_X2_classFlagsFit_j49 at h
  refine x_iconst (v := 1) X dX2_classFlagsFit_49 (by decide) ?_
  refine x_goto (tgt := 54) X dX2_classFlagsFit_50 (by decide) ?_
  exact w_X2_classFlagsFit_j54 ret X 1 u h
set_option maxRecDepth 100000 in
set_option maxHeartbeats 4000000 in
theorem w_X2_classFlagsFit_j41 {K : Cx} {g : Gw} (ret : Int32) (X : XC K g cX2_classFlagsFit 3 RX2 (some .boolean) rm_X2_classFlagsFit) (x1 : Int32) (x2 : Int32) (u : St) (h : f_X2_classFlagsFit_j41 x1 x2 u = some ret) : XW K 0 0 3 (QI K g (wdX g) (ret, u)) (wdX g) u 41 [(1, .int x1), (2, .int x2)] [] := by
  unfold f_X2_classFlagsFit_j41 at h
  refine x_iload_n X dX2_classFlagsFit_41 rfl 0 rfl ?_
  refine x_if_eq (tgt := 49) X dX2_classFlagsFit_42 (by decide) (fun c4 => ?_) (fun c4 => ?_)
  · replace h := if_t c4 h
    refine x_sub [] rfl ?_
    exact w_X2_classFlagsFit_j49 ret X u h
  · replace h := if_f c4 h
    refine x_iload_n X dX2_classFlagsFit_45 rfl 1 rfl ?_
    refine x_if_ne (tgt := 53) X dX2_classFlagsFit_46 (by decide) (fun c6 => ?_) (fun c6 => ?_)
    · replace h := if_f c6 h
      refine x_iconst (v := 0) X dX2_classFlagsFit_53 (by decide) ?_
      refine x_sub [] rfl ?_
      exact w_X2_classFlagsFit_j54 ret X 0 u h
    · replace h := if_t c6 h
      refine x_sub [] rfl ?_
      exact w_X2_classFlagsFit_j49 ret X u h
set_option maxRecDepth 100000 in
set_option maxHeartbeats 4000000 in
theorem w_X2_classFlagsFit_j26 {K : Cx} {g : Gw} (ret : Int32) (X : XC K g cX2_classFlagsFit 3 RX2 (some .boolean) rm_X2_classFlagsFit) (x0 : Int32) (x1 : Int32) (z0 : Int32) (u : St) (h : f_X2_classFlagsFit_j26 x0 x1 z0 u = some ret) : XW K 0 0 3 (QI K g (wdX g) (ret, u)) (wdX g) u 26 [(0, .int x0), (1, .int x1)] [.int z0] := by
  unfold f_X2_classFlagsFit_j26 at h
  refine x_istore_n (lv2 := [(2, .int z0), (0, .int x0), (1, .int x1)]) X dX2_classFlagsFit_26 rfl (by decide) rfl ?_
  refine x_iload_n X dX2_classFlagsFit_27 rfl 1 rfl ?_
  refine x_sipush (v := 512) X dX2_classFlagsFit_28 (by decide) ?_
  refine x_iand X dX2_classFlagsFit_31 ?_
  refine x_if_eq (tgt := 41) X dX2_classFlagsFit_32 (by decide) (fun c3 => ?_) (fun c3 => ?_)
  · replace h := if_t c3 h
    refine x_sub [2, 0] rfl ?_
    exact w_X2_classFlagsFit_j41 ret X x1 z0 u h
  · replace h := if_f c3 h
    refine x_iload_n X dX2_classFlagsFit_35 rfl 2 rfl ?_
    refine x_if_ne (tgt := 41) X dX2_classFlagsFit_36 (by decide) (fun c7 => ?_) (fun c7 => ?_)
    · replace h := if_f c7 h
      refine x_sub [2, 0] rfl ?_
      exact w_X2_classFlagsFit_j41 ret X x1 z0 u h
    · replace h := if_t c7 h
      refine x_iconst (v := 0) X dX2_classFlagsFit_39 (by decide) ?_
      exact x_zret X rfl (roE (Option.some.inj h)) dX2_classFlagsFit_40
set_option maxRecDepth 100000 in
set_option maxHeartbeats 4000000 in
theorem w_X2_classFlagsFit_j13 {K : Cx} {g : Gw} (ret : Int32) (X : XC K g cX2_classFlagsFit 3 RX2 (some .boolean) rm_X2_classFlagsFit) (x0 : Int32) (z0 : Int32) (u : St) (h : f_X2_classFlagsFit_j13 x0 z0 u = some ret) : XW K 0 0 3 (QI K g (wdX g) (ret, u)) (wdX g) u 13 [(0, .int x0)] [.int z0] := by
  unfold f_X2_classFlagsFit_j13 at h
  refine x_istore_n (lv2 := [(1, .int z0), (0, .int x0)]) X dX2_classFlagsFit_13 rfl (by decide) rfl ?_
  refine x_iload_n X dX2_classFlagsFit_14 rfl 1 rfl ?_
  refine x_bipush (v := 16) X dX2_classFlagsFit_15 (by decide) ?_
  refine x_iand X dX2_classFlagsFit_17 ?_
  refine x_if_eq (tgt := 25) X dX2_classFlagsFit_18 (by decide) (fun c2 => ?_) (fun c2 => ?_)
  · replace h := if_t c2 h
    refine x_iconst (v := 0) X dX2_classFlagsFit_25 (by decide) ?_
    refine x_sub [1, 0] rfl ?_
    exact w_X2_classFlagsFit_j26 ret X x0 z0 0 u h
  · replace h := if_f c2 h
    refine x_iconst (v := 1) X dX2_classFlagsFit_21 (by decide) ?_
    refine x_goto (tgt := 26) X dX2_classFlagsFit_22 (by decide) ?_
    refine x_sub [1, 0] rfl ?_
    exact w_X2_classFlagsFit_j26 ret X x0 z0 1 u h
set_option maxRecDepth 100000 in
set_option maxHeartbeats 4000000 in
theorem c_X2_classFlagsFit (l : Launch) (D : va_G) (g : Gw) (p0 : Int32) (u : St) (ret : Int32) (h : f_X2_classFlagsFit p0 u = some ret) : metI l D g (wdX g) yX2_classFlagsFit cX2_classFlagsFit 3 .boolean rm_X2_classFlagsFit [.int p0] u (ret, u) := by
  refine metI_of (own := RX2) (lv := [(0, .int p0)]) (by decide) rfl rfl (Nat.le_of_ble_eq_true rfl) (fun K hl9 hD9 X => ?_)
  subst hl9
  subst hD9
  unfold f_X2_classFlagsFit at h
  refine x_iload_n X dX2_classFlagsFit_0 rfl 0 rfl ?_
  refine x_sipush (v := 1024) X dX2_classFlagsFit_1 (by decide) ?_
  refine x_iand X dX2_classFlagsFit_4 ?_
  refine x_if_eq (tgt := 12) X dX2_classFlagsFit_5 (by decide) (fun c1 => ?_) (fun c1 => ?_)
  · replace h := if_t c1 h
    refine x_iconst (v := 0) X dX2_classFlagsFit_12 (by decide) ?_
    exact w_X2_classFlagsFit_j13 ret X p0 0 u h
  · replace h := if_f c1 h
    refine x_iconst (v := 1) X dX2_classFlagsFit_8 (by decide) ?_
    refine x_goto (tgt := 13) X dX2_classFlagsFit_9 (by decide) ?_
    exact w_X2_classFlagsFit_j13 ret X p0 1 u h
