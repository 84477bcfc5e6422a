abbrev H_X3_firstNoCharacter_2 (x2 : Int32) (K : Cx) (g : Gw) (u : St) (ret : Int32) (a : Int32) : Prop := XW K 0 0 6 (QI K g (wdX g) (ret, u)) (wdX g) u 2 [(0, .ref (g.1 8)), (2, .int x2), (3, .int a)] []
abbrev E_X3_firstNoCharacter_2 (x2 : Int32) (K : Cx) (g : Gw) (u : St) (ret : Int32) (q : (Int32) ⊕ (Unit)) : Prop := Sum.elim (fun q => q = ret) (fun q => XW K 0 0 6 (QI K g (wdX g) (ret, u)) (wdX g) u 80 [] []) q
set_option maxRecDepth 100000 in
set_option maxHeartbeats 4000000 in
theorem w_X3_firstNoCharacter_j28_2 {K : Cx} {g : Gw} (ret : Int32) (X : XC K g cX3_firstNoCharacter 6 RX3 (some .int) rm_X3_firstNoCharacter) (x2 : Int32) (x3 : Int32) (u : St) (r : ((Int32) ⊕ (Unit)) ⊕ (Int32)) (h : f_X3_firstNoCharacter_j28_2 x2 x3 u = some r) (k0 : ∀ q, r = .inl q → E_X3_firstNoCharacter_2 x2 K g u ret q) (k1 : ∀ q, r = .inr q → H_X3_firstNoCharacter_2 x2 K g u ret q) : XW K 0 0 6 (QI K g (wdX g) (ret, u)) (wdX g) u 28 [(2, .int x2), (3, .int x3)] [] := by
  unfold f_X3_firstNoCharacter_j28_2 at h
  refine x_iload_n X dX3_firstNoCharacter_28 rfl 1 rfl ?_
  exact x_iret X (roE (k0 _ (Option.some.inj h).symm)) dX3_firstNoCharacter_29
abbrev H_X3_firstNoCharacter_35 (x2 : Int32) (x3 : Int32) (x4 : Int32) (K : Cx) (g : Gw) (u : St) (ret : Int32) (a : Int32) : Prop := XW K 0 0 6 (QI K g (wdX g) (ret, u)) (wdX g) u 35 [(0, .ref (g.1 8)), (2, .int x2), (3, .int x3), (4, .int x4), (5, .int a)] []
abbrev E_X3_firstNoCharacter_35 (x2 : Int32) (x3 : Int32) (x4 : Int32) (K : Cx) (g : Gw) (u : St) (ret : Int32) (q : (Int32) ⊕ (Unit)) : Prop := Sum.elim (fun q => q = ret) (fun q => XW K 0 0 6 (QI K g (wdX g) (ret, u)) (wdX g) u 72 [(0, .ref (g.1 8)), (2, .int x2), (3, .int x3), (4, .int x4)] []) q
set_option maxRecDepth 100000 in
set_option maxHeartbeats 4000000 in
theorem w_X3_firstNoCharacter_j64_35 {K : Cx} {g : Gw} (ret : Int32) (X : XC K g cX3_firstNoCharacter 6 RX3 (some .int) rm_X3_firstNoCharacter) (x2 : Int32) (x3 : Int32) (x4 : Int32) (u : St) (r : ((Int32) ⊕ (Unit)) ⊕ (Int32)) (h : f_X3_firstNoCharacter_j64_35 x2 x3 x4 u = some r) (k0 : ∀ q, r = .inl q → E_X3_firstNoCharacter_35 x2 x3 x4 K g u ret q) (k1 : ∀ q, r = .inr q → H_X3_firstNoCharacter_35 x2 x3 x4 K g u ret q) : XW K 0 0 6 (QI K g (wdX g) (ret, u)) (wdX g) u 64 [(2, .int x2), (3, .int x3), (4, .int x4)] [] := by
  unfold f_X3_firstNoCharacter_j64_35 at h
  refine x_iload_n X dX3_firstNoCharacter_64 rfl 1 rfl ?_
  exact x_iret X (roE (k0 _ (Option.some.inj h).symm)) dX3_firstNoCharacter_65
set_option maxRecDepth 100000 in
set_option maxHeartbeats 4000000 in
theorem w_X3_firstNoCharacter_b35 {K : Cx} {g : Gw} (x2 : Int32) (x3 : Int32) (x4 : Int32) (u : St) (ret : Int32) (X : XC K g cX3_firstNoCharacter 6 RX3 (some .int) rm_X3_firstNoCharacter) (a : Int32) (r : ((Int32) ⊕ (Unit)) ⊕ (Int32)) (h : f_X3_firstNoCharacter_b35 x2 x3 x4 u a = some r) (k0 : ∀ q, r = .inl q → E_X3_firstNoCharacter_35 x2 x3 x4 K g u ret q) (k1 : ∀ q, r = .inr q → H_X3_firstNoCharacter_35 x2 x3 x4 K g u ret q) : H_X3_firstNoCharacter_35 x2 x3 x4 K g u ret a := by
  unfold f_X3_firstNoCharacter_b35 at h
  show XW K 0 0 6 (QI K g (wdX g) (ret, u)) (wdX g) u 35 [(0, .ref (g.1 8)), (2, .int x2), (3, .int x3), (4, .int x4), (5, .int a)] []
  refine x_iload X dX3_firstNoCharacter_35 4 rfl ?_
  refine x_iload_n X dX3_firstNoCharacter_37 rfl 2 rfl ?_
  refine x_iload X dX3_firstNoCharacter_38 3 rfl ?_
  refine x_iadd X dX3_firstNoCharacter_40 ?_
  refine x_icmp_ge (tgt := 72) X dX3_firstNoCharacter_41 (by decide) (fun c6 => ?_) (fun c6 => ?_)
  · replace h := if_t c6 h
    refine x_sub [0, 1, 2, 3] rfl ?_
    have h9 := k0 _ (Option.some.inj h).symm
    exact h9
  · replace h := if_f c6 h
    refine x_aload_n X dX3_firstNoCharacter_44 rfl 0 rfl ?_
    refine x_iload X dX3_firstNoCharacter_45 4 rfl ?_
    obtain ⟨i7, h⟩ := chk_some h
    refine x_iald (f := (u 22)) X 8 0 rfl rfl i7 dX3_firstNoCharacter_47 ?_
    refine x_sipush (v := 128) X dX3_firstNoCharacter_48 (by decide) ?_
    refine x_icmp_lt (tgt := 64) X dX3_firstNoCharacter_51 (by decide) (fun c8 => ?_) (fun c8 => ?_)
    · replace h := if_t c8 h
      refine x_sub [1, 2, 3] rfl ?_
      exact w_X3_firstNoCharacter_j64_35 ret X x2 x3 x4 u r h k0 k1
    · replace h := if_f c8 h
      refine x_aload_n X dX3_firstNoCharacter_54 rfl 0 rfl ?_
      refine x_iload X dX3_firstNoCharacter_55 4 rfl ?_
      obtain ⟨i9, h⟩ := chk_some h
      refine x_iald (f := (u 22)) X 8 0 rfl rfl i9 dX3_firstNoCharacter_57 ?_
      refine x_sipush (v := 191) X dX3_firstNoCharacter_58 (by decide) ?_
      refine x_icmp_le (tgt := 66) X dX3_firstNoCharacter_61 (by decide) (fun c10 => ?_) (fun c10 => ?_)
      · replace h := if_t c10 h
        refine x_iinc (v := (a + 1)) (lv2 := [(5, .int (a + 1)), (0, .ref (g.1 8)), (2, .int x2), (3, .int x3), (4, .int x4)]) X dX3_firstNoCharacter_66 4 rfl rfl (by decide) rfl ?_
        refine x_goto (tgt := 35) X dX3_firstNoCharacter_69 (by decide) ?_
        refine x_sub [1, 2, 3, 4, 0] rfl ?_
        have h9 := k1 _ (Option.some.inj h).symm
        exact h9
      · replace h := if_f c10 h
        refine x_sub [1, 2, 3] rfl ?_
        exact w_X3_firstNoCharacter_j64_35 ret X x2 x3 x4 u r h k0 k1
set_option maxRecDepth 100000 in
set_option maxHeartbeats 4000000 in
theorem w_X3_firstNoCharacter_b2 {K : Cx} {g : Gw} (x2 : Int32) (u : St) (ret : Int32) (X : XC K g cX3_firstNoCharacter 6 RX3 (some .int) rm_X3_firstNoCharacter) (a : Int32) (r : ((Int32) ⊕ (Unit)) ⊕ (Int32)) (h : f_X3_firstNoCharacter_b2 x2 u a = some r) (k0 : ∀ q, r = .inl q → E_X3_firstNoCharacter_2 x2 K g u ret q) (k1 : ∀ q, r = .inr q → H_X3_firstNoCharacter_2 x2 K g u ret q) : H_X3_firstNoCharacter_2 x2 K g u ret a := by
  unfold f_X3_firstNoCharacter_b2 at h
  show XW K 0 0 6 (QI K g (wdX g) (ret, u)) (wdX g) u 2 [(0, .ref (g.1 8)), (2, .int x2), (3, .int a)] []
  refine x_iload_n X dX3_firstNoCharacter_2 rfl 2 rfl ?_
  refine x_iload_n X dX3_firstNoCharacter_3 rfl 1 rfl ?_
  refine x_icmp_ge (tgt := 80) X dX3_firstNoCharacter_4 (by decide) (fun c1 => ?_) (fun c1 => ?_)
  · replace h := if_t c1 h
    refine x_sub [] rfl ?_
    have h9 := k0 _ (Option.some.inj h).symm
    exact h9
  · replace h := if_f c1 h
    refine x_aload_n X dX3_firstNoCharacter_7 rfl 0 rfl ?_
    refine x_iload_n X dX3_firstNoCharacter_8 rfl 2 rfl ?_
    obtain ⟨i2, h⟩ := chk_some h
    refine x_iald (f := (u 22)) X 8 0 rfl rfl i2 dX3_firstNoCharacter_9 ?_
    obtain ⟨q3, e3, h⟩ := bd h
    refine x_scallR X [.int ((u 22) (Int32.toNatClampNeg a))] [] (c_X3_characterSize K.l K.D g ((u 22) (Int32.toNatClampNeg a)) u q3 e3) ok_X3_characterSize m_X3_44 rfl rfl (Nat.le_of_ble_eq_true rfl) ⟨Nat.zero_le _, Nat.zero_le _⟩ ⟨rfl, rfl, by decide, by decide⟩ dX3_firstNoCharacter_10 ?_
    refine x_istore (lv2 := [(4, .int q3), (0, .ref (g.1 8)), (2, .int x2), (3, .int a)]) X dX3_firstNoCharacter_13 (by decide) rfl ?_
    refine x_iload X dX3_firstNoCharacter_15 0 rfl ?_
    refine x_if_eq (tgt := 28) X dX3_firstNoCharacter_17 (by decide) (fun c4 => ?_) (fun c4 => ?_)
    · replace h := if_t c4 h
      refine x_sub [2, 3] rfl ?_
      exact w_X3_firstNoCharacter_j28_2 ret X x2 a u r h k0 k1
    · replace h := if_f c4 h
      refine x_iload X dX3_firstNoCharacter_20 0 rfl ?_
      refine x_iload_n X dX3_firstNoCharacter_22 rfl 2 rfl ?_
      refine x_iload_n X dX3_firstNoCharacter_23 rfl 3 rfl ?_
      refine x_isub X dX3_firstNoCharacter_24 ?_
      refine x_icmp_le (tgt := 30) X dX3_firstNoCharacter_25 (by decide) (fun c5 => ?_) (fun c5 => ?_)
      · replace h := if_t c5 h
        refine x_iload_n X dX3_firstNoCharacter_30 rfl 3 rfl ?_
        refine x_iconst (v := 1) X dX3_firstNoCharacter_31 (by decide) ?_
        refine x_iadd X dX3_firstNoCharacter_32 ?_
        refine x_istore (lv2 := [(5, .int (a + 1)), (4, .int q3), (0, .ref (g.1 8)), (2, .int x2), (3, .int a)]) X dX3_firstNoCharacter_33 (by decide) rfl ?_
        refine x_sub [2, 3, 4, 1, 0] rfl ?_
        obtain ⟨q110, e11, h⟩ := bd h
        refine loopF_w (WH := H_X3_firstNoCharacter_35 x2 a q3 K g u ret) (KB := E_X3_firstNoCharacter_35 x2 a q3 K g u ret) (fun a9 r9 h9 k8 k7 => w_X3_firstNoCharacter_b35 x2 a q3 u ret X a9 r9 h9 k8 k7) FU (a + 1) q110 e11 ?_
        rcases q110 with q11 | q11
        · replace h := sl h
          exact (k0 _ (Option.some.inj h).symm)
        · replace h := sr h
          show XW K 0 0 6 (QI K g (wdX g) (ret, u)) (wdX g) u 72 [(0, .ref (g.1 8)), (2, .int x2), (3, .int a), (4, .int q3)] []
          refine x_iload_n X dX3_firstNoCharacter_72 rfl 2 rfl ?_
          refine x_iload X dX3_firstNoCharacter_73 3 rfl ?_
          refine x_iadd X dX3_firstNoCharacter_75 ?_
          refine x_istore_n (lv2 := [(3, .int (a + q3)), (0, .ref (g.1 8)), (2, .int x2), (4, .int q3)]) X dX3_firstNoCharacter_76 rfl (by decide) rfl ?_
          refine x_goto (tgt := 2) X dX3_firstNoCharacter_77 (by decide) ?_
          refine x_sub [1, 2, 0] rfl ?_
          have h9 := k1 _ (Option.some.inj h).symm
          exact h9
      · replace h := if_f c5 h
        refine x_sub [2, 3] rfl ?_
        exact w_X3_firstNoCharacter_j28_2 ret X x2 a u r h k0 k1
set_option maxRecDepth 100000 in
set_option maxHeartbeats 4000000 in
theorem c_X3_firstNoCharacter (l : Launch) (D : va_G) (g : Gw) (p1 : Int32) (p2 : Int32) (u : St) (ret : Int32) (h : f_X3_firstNoCharacter p1 p2 u = some ret) : metI l D g (wdX g) yX3_firstNoCharacter cX3_firstNoCharacter 6 .int rm_X3_firstNoCharacter [.ref (g.1 8), .int p1, .int p2] u (ret, u) := by
  refine metI_of (own := RX3) (lv := [(0, .ref (g.1 8)), (1, .int p1), (2, .int p2)]) (by decide) rfl rfl (Nat.le_of_ble_eq_true rfl) (fun K hl9 hD9 X => ?_)
  subst hl9
  subst hD9
  unfold f_X3_firstNoCharacter at h
  refine x_iload_n X dX3_firstNoCharacter_0 rfl 1 rfl ?_
  refine x_istore_n (lv2 := [(3, .int p1), (0, .ref (g.1 8)), (1, .int p1), (2, .int p2)]) X dX3_firstNoCharacter_1 rfl (by decide) rfl ?_
  refine x_sub [1, 3, 0] rfl ?_
  obtain ⟨q120, e12, h⟩ := bd h
  refine loopF_w (WH := H_X3_firstNoCharacter_2 p2 K g u ret) (KB := E_X3_firstNoCharacter_2 p2 K g u ret) (fun a9 r9 h9 k8 k7 => w_X3_firstNoCharacter_b2 p2 u ret X a9 r9 h9 k8 k7) FU p1 q120 e12 ?_
  rcases q120 with q12 | q12
  · replace h := sl h
    exact (Option.some.inj h)
  · replace h := sr h
    show XW K 0 0 6 (QI K g (wdX g) (ret, u)) (wdX g) u 80 [] []
    refine x_iconst (v := (-1)) X dX3_firstNoCharacter_80 (by decide) ?_
    exact x_iret X (roE (Option.some.inj h)) dX3_firstNoCharacter_81
set_option maxRecDepth 100000 in
set_option maxHeartbeats 4000000 in
theorem w_X4_readLetters_j65 {K : Cx} {g : Gw} (ret : Int32 × St) (X : XC K g cX4_readLetters 3 RX4 (some .boolean) rm_X4_readLetters) (z0 : Int32) (u : St) (h : f_X4_readLetters_j65 z0 u = some ret) : XW K 0 0 3 (QI K g (wdX g) ret) (wdX g) u 65 [] [.int z0] := by
  unfold f_X4_readLetters_j65 at h
  obtain ⟨b6, h⟩ := bchk_some h
  exact x_zret X b6 (Option.some.inj h) dX4_readLetters_65
set_option maxRecDepth 100000 in
set_option maxHeartbeats 4000000 in
theorem w_X4_readLetters_j60 {K : Cx} {g : Gw} (ret : Int32 × St) (X : XC K g cX4_readLetters 3 RX4 (some .boolean) rm_X4_readLetters) (u : St) (h : f_X4_readLetters_j60 u = some ret) : XW K 0 0 3 (QI K g (wdX g) ret) (wdX g) u 60 [] [] := by
  unfold f_X4_readLetters_j60 at h
  refine x_iconst (v := 1) X dX4_readLetters_60 (by decide) ?_
  refine x_goto (tgt := 65) X dX4_readLetters_61 (by decide) ?_
  exact w_X4_readLetters_j65 ret X 1 u h
set_option maxRecDepth 100000 in
set_option maxHeartbeats 4000000 in
theorem c_X4_readLetters (l : Launch) (D : va_G) (g : Gw) (p0 : Int32) (u : St) (ret : Int32 × St) (h : f_X4_readLetters p0 u = some ret) : metI l D g (wdX g) yX4_readLetters cX4_readLetters 3 .boolean rm_X4_readLetters [.ref (g.1 4), .int p0] u ret := by
  refine metI_of (own := RX4) (lv := [(0, .ref (g.1 4)), (1, .int p0)]) (by decide) rfl rfl (Nat.le_of_ble_eq_true rfl) (fun K hl9 hD9 X => ?_)
  subst hl9
  subst hD9
  unfold f_X4_readLetters at h
  refine x_aload_n X dX4_readLetters_0 rfl 0 rfl ?_
  refine x_get (v := .ref (g.1 3)) X 4 1 in_X4 rfl rfl (by decide) m_X4_20 rfl dX4_readLetters_1 ?_
  refine x_aload_n X dX4_readLetters_4 rfl 0 rfl ?_
  refine x_get (v := .ref (g.1 1)) X 4 0 in_X4 rfl rfl (by decide) m_X4_30 rfl dX4_readLetters_5 ?_
  refine x_iload_n X dX4_readLetters_8 rfl 1 rfl ?_
  refine x_iconst (v := 1) X dX4_readLetters_9 (by decide) ?_
  refine x_iadd X dX4_readLetters_10 ?_
  obtain ⟨q1, e1, h⟩ := bd h
  refine x_callR X [.int (p0 + 1)] [.ref (g.1 3)] (c_X1_u2 K.l K.D g (p0 + 1) u q1 e1) ok_X1_u2 m_X4_42 1 rfl rfl rfl rfl (Nat.le_of_ble_eq_true rfl) ⟨Nat.zero_le _, Nat.zero_le _⟩ ⟨rfl, rfl, by decide, by decide⟩ dX4_readLetters_11 ?_
  obtain ⟨q2, e2, h⟩ := bd h
  refine x_callI X [.int q1] [] (c_X5_step K.l K.D g q1 u q2 e2) ok_X5_step m_X4_38 3 rfl rfl rfl rfl (Nat.le_of_ble_eq_true rfl) ⟨Nat.zero_le _, Nat.zero_le _⟩ ⟨rfl, rfl, by decide, by decide⟩ dX4_readLetters_14 ?_
  refine x_if_ne (tgt := 22) X dX4_readLetters_17 (by decide) (fun c3 => ?_) (fun c3 => ?_)
  · replace h := if_f c3 h
    refine x_aload_n X dX4_readLetters_22 rfl 0 rfl ?_
    refine x_get (v := .ref (g.1 1)) X 4 0 in_X4 rfl rfl (by decide) m_X4_30 rfl dX4_readLetters_23 ?_
    refine x_get (v := .ref (g.1 8)) X 1 0 in_X1 rfl rfl (by decide) m_X4_53 rfl dX4_readLetters_26 ?_
    refine x_iload_n X dX4_readLetters_29 rfl 1 rfl ?_
    refine x_iconst (v := 3) X dX4_readLetters_30 (by decide) ?_
    refine x_iadd X dX4_readLetters_31 ?_
    refine x_aload_n X dX4_readLetters_32 rfl 0 rfl ?_
    refine x_get (v := .ref (g.1 3)) X 4 1 in_X4 rfl rfl (by decide) m_X4_20 rfl dX4_readLetters_33 ?_
    refine x_get (v := .int (q2.2 4 0)) X 3 3 in_X5 rfl rfl (by decide) m_X4_35 rfl dX4_readLetters_36 ?_
    obtain ⟨q4, e4, h⟩ := bd h
    refine x_scallR X [.ref (g.1 8), .int (p0 + 3), .int (q2.2 4 0)] [] (c_X3_firstNoCharacter K.l K.D g (p0 + 3) (q2.2 4 0) q2.2 q4 e4) ok_X3_firstNoCharacter m_X4_65 rfl rfl (Nat.le_of_ble_eq_true rfl) ⟨Nat.zero_le _, Nat.zero_le _⟩ ⟨rfl, rfl, by decide, by decide⟩ dX4_readLetters_39 ?_
    refine x_istore_n (lv2 := [(2, .int q4), (0, .ref (g.1 4)), (1, .int p0)]) X dX4_readLetters_42 rfl (by decide) rfl ?_
    refine x_iload_n X dX4_readLetters_43 rfl 0 rfl ?_
    refine x_if_lt (tgt := 60) X dX4_readLetters_44 (by decide) (fun c5 => ?_) (fun c5 => ?_)
    · replace h := if_t c5 h
      refine x_sub [] rfl ?_
      exact w_X4_readLetters_j60 ret X q2.2 h
    · replace h := if_f c5 h
      refine x_aload_n X dX4_readLetters_47 rfl 1 rfl ?_
      refine x_get (v := .ref (g.1 3)) X 4 1 in_X4 rfl rfl (by decide) m_X4_20 rfl dX4_readLetters_48 ?_
      refine x_bipush (v := 6) X dX4_readLetters_51 (by decide) ?_
      refine x_iload_n X dX4_readLetters_53 rfl 0 rfl ?_
      obtain ⟨q7, e7, h⟩ := bd h
      refine x_callI X [.int 6, .int q4] [] (c_X5_broken K.l K.D g 6 q4 q2.2 q7 e7) ok_X5_broken m_X4_46 3 rfl rfl rfl rfl (Nat.le_of_ble_eq_true rfl) ⟨Nat.zero_le _, Nat.zero_le _⟩ ⟨rfl, rfl, by decide, by decide⟩ dX4_readLetters_54 ?_
      refine x_if_eq (tgt := 64) X dX4_readLetters_57 (by decide) (fun c8 => ?_) (fun c8 => ?_)
      · replace h := if_t c8 h
        refine x_iconst (v := 0) X dX4_readLetters_64 (by decide) ?_
        refine x_sub [] rfl ?_
        exact w_X4_readLetters_j65 ret X 0 q7.2 h
      · replace h := if_f c8 h
        refine x_sub [] rfl ?_
        exact w_X4_readLetters_j60 ret X q7.2 h
  · replace h := if_t c3 h
    refine x_iconst (v := 0) X dX4_readLetters_20 (by decide) ?_
    exact x_zret X rfl (Option.some.inj h) dX4_readLetters_21
set_option maxRecDepth 100000 in
set_option maxHeartbeats 4000000 in
theorem w_X4_readEntry_j115 {K : Cx} {g : Gw} (ret : Int32 × St) (X : XC K g cX4_readEntry 6 RX4 (some .boolean) rm_X4_readEntry) (z0 : Int32) (u : St) (h : f_X4_readEntry_j115 z0 u = some ret) : XW K 0 0 6 (QI K g (wdX g) ret) (wdX g) u 115 [] [.int z0] := by
  unfold f_X4_readEntry_j115 at h
  obtain ⟨b12, h⟩ := bchk_some h
  exact x_zret X b12 (Option.some.inj h) dX4_readEntry_115
set_option maxRecDepth 100000 in
set_option maxHeartbeats 4000000 in
theorem w_X4_readEntry_j110 {K : Cx} {g : Gw} (ret : Int32 × St) (X : XC K g cX4_readEntry 6 RX4 (some .boolean) rm_X4_readEntry) (u : St) (h : f_X4_readEntry_j110 u = some ret) : XW K 0 0 6 (QI K g (wdX g) ret) (wdX g) u 110 [] [] := by
  unfold f_X4_readEntry_j110 at h
  refine x_iconst (v := 1) X dX4_readEntry_110 (by decide) ?_
  refine x_goto (tgt := 115) X dX4_readEntry_111 (by decide) ?_
  exact w_X4_readEntry_j115 ret X 1 u h
set_option maxRecDepth 100000 in
set_option maxHeartbeats 4000000 in
theorem c_X4_readEntry (l : Launch) (D : va_G) (g : Gw) (p0 : Int32) (p1 : Int32) (u : St) (ret : Int32 × St) (h : f_X4_readEntry p0 p1 u = some ret) : metI l D g (wdX g) yX4_readEntry cX4_readEntry 6 .boolean rm_X4_readEntry [.ref (g.1 4), .int p0, .int p1] u ret := by
  refine metI_of (own := RX4) (lv := [(0, .ref (g.1 4)), (1, .int p0), (2, .int p1)]) (by decide) rfl rfl (Nat.le_of_ble_eq_true rfl) (fun K hl9 hD9 X => ?_)
  subst hl9
  subst hD9
  unfold f_X4_readEntry at h
  refine x_aload_n X dX4_readEntry_0 rfl 0 rfl ?_
  refine x_get (v := .ref (g.1 3)) X 4 1 in_X4 rfl rfl (by decide) m_X4_20 rfl dX4_readEntry_1 ?_
  refine x_get (v := .int (u 4 0)) X 3 3 in_X5 rfl rfl (by decide) m_X4_35 rfl dX4_readEntry_4 ?_
  refine x_istore_n (lv2 := [(3, .int (u 4 0)), (0, .ref (g.1 4)), (1, .int p0), (2, .int p1)]) X dX4_readEntry_7 rfl (by decide) rfl ?_
  refine x_aload_n X dX4_readEntry_8 rfl 1 rfl ?_
  refine x_get (v := .ref (g.1 3)) X 4 1 in_X4 rfl rfl (by decide) m_X4_20 rfl dX4_readEntry_9 ?_
  refine x_iconst (v := 1) X dX4_readEntry_12 (by decide) ?_
  obtain ⟨q1, e1, h⟩ := bd h
  refine x_callI X [.int 1] [] (c_X5_step K.l K.D g 1 u q1 e1) ok_X5_step m_X4_38 3 rfl rfl rfl rfl (Nat.le_of_ble_eq_true rfl) ⟨Nat.zero_le _, Nat.zero_le _⟩ ⟨rfl, rfl, by decide, by decide⟩ dX4_readEntry_13 ?_
  refine x_if_ne (tgt := 21) X dX4_readEntry_16 (by decide) (fun c2 => ?_) (fun c2 => ?_)
  · replace h := if_f c2 h
    refine x_aload_n X dX4_readEntry_21 rfl 1 rfl ?_
    refine x_get (v := .ref (g.1 1)) X 4 0 in_X4 rfl rfl (by decide) m_X4_30 rfl dX4_readEntry_22 ?_
    refine x_get (v := .ref (g.1 8)) X 1 0 in_X1 rfl rfl (by decide) m_X4_53 rfl dX4_readEntry_25 ?_
    refine x_iload_n X dX4_readEntry_28 rfl 0 rfl ?_
    obtain ⟨i3, h⟩ := chk_some h
    refine x_iald (f := (q1.2 22)) X 8 0 rfl rfl i3 dX4_readEntry_29 ?_
    refine x_istore (lv2 := [(4, .int ((q1.2 22) (Int32.toNatClampNeg (u 4 0)))), (3, .int (u 4 0)), (0, .ref (g.1 4)), (1, .int p0), (2, .int p1)]) X dX4_readEntry_30 (by decide) rfl ?_
    refine x_iload X dX4_readEntry_32 0 rfl ?_
    obtain ⟨q4, e4, h⟩ := bd h
    refine x_scallR X [.int ((q1.2 22) (Int32.toNatClampNeg (u 4 0)))] [] (c_X4_fixedSize K.l K.D g ((q1.2 22) (Int32.toNatClampNeg (u 4 0))) q1.2 q4 e4) ok_X4_fixedSize m_X4_56 rfl rfl (Nat.le_of_ble_eq_true rfl) ⟨Nat.zero_le _, Nat.zero_le _⟩ ⟨rfl, rfl, by decide, by decide⟩ dX4_readEntry_34 ?_
    refine x_istore (lv2 := [(5, .int q4), (4, .int ((q1.2 22) (Int32.toNatClampNeg (u 4 0)))), (3, .int (u 4 0)), (0, .ref (g.1 4)), (1, .int p0), (2, .int p1)]) X dX4_readEntry_37 (by decide) rfl ?_
    refine x_iload X dX4_readEntry_39 0 rfl ?_
    refine x_if_ne (tgt := 54) X dX4_readEntry_41 (by decide) (fun c5 => ?_) (fun c5 => ?_)
    · replace h := if_f c5 h
      refine x_aload_n X dX4_readEntry_54 rfl 3 rfl ?_
      refine x_get (v := .ref (g.1 3)) X 4 1 in_X4 rfl rfl (by decide) m_X4_20 rfl dX4_readEntry_55 ?_
      refine x_iload X dX4_readEntry_58 0 rfl ?_
      obtain ⟨q6, e6, h⟩ := bd h
      refine x_callI X [.int q4] [] (c_X5_step K.l K.D g q4 q1.2 q6 e6) ok_X5_step m_X4_38 3 rfl rfl rfl rfl (Nat.le_of_ble_eq_true rfl) ⟨Nat.zero_le _, Nat.zero_le _⟩ ⟨rfl, rfl, by decide, by decide⟩ dX4_readEntry_60 ?_
      refine x_if_ne (tgt := 68) X dX4_readEntry_63 (by decide) (fun c7 => ?_) (fun c7 => ?_)
      · replace h := if_f c7 h
        refine x_aload_n X dX4_readEntry_68 rfl 3 rfl ?_
        refine x_get (v := .ref (g.1 11)) X 4 2 in_X4 rfl rfl (by decide) m_X4_13 rfl dX4_readEntry_69 ?_
        refine x_iload_n X dX4_readEntry_72 rfl 4 rfl ?_
        refine x_iload X dX4_readEntry_73 1 rfl ?_
        obtain ⟨i8, h⟩ := chk_some h
        refine x_iast (f := (q6.2 25)) (u2 := (up q6.2 25 (Int32.toNatClampNeg p0) ((q1.2 22) (Int32.toNatClampNeg (u 4 0))))) X 11 0 rfl rfl i8 (wdX_25 g q6.2 (Int32.toNatClampNeg p0) ((q1.2 22) (Int32.toNatClampNeg (u 4 0)))) dX4_readEntry_75 ?_
        refine x_aload_n X dX4_readEntry_76 rfl 3 rfl ?_
        refine x_get (v := .ref (g.1 12)) X 4 3 in_X4 rfl rfl (by decide) m_X4_17 rfl dX4_readEntry_77 ?_
        refine x_iload_n X dX4_readEntry_80 rfl 4 rfl ?_
        refine x_iload_n X dX4_readEntry_81 rfl 2 rfl ?_
        obtain ⟨i9, h⟩ := chk_some h
        refine x_iast (f := (q6.2 26)) (u2 := (up (up q6.2 25 (Int32.toNatClampNeg p0) ((q1.2 22) (Int32.toNatClampNeg (u 4 0)))) 26 (Int32.toNatClampNeg p0) (u 4 0))) X 12 0 rfl rfl i9 (wdX_26 g (up q6.2 25 (Int32.toNatClampNeg p0) ((q1.2 22) (Int32.toNatClampNeg (u 4 0)))) (Int32.toNatClampNeg p0) (u 4 0)) dX4_readEntry_82 ?_
        refine x_iload X dX4_readEntry_83 1 rfl ?_
        refine x_iconst (v := 1) X dX4_readEntry_85 (by decide) ?_
        refine x_icmp_ne (tgt := 95) X dX4_readEntry_86 (by decide) (fun c10 => ?_) (fun c10 => ?_)
        · replace h := if_f c10 h
          refine x_iload X dX4_readEntry_95 1 rfl ?_
          refine x_iconst (v := 5) X dX4_readEntry_97 (by decide) ?_
          refine x_icmp_ne (tgt := 110) X dX4_readEntry_98 (by decide) (fun c11 => ?_) (fun c11 => ?_)
          · replace h := if_f c11 h
            refine x_sub [] rfl ?_
            exact w_X4_readEntry_j110 ret X (up (up q6.2 25 (Int32.toNatClampNeg p0) ((q1.2 22) (Int32.toNatClampNeg (u 4 0)))) 26 (Int32.toNatClampNeg p0) (u 4 0)) h
          · replace h := if_t c11 h
            refine x_aload_n X dX4_readEntry_101 rfl 3 rfl ?_
            refine x_iload_n X dX4_readEntry_102 rfl 4 rfl ?_
            refine x_iload_n X dX4_readEntry_103 rfl 5 rfl ?_
            obtain ⟨q13, e13, h⟩ := bd h
            refine x_callI X [.int p0, .int p1] [] (c_X4_takeSecondNumber K.l K.D g p0 p1 (up (up q6.2 25 (Int32.toNatClampNeg p0) ((q1.2 22) (Int32.toNatClampNeg (u 4 0)))) 26 (Int32.toNatClampNeg p0) (u 4 0)) q13 e13) ok_X4_takeSecondNumber m_X4_62 4 rfl rfl rfl rfl (Nat.le_of_ble_eq_true rfl) ⟨Nat.zero_le _, Nat.zero_le _⟩ ⟨rfl, rfl, by decide, by decide⟩ dX4_readEntry_104 ?_
            refine x_if_eq (tgt := 114) X dX4_readEntry_107 (by decide) (fun c14 => ?_) (fun c14 => ?_)
            · replace h := if_t c14 h
              refine x_iconst (v := 0) X dX4_readEntry_114 (by decide) ?_
              refine x_sub [] rfl ?_
              exact w_X4_readEntry_j115 ret X 0 q13.2 h
            · replace h := if_f c14 h
              refine x_sub [] rfl ?_
              exact w_X4_readEntry_j110 ret X q13.2 h
        · replace h := if_t c10 h
          refine x_aload_n X dX4_readEntry_89 rfl 3 rfl ?_
          refine x_iload_n X dX4_readEntry_90 rfl 2 rfl ?_
          obtain ⟨q15, e15, h⟩ := bd h
          refine x_callI X [.int (u 4 0)] [] (c_X4_readLetters K.l K.D g (u 4 0) (up (up q6.2 25 (Int32.toNatClampNeg p0) ((q1.2 22) (Int32.toNatClampNeg (u 4 0)))) 26 (Int32.toNatClampNeg p0) (u 4 0)) q15 e15) ok_X4_readLetters m_X4_59 4 rfl rfl rfl rfl (Nat.le_of_ble_eq_true rfl) ⟨Nat.zero_le _, Nat.zero_le _⟩ ⟨rfl, rfl, by decide, by decide⟩ dX4_readEntry_91 ?_
          obtain ⟨b16, h⟩ := bchk_some h
          exact x_zret X b16 (Option.some.inj h) dX4_readEntry_94
      · replace h := if_t c7 h
        refine x_iconst (v := 0) X dX4_readEntry_66 (by decide) ?_
        exact x_zret X rfl (Option.some.inj h) dX4_readEntry_67
    · replace h := if_t c5 h
      refine x_aload_n X dX4_readEntry_44 rfl 3 rfl ?_
      refine x_get (v := .ref (g.1 3)) X 4 1 in_X4 rfl rfl (by decide) m_X4_20 rfl dX4_readEntry_45 ?_
      refine x_iconst (v := 5) X dX4_readEntry_48 (by decide) ?_
      refine x_iload_n X dX4_readEntry_49 rfl 2 rfl ?_
      obtain ⟨q17, e17, h⟩ := bd h
      refine x_callI X [.int 5, .int (u 4 0)] [] (c_X5_broken K.l K.D g 5 (u 4 0) q1.2 q17 e17) ok_X5_broken m_X4_46 3 rfl rfl rfl rfl (Nat.le_of_ble_eq_true rfl) ⟨Nat.zero_le _, Nat.zero_le _⟩ ⟨rfl, rfl, by decide, by decide⟩ dX4_readEntry_50 ?_
      obtain ⟨b18, h⟩ := bchk_some h
      exact x_zret X b18 (Option.some.inj h) dX4_readEntry_53
  · replace h := if_t c2 h
    refine x_iconst (v := 0) X dX4_readEntry_19 (by decide) ?_
    exact x_zret X rfl (Option.some.inj h) dX4_readEntry_20
abbrev H_X4_readEntries_46 (x2 : Int32) (K : Cx) (g : Gw) (ret : Int32 × St) (a : Int32 × St) : Prop := XW K 0 0 4 (QI K g (wdX g) ret) (wdX g) a.2 46 [(0, .ref (g.1 4)), (2, .int x2), (3, .int a.1)] []
abbrev E_X4_readEntries_46 (x2 : Int32) (K : Cx) (g : Gw) (ret : Int32 × St) (q : (Int32 × St) ⊕ (St)) : Prop := Sum.elim (fun q => q = ret) (fun q => XW K 0 0 4 (QI K g (wdX g) ret) (wdX g) q 90 [] []) q
set_option maxRecDepth 100000 in
set_option maxHeartbeats 4000000 in
theorem w_X4_readEntries_j78_46 {K : Cx} {g : Gw} (ret : Int32 × St) (X : XC K g cX4_readEntries 4 RX4 (some .boolean) rm_X4_readEntries) (x2 : Int32) (z0 : Int32) (z1 : Int32) (u : St) (r : ((Int32 × St) ⊕ (St)) ⊕ (Int32 × St)) (h : f_X4_readEntries_j78_46 x2 z0 z1 u = some r) (k0 : ∀ q, r = .inl q → E_X4_readEntries_46 x2 K g ret q) (k1 : ∀ q, r = .inr q → H_X4_readEntries_46 x2 K g ret q) : XW K 0 0 4 (QI K g (wdX g) ret) (wdX g) u 78 [(0, .ref (g.1 4)), (2, .int x2)] [.int z1, .int z0] := by
  unfold f_X4_readEntries_j78_46 at h
  refine x_iadd X dX4_readEntries_78 ?_
  refine x_istore_n (lv2 := [(3, .int (z0 + z1)), (0, .ref (g.1 4)), (2, .int x2)]) X dX4_readEntries_79 rfl (by decide) rfl ?_
  refine x_aload_n X dX4_readEntries_80 rfl 1 rfl ?_
  refine x_iload_n X dX4_readEntries_81 rfl 0 rfl ?_
  refine x_iconst (v := 1) X dX4_readEntries_82 (by decide) ?_
  refine x_isub X dX4_readEntries_83 ?_
  refine x_put (ty := .int) (u2 := (up u 8 0 ((z0 + z1) - 1))) X 4 4 in_X4 tk_X4 nk_X4 rfl rfl (by decide) m_X4_31 rfl rfl rfl rfl (Nat.le_of_ble_eq_true rfl) (wdX_8 g u ((z0 + z1) - 1)) dX4_readEntries_84 ?_
  refine x_goto (tgt := 46) X dX4_readEntries_87 (by decide) ?_
  refine x_sub [1, 2, 0] rfl ?_
  have h9 := k1 _ (Option.some.inj h).symm
  exact h9
set_option maxRecDepth 100000 in
set_option maxHeartbeats 4000000 in
theorem w_X4_readEntries_b46 {K : Cx} {g : Gw} (x2 : Int32) (ret : Int32 × St) (X : XC K g cX4_readEntries 4 RX4 (some .boolean) rm_X4_readEntries) (a : Int32 × St) (r : ((Int32 × St) ⊕ (St)) ⊕ (Int32 × St)) (h : f_X4_readEntries_b46 x2 a = some r) (k0 : ∀ q, r = .inl q → E_X4_readEntries_46 x2 K g ret q) (k1 : ∀ q, r = .inr q → H_X4_readEntries_46 x2 K g ret q) : H_X4_readEntries_46 x2 K g ret a := by
  unfold f_X4_readEntries_b46 at h
  show XW K 0 0 4 (QI K g (wdX g) ret) (wdX g) a.2 46 [(0, .ref (g.1 4)), (2, .int x2), (3, .int a.1)] []
  refine x_iload_n X dX4_readEntries_46 rfl 2 rfl ?_
  refine x_iload_n X dX4_readEntries_47 rfl 1 rfl ?_
  refine x_icmp_ge (tgt := 90) X dX4_readEntries_48 (by decide) (fun c5 => ?_) (fun c5 => ?_)
  · replace h := if_t c5 h
    refine x_sub [] rfl ?_
    have h9 := k0 _ (Option.some.inj h).symm
    exact h9
  · replace h := if_f c5 h
    refine x_aload_n X dX4_readEntries_51 rfl 0 rfl ?_
    refine x_iload_n X dX4_readEntries_52 rfl 2 rfl ?_
    refine x_iload_n X dX4_readEntries_53 rfl 1 rfl ?_
    obtain ⟨q6, e6, h⟩ := bd h
    refine x_callI X [.int a.1, .int x2] [] (c_X4_readEntry K.l K.D g a.1 x2 a.2 q6 e6) ok_X4_readEntry m_X4_50 4 rfl rfl rfl rfl (Nat.le_of_ble_eq_true rfl) ⟨Nat.zero_le _, Nat.zero_le _⟩ ⟨rfl, rfl, by decide, by decide⟩ dX4_readEntries_54 ?_
    refine x_if_ne (tgt := 62) X dX4_readEntries_57 (by decide) (fun c7 => ?_) (fun c7 => ?_)
    · replace h := if_f c7 h
      refine x_iload_n X dX4_readEntries_62 rfl 2 rfl ?_
      refine x_aload_n X dX4_readEntries_63 rfl 0 rfl ?_
      refine x_get (v := .ref (g.1 11)) X 4 2 in_X4 rfl rfl (by decide) m_X4_13 rfl dX4_readEntries_64 ?_
      refine x_iload_n X dX4_readEntries_67 rfl 2 rfl ?_
      obtain ⟨i8, h⟩ := chk_some h
      refine x_iald (f := (q6.2 25)) X 11 0 rfl rfl i8 dX4_readEntries_68 ?_
      refine x_iconst (v := 5) X dX4_readEntries_69 (by decide) ?_
      refine x_icmp_ne (tgt := 77) X dX4_readEntries_70 (by decide) (fun c9 => ?_) (fun c9 => ?_)
      · replace h := if_f c9 h
        refine x_iconst (v := 1) X dX4_readEntries_77 (by decide) ?_
        refine x_sub [0, 1] rfl ?_
        exact w_X4_readEntries_j78_46 ret X x2 a.1 1 q6.2 r h k0 k1
      · replace h := if_t c9 h
        refine x_iconst (v := 2) X dX4_readEntries_73 (by decide) ?_
        refine x_goto (tgt := 78) X dX4_readEntries_74 (by decide) ?_
        refine x_sub [0, 1] rfl ?_
        exact w_X4_readEntries_j78_46 ret X x2 a.1 2 q6.2 r h k0 k1
    · replace h := if_t c7 h
      refine x_iconst (v := 0) X dX4_readEntries_60 (by decide) ?_
      exact x_zret X rfl (k0 _ (Option.some.inj h).symm) dX4_readEntries_61
set_option maxRecDepth 100000 in
set_option maxHeartbeats 4000000 in
theorem c_X4_readEntries (l : Launch) (D : va_G) (g : Gw) (u : St) (ret : Int32 × St) (h : f_X4_readEntries u = some ret) : metI l D g (wdX g) yX4_readEntries cX4_readEntries 4 .boolean rm_X4_readEntries [.ref (g.1 4)] u ret := by
  refine metI_of (own := RX4) (lv := [(0, .ref (g.1 4))]) (by decide) rfl rfl (Nat.le_of_ble_eq_true rfl) (fun K hl9 hD9 X => ?_)
  subst hl9
  subst hD9
  unfold f_X4_readEntries at h
  refine x_aload_n X dX4_readEntries_0 rfl 0 rfl ?_
  refine x_get (v := .ref (g.1 3)) X 4 1 in_X4 rfl rfl (by decide) m_X4_20 rfl dX4_readEntries_1 ?_
  refine x_get (v := .int (u 4 0)) X 3 3 in_X5 rfl rfl (by decide) m_X4_35 rfl dX4_readEntries_4 ?_
  refine x_istore_n (lv2 := [(1, .int (u 4 0)), (0, .ref (g.1 4))]) X dX4_readEntries_7 rfl (by decide) rfl ?_
  refine x_aload_n X dX4_readEntries_8 rfl 1 rfl ?_
  refine x_get (v := .ref (g.1 3)) X 4 1 in_X4 rfl rfl (by decide) m_X4_20 rfl dX4_readEntries_9 ?_
  refine x_iconst (v := 2) X dX4_readEntries_12 (by decide) ?_
  obtain ⟨q1, e1, h⟩ := bd h
  refine x_callI X [.int 2] [] (c_X5_step K.l K.D g 2 u q1 e1) ok_X5_step m_X4_38 3 rfl rfl rfl rfl (Nat.le_of_ble_eq_true rfl) ⟨Nat.zero_le _, Nat.zero_le _⟩ ⟨rfl, rfl, by decide, by decide⟩ dX4_readEntries_13 ?_
  refine x_if_ne (tgt := 21) X dX4_readEntries_16 (by decide) (fun c2 => ?_) (fun c2 => ?_)
  · replace h := if_f c2 h
    refine x_aload_n X dX4_readEntries_21 rfl 1 rfl ?_
    refine x_get (v := .ref (g.1 1)) X 4 0 in_X4 rfl rfl (by decide) m_X4_30 rfl dX4_readEntries_22 ?_
    refine x_iload_n X dX4_readEntries_25 rfl 0 rfl ?_
    obtain ⟨q3, e3, h⟩ := bd h
    refine x_callR X [.int (u 4 0)] [] (c_X1_u2 K.l K.D g (u 4 0) q1.2 q3 e3) ok_X1_u2 m_X4_42 1 rfl rfl rfl rfl (Nat.le_of_ble_eq_true rfl) ⟨Nat.zero_le _, Nat.zero_le _⟩ ⟨rfl, rfl, by decide, by decide⟩ dX4_readEntries_26 ?_
    refine x_istore_n (lv2 := [(2, .int q3), (1, .int (u 4 0)), (0, .ref (g.1 4))]) X dX4_readEntries_29 rfl (by decide) rfl ?_
    refine x_iload_n X dX4_readEntries_30 rfl 0 rfl ?_
    refine x_if_ne (tgt := 44) X dX4_readEntries_31 (by decide) (fun c4 => ?_) (fun c4 => ?_)
    · replace h := if_f c4 h
      refine x_iconst (v := 1) X dX4_readEntries_44 (by decide) ?_
      refine x_istore_n (lv2 := [(3, .int 1), (2, .int q3), (1, .int (u 4 0)), (0, .ref (g.1 4))]) X dX4_readEntries_45 rfl (by decide) rfl ?_
      refine x_sub [3, 1, 0] rfl ?_
      obtain ⟨q100, e10, h⟩ := bd h
      refine loopF_w (WH := H_X4_readEntries_46 q3 K g ret) (KB := E_X4_readEntries_46 q3 K g ret) (fun a9 r9 h9 k8 k7 => w_X4_readEntries_b46 q3 ret X a9 r9 h9 k8 k7) FU (1, q1.2) q100 e10 ?_
      rcases q100 with q10 | q10
      · replace h := sl h
        exact (Option.some.inj h)
      · replace h := sr h
        show XW K 0 0 4 (QI K g (wdX g) ret) (wdX g) q10 90 [] []
        refine x_iconst (v := 1) X dX4_readEntries_90 (by decide) ?_
        exact x_zret X rfl (Option.some.inj h) dX4_readEntries_91
    · replace h := if_t c4 h
      refine x_aload_n X dX4_readEntries_34 rfl 2 rfl ?_
      refine x_get (v := .ref (g.1 3)) X 4 1 in_X4 rfl rfl (by decide) m_X4_20 rfl dX4_readEntries_35 ?_
      refine x_iconst (v := 4) X dX4_readEntries_38 (by decide) ?_
      refine x_iload_n X dX4_readEntries_39 rfl 1 rfl ?_
      obtain ⟨q11, e11, h⟩ := bd h
      refine x_callI X [.int 4, .int (u 4 0)] [] (c_X5_broken K.l K.D g 4 (u 4 0) q1.2 q11 e11) ok_X5_broken m_X4_46 3 rfl rfl rfl rfl (Nat.le_of_ble_eq_true rfl) ⟨Nat.zero_le _, Nat.zero_le _⟩ ⟨rfl, rfl, by decide, by decide⟩ dX4_readEntries_40 ?_
      obtain ⟨b12, h⟩ := bchk_some h
      exact x_zret X b12 (Option.some.inj h) dX4_readEntries_43
  · replace h := if_t c2 h
    refine x_iconst (v := 0) X dX4_readEntries_19 (by decide) ?_
    exact x_zret X rfl (Option.some.inj h) dX4_readEntries_20
set_option maxRecDepth 100000 in
set_option maxHeartbeats 4000000 in
theorem c_X4_first (l : Launch) (D : va_G) (g : Gw) (p0 : Int32) (u : St) (ret : Int32) (h : f_X4_first p0 u = some ret) : metI l D g (wdX g) yX4_first cX4_first 2 .int rm_X4_first [.ref (g.1 4), .int p0] u (ret, u) := by
  refine metI_of (own := RX4) (lv := [(0, .ref (g.1 4)), (1, .int p0)]) (by decide) rfl rfl (Nat.le_of_ble_eq_true rfl) (fun K hl9 hD9 X => ?_)
  subst hl9
  subst hD9
  unfold f_X4_first at h
  refine x_aload_n X dX4_first_0 rfl 0 rfl ?_
  refine x_get (v := .ref (g.1 1)) X 4 0 in_X4 rfl rfl (by decide) m_X4_30 rfl dX4_first_1 ?_
  refine x_aload_n X dX4_first_4 rfl 0 rfl ?_
  refine x_get (v := .ref (g.1 12)) X 4 3 in_X4 rfl rfl (by decide) m_X4_17 rfl dX4_first_5 ?_
  refine x_iload_n X dX4_first_8 rfl 1 rfl ?_
  obtain ⟨i1, h⟩ := chk_some h
  refine x_iald (f := (u 26)) X 12 0 rfl rfl i1 dX4_first_9 ?_
  refine x_iconst (v := 1) X dX4_first_10 (by decide) ?_
  refine x_iadd X dX4_first_11 ?_
  obtain ⟨q2, e2, h⟩ := bd h
  refine x_callR X [.int (((u 26) (Int32.toNatClampNeg p0)) + 1)] [] (c_X1_u2 K.l K.D g (((u 26) (Int32.toNatClampNeg p0)) + 1) u q2 e2) ok_X1_u2 m_X4_42 1 rfl rfl rfl rfl (Nat.le_of_ble_eq_true rfl) ⟨Nat.zero_le _, Nat.zero_le _⟩ ⟨rfl, rfl, by decide, by decide⟩ dX4_first_12 ?_
  exact x_iret X (roE (Option.some.inj h)) dX4_first_15
set_option maxRecDepth 100000 in
set_option maxHeartbeats 4000000 in
theorem w_X4_kindOf_j23 {K : Cx} {g : Gw} (ret : Int32) (X : XC K g cX4_kindOf 2 RX4 (some .int) rm_X4_kindOf) (z0 : Int32) (u : St) (h : f_X4_kindOf_j23 z0 u = some ret) : XW K 0 0 2 (QI K g (wdX g) (ret, u)) (wdX g) u 23 [] [.int z0] := by
  unfold f_X4_kindOf_j23 at h
  exact x_iret X (roE (Option.some.inj h)) dX4_kindOf_23
set_option maxRecDepth 100000 in
set_option maxHeartbeats 4000000 in
theorem w_X4_kindOf_j22 {K : Cx} {g : Gw} (ret : Int32) (X : XC K g cX4_kindOf 2 RX4 (some .int) rm_X4_kindOf) (u : St) (h : f_X4_kindOf_j22 u = some ret) : XW K 0 0 2 (QI K g (wdX g) (ret, u)) (wdX g) u 22 [] [] := by
  unfold f_X4_kindOf_j22 at h
  refine x_iconst (v := 0) X dX4_kindOf_22 (by decide) ?_
  exact w_X4_kindOf_j23 ret X 0 u h
set_option maxRecDepth 100000 in
set_option maxHeartbeats 4000000 in
theorem c_X4_kindOf (l : Launch) (D : va_G) (g : Gw) (p0 : Int32) (u : St) (ret : Int32) (h : f_X4_kindOf p0 u = some ret) : metI l D g (wdX g) yX4_kindOf cX4_kindOf 2 .int rm_X4_kindOf [.ref (g.1 4), .int p0] u (ret, u) := by
  refine metI_of (own := RX4) (lv := [(0, .ref (g.1 4)), (1, .int p0)]) (by decide) rfl rfl (Nat.le_of_ble_eq_true rfl) (fun K hl9 hD9 X => ?_)
  subst hl9
  subst hD9
  unfold f_X4_kindOf at h
  refine x_iload_n X dX4_kindOf_0 rfl 1 rfl ?_
  refine x_iconst (v := 1) X dX4_kindOf_1 (by decide) ?_
  refine x_icmp_lt (tgt := 22) X dX4_kindOf_2 (by decide) (fun c1 => ?_) (fun c1 => ?_)
  · replace h := if_t c1 h
    refine x_sub [] rfl ?_
    exact w_X4_kindOf_j22 ret X u h
  · replace h := if_f c1 h
    refine x_iload_n X dX4_kindOf_5 rfl 1 rfl ?_
    refine x_aload_n X dX4_kindOf_6 rfl 0 rfl ?_
    refine x_get (v := .int (u 8 0)) X 4 4 in_X4 rfl rfl (by decide) m_X4_31 rfl dX4_kindOf_7 ?_
    refine x_icmp_gt (tgt := 22) X dX4_kindOf_10 (by decide) (fun c2 => ?_) (fun c2 => ?_)
    · replace h := if_t c2 h
      refine x_sub [] rfl ?_
      exact w_X4_kindOf_j22 ret X u h
    · replace h := if_f c2 h
      refine x_aload_n X dX4_kindOf_13 rfl 0 rfl ?_
      refine x_get (v := .ref (g.1 11)) X 4 2 in_X4 rfl rfl (by decide) m_X4_13 rfl dX4_kindOf_14 ?_
      refine x_iload_n X dX4_kindOf_17 rfl 1 rfl ?_
      obtain ⟨i3, h⟩ := chk_some h
      refine x_iald (f := (u 25)) X 11 0 rfl rfl i3 dX4_kindOf_18 ?_
      refine x_goto (tgt := 23) X dX4_kindOf_19 (by decide) ?_
      refine x_sub [] rfl ?_
      exact w_X4_kindOf_j23 ret X ((u 25) (Int32.toNatClampNeg p0)) u h
