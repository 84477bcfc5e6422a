set_option maxRecDepth 100000 in
set_option maxHeartbeats 4000000 in
theorem w_X3_isMemberName_j22 {K : Cx} {g : Gw} (ret : Int32) (X : XC K g cX3_isMemberName 4 RX3 (some .boolean) rm_X3_isMemberName) (u : St) (h : f_X3_isMemberName_j22 u = some ret) : XW K 0 0 4 (QI K g (wdX g) (ret, u)) (wdX g) u 22 [] [] := by
  unfold f_X3_isMemberName_j22 at h
  refine x_iconst (v := 1) X dX3_isMemberName_22 (by decide) ?_
  exact x_zret X rfl (roE (Option.some.inj h)) dX3_isMemberName_23
abbrev H_X3_isMemberName_26 (x1 : Int32) (x2 : Int32) (K : Cx) (g : Gw) (u : St) (ret : Int32) (a : Int32) : Prop := XW K 0 0 4 (QI K g (wdX g) (ret, u)) (wdX g) u 26 [(0, .ref (g.1 8)), (1, .int x1), (2, .int x2), (3, .int a)] []
abbrev E_X3_isMemberName_26 (x1 : Int32) (x2 : Int32) (K : Cx) (g : Gw) (u : St) (ret : Int32) (q : (Int32) ⊕ (Unit)) : Prop := Sum.elim (fun q => q = ret) (fun q => XW K 0 0 4 (QI K g (wdX g) (ret, u)) (wdX g) u 55 [(0, .ref (g.1 8)), (1, .int x1), (2, .int x2)] []) q
set_option maxRecDepth 100000 in
set_option maxHeartbeats 4000000 in
theorem w_X3_isMemberName_j47_26 {K : Cx} {g : Gw} (ret : Int32) (X : XC K g cX3_isMemberName 4 RX3 (some .boolean) rm_X3_isMemberName) (x1 : Int32) (x2 : Int32) (u : St) (r : ((Int32) ⊕ (Unit)) ⊕ (Int32)) (h : f_X3_isMemberName_j47_26 x1 x2 u = some r) (k0 : ∀ q, r = .inl q → E_X3_isMemberName_26 x1 x2 K g u ret q) (k1 : ∀ q, r = .inr q → H_X3_isMemberName_26 x1 x2 K g u ret q) : XW K 0 0 4 (QI K g (wdX g) (ret, u)) (wdX g) u 47 [(1, .int x1), (2, .int x2)] [] := by
  unfold f_X3_isMemberName_j47_26 at h
  refine x_iconst (v := 0) X dX3_isMemberName_47 (by decide) ?_
  exact x_zret X rfl (roE (k0 _ (Option.some.inj h).symm)) dX3_isMemberName_48
set_option maxRecDepth 100000 in
set_option maxHeartbeats 4000000 in
theorem w_X3_isMemberName_b26 {K : Cx} {g : Gw} (x1 : Int32) (x2 : Int32) (u : St) (ret : Int32) (X : XC K g cX3_isMemberName 4 RX3 (some .boolean) rm_X3_isMemberName) (a : Int32) (r : ((Int32) ⊕ (Unit)) ⊕ (Int32)) (h : f_X3_isMemberName_b26 x1 x2 u a = some r) (k0 : ∀ q, r = .inl q → E_X3_isMemberName_26 x1 x2 K g u ret q) (k1 : ∀ q, r = .inr q → H_X3_isMemberName_26 x1 x2 K g u ret q) : H_X3_isMemberName_26 x1 x2 K g u ret a := by
  unfold f_X3_isMemberName_b26 at h
  show XW K 0 0 4 (QI K g (wdX g) (ret, u)) (wdX g) u 26 [(0, .ref (g.1 8)), (1, .int x1), (2, .int x2), (3, .int a)] []
  refine x_iload_n X dX3_isMemberName_26 rfl 3 rfl ?_
  refine x_iload_n X dX3_isMemberName_27 rfl 2 rfl ?_
  refine x_icmp_ge (tgt := 55) X dX3_isMemberName_28 (by decide) (fun c5 => ?_) (fun c5 => ?_)
  · replace h := if_t c5 h
    refine x_sub [0, 1, 2] rfl ?_
    have h9 := k0 _ (Option.some.inj h).symm
    exact h9
  · replace h := if_f c5 h
    refine x_aload_n X dX3_isMemberName_31 rfl 0 rfl ?_
    refine x_iload_n X dX3_isMemberName_32 rfl 3 rfl ?_
    obtain ⟨i6, h⟩ := chk_some h
    refine x_iald (f := (u 22)) X 8 0 rfl rfl i6 dX3_isMemberName_33 ?_
    refine x_bipush (v := 60) X dX3_isMemberName_34 (by decide) ?_
    refine x_icmp_eq (tgt := 47) X dX3_isMemberName_36 (by decide) (fun c7 => ?_) (fun c7 => ?_)
    · replace h := if_t c7 h
      refine x_sub [1, 2] rfl ?_
      exact w_X3_isMemberName_j47_26 ret X x1 x2 u r h k0 k1
    · replace h := if_f c7 h
      refine x_aload_n X dX3_isMemberName_39 rfl 0 rfl ?_
      refine x_iload_n X dX3_isMemberName_40 rfl 3 rfl ?_
      obtain ⟨i8, h⟩ := chk_some h
      refine x_iald (f := (u 22)) X 8 0 rfl rfl i8 dX3_isMemberName_41 ?_
      refine x_bipush (v := 62) X dX3_isMemberName_42 (by decide) ?_
      refine x_icmp_ne (tgt := 49) X dX3_isMemberName_44 (by decide) (fun c9 => ?_) (fun c9 => ?_)
      · replace h := if_f c9 h
        refine x_iinc (v := (a + 1)) (lv2 := [(3, .int (a + 1)), (0, .ref (g.1 8)), (1, .int x1), (2, .int x2)]) X dX3_isMemberName_49 3 rfl rfl (by decide) rfl ?_
        refine x_goto (tgt := 26) X dX3_isMemberName_52 (by decide) ?_
        refine x_sub [1, 2, 3, 0] rfl ?_
        have h9 := k1 _ (Option.some.inj h).symm
        exact h9
      · replace h := if_t c9 h
        refine x_sub [1, 2] rfl ?_
        exact w_X3_isMemberName_j47_26 ret X x1 x2 u r h k0 k1
set_option maxRecDepth 100000 in
set_option maxHeartbeats 4000000 in
theorem c_X3_isMemberName (l : Launch) (D : va_G) (g : Gw) (p1 : Int32) (p2 : Int32) (u : St) (ret : Int32) (h : f_X3_isMemberName p1 p2 u = some ret) : metI l D g (wdX g) yX3_isMemberName cX3_isMemberName 4 .boolean rm_X3_isMemberName [.ref (g.1 8), .int p1, .int p2] u (ret, u) := by
  refine metI_of (own := RX3) (lv := [(0, .ref (g.1 8)), (1, .int p1), (2, .int p2)]) (by decide) rfl rfl (Nat.le_of_ble_eq_true rfl) (fun K hl9 hD9 X => ?_)
  subst hl9
  subst hD9
  unfold f_X3_isMemberName at h
  refine x_aload_n X dX3_isMemberName_0 rfl 0 rfl ?_
  refine x_iload_n X dX3_isMemberName_1 rfl 1 rfl ?_
  refine x_iload_n X dX3_isMemberName_2 rfl 2 rfl ?_
  refine x_ldcS (q := g.1 100) X X.2.2.2.1.2.2.1 dX3_isMemberName_3 ?_
  obtain ⟨q1, e1, h⟩ := bd h
  refine x_scallR X [.ref (g.1 8), .int p1, .int p2, .ref (g.1 100)] [] (c_X3_isWord_s0 K.l K.D g p1 p2 u q1 e1) ok_X3_isWord m_X3_8 rfl rfl (Nat.le_of_ble_eq_true rfl) ⟨Nat.zero_le _, Nat.zero_le _⟩ ⟨rfl, rfl, by decide, by decide⟩ dX3_isMemberName_5 ?_
  refine x_if_ne (tgt := 22) X dX3_isMemberName_8 (by decide) (fun c2 => ?_) (fun c2 => ?_)
  · replace h := if_f c2 h
    refine x_sub [] rfl ?_
    exact w_X3_isMemberName_j22 ret X u h
  · replace h := if_t c2 h
    refine x_aload_n X dX3_isMemberName_11 rfl 0 rfl ?_
    refine x_iload_n X dX3_isMemberName_12 rfl 1 rfl ?_
    refine x_iload_n X dX3_isMemberName_13 rfl 2 rfl ?_
    refine x_ldcS (q := g.1 101) X X.2.2.2.1.2.2.2.1 dX3_isMemberName_14 ?_
    obtain ⟨q3, e3, h⟩ := bd h
    refine x_scallR X [.ref (g.1 8), .int p1, .int p2, .ref (g.1 101)] [] (c_X3_isWord_s1 K.l K.D g p1 p2 u q3 e3) ok_X3_isWord m_X3_8 rfl rfl (Nat.le_of_ble_eq_true rfl) ⟨Nat.zero_le _, Nat.zero_le _⟩ ⟨rfl, rfl, by decide, by decide⟩ dX3_isMemberName_16 ?_
    refine x_if_eq (tgt := 24) X dX3_isMemberName_19 (by decide) (fun c4 => ?_) (fun c4 => ?_)
    · replace h := if_t c4 h
      refine x_iload_n X dX3_isMemberName_24 rfl 1 rfl ?_
      refine x_istore_n (lv2 := [(3, .int p1), (0, .ref (g.1 8)), (1, .int p1), (2, .int p2)]) X dX3_isMemberName_25 rfl (by decide) rfl ?_
      refine x_sub [1, 2, 3, 0] rfl ?_
      obtain ⟨q100, e10, h⟩ := bd h
      refine loopF_w (WH := H_X3_isMemberName_26 p1 p2 K g u ret) (KB := E_X3_isMemberName_26 p1 p2 K g u ret) (fun a9 r9 h9 k8 k7 => w_X3_isMemberName_b26 p1 p2 u ret X a9 r9 h9 k8 k7) FU p1 q100 e10 ?_
      rcases q100 with q10 | q10
      · replace h := sl h
        exact (Option.some.inj h)
      · replace h := sr h
        show XW K 0 0 4 (QI K g (wdX g) (ret, u)) (wdX g) u 55 [(0, .ref (g.1 8)), (1, .int p1), (2, .int p2)] []
        refine x_aload_n X dX3_isMemberName_55 rfl 0 rfl ?_
        refine x_iload_n X dX3_isMemberName_56 rfl 1 rfl ?_
        refine x_iload_n X dX3_isMemberName_57 rfl 2 rfl ?_
        obtain ⟨q11, e11, h⟩ := bd h
        refine x_scallR X [.ref (g.1 8), .int p1, .int p2] [] (c_X3_isFieldName K.l K.D g p1 p2 u q11 e11) ok_X3_isFieldName m_X3_16 rfl rfl (Nat.le_of_ble_eq_true rfl) ⟨Nat.zero_le _, Nat.zero_le _⟩ ⟨rfl, rfl, by decide, by decide⟩ dX3_isMemberName_58 ?_
        obtain ⟨b12, h⟩ := bchk_some h
        exact x_zret X b12 (roE (Option.some.inj h)) dX3_isMemberName_61
    · replace h := if_f c4 h
      refine x_sub [] rfl ?_
      exact w_X3_isMemberName_j22 ret X u h
set_option maxRecDepth 100000 in
set_option maxHeartbeats 4000000 in
theorem w_X4_isMemberName_j37 {K : Cx} {g : Gw} (ret : Int32) (X : XC K g cX4_isMemberName 2 RX4 (some .boolean) rm_X4_isMemberName) (z0 : Int32) (u : St) (h : f_X4_isMemberName_j37 z0 u = some ret) : XW K 0 0 2 (QI K g (wdX g) (ret, u)) (wdX g) u 37 [] [.int z0] := by
  unfold f_X4_isMemberName_j37 at h
  obtain ⟨b3, h⟩ := bchk_some h
  exact x_zret X b3 (roE (Option.some.inj h)) dX4_isMemberName_37
set_option maxRecDepth 100000 in
set_option maxHeartbeats 4000000 in
theorem w_X4_isMemberName_j36 {K : Cx} {g : Gw} (ret : Int32) (X : XC K g cX4_isMemberName 2 RX4 (some .boolean) rm_X4_isMemberName) (u : St) (h : f_X4_isMemberName_j36 u = some ret) : XW K 0 0 2 (QI K g (wdX g) (ret, u)) (wdX g) u 36 [] [] := by
  unfold f_X4_isMemberName_j36 at h
  refine x_iconst (v := 0) X dX4_isMemberName_36 (by decide) ?_
  exact w_X4_isMemberName_j37 ret X 0 u h
set_option maxRecDepth 100000 in
set_option maxHeartbeats 4000000 in
theorem c_X4_isMemberName (l : Launch) (D : va_G) (g : Gw) (p0 : Int32) (u : St) (ret : Int32) (h : f_X4_isMemberName p0 u = some ret) : metI l D g (wdX g) yX4_isMemberName cX4_isMemberName 2 .boolean rm_X4_isMemberName [.ref (g.1 4), .int p0] u (ret, u) := by
  refine metI_of (own := RX4) (lv := [(0, .ref (g.1 4)), (1, .int p0)]) (by decide) rfl rfl (Nat.le_of_ble_eq_true rfl) (fun K hl9 hD9 X => ?_)
  subst hl9
  subst hD9
  unfold f_X4_isMemberName at h
  refine x_aload_n X dX4_isMemberName_0 rfl 0 rfl ?_
  refine x_iload_n X dX4_isMemberName_1 rfl 1 rfl ?_
  obtain ⟨q1, e1, h⟩ := bd h
  refine x_callR X [.int p0] [] (c_X4_kindOf K.l K.D g p0 u q1 e1) ok_X4_kindOf m_X4_77 4 rfl rfl rfl rfl (Nat.le_of_ble_eq_true rfl) ⟨Nat.zero_le _, Nat.zero_le _⟩ ⟨rfl, rfl, by decide, by decide⟩ dX4_isMemberName_2 ?_
  refine x_iconst (v := 1) X dX4_isMemberName_5 (by decide) ?_
  refine x_icmp_ne (tgt := 36) X dX4_isMemberName_6 (by decide) (fun c2 => ?_) (fun c2 => ?_)
  · replace h := if_f c2 h
    refine x_sub [] rfl ?_
    exact w_X4_isMemberName_j36 ret X u h
  · replace h := if_t c2 h
    refine x_aload_n X dX4_isMemberName_9 rfl 0 rfl ?_
    refine x_get (v := .ref (g.1 1)) X 4 0 in_X4 rfl rfl (by decide) m_X4_30 rfl dX4_isMemberName_10 ?_
    refine x_get (v := .ref (g.1 8)) X 1 0 in_X1 rfl rfl (by decide) m_X4_53 rfl dX4_isMemberName_13 ?_
    refine x_aload_n X dX4_isMemberName_16 rfl 0 rfl ?_
    refine x_iload_n X dX4_isMemberName_17 rfl 1 rfl ?_
    obtain ⟨q4, e4, h⟩ := bd h
    refine x_callR X [.int p0] [.ref (g.1 8)] (c_X4_textStart K.l K.D g p0 u q4 e4) ok_X4_textStart m_X4_86 4 rfl rfl rfl rfl (Nat.le_of_ble_eq_true rfl) ⟨Nat.zero_le _, Nat.zero_le _⟩ ⟨rfl, rfl, by decide, by decide⟩ dX4_isMemberName_18 ?_
    refine x_aload_n X dX4_isMemberName_21 rfl 0 rfl ?_
    refine x_iload_n X dX4_isMemberName_22 rfl 1 rfl ?_
    obtain ⟨q5, e5, h⟩ := bd h
    refine x_callR X [.int p0] [.int q4, .ref (g.1 8)] (c_X4_textEnd K.l K.D g p0 u q5 e5) ok_X4_textEnd m_X4_89 4 rfl rfl rfl rfl (Nat.le_of_ble_eq_true rfl) ⟨Nat.zero_le _, Nat.zero_le _⟩ ⟨rfl, rfl, by decide, by decide⟩ dX4_isMemberName_23 ?_
    obtain ⟨q6, e6, h⟩ := bd h
    refine x_scallR X [.ref (g.1 8), .int q4, .int q5] [] (c_X3_isMemberName K.l K.D g q4 q5 u q6 e6) ok_X3_isMemberName m_X4_105 rfl rfl (Nat.le_of_ble_eq_true rfl) ⟨Nat.zero_le _, Nat.zero_le _⟩ ⟨rfl, rfl, by decide, by decide⟩ dX4_isMemberName_26 ?_
    refine x_if_eq (tgt := 36) X dX4_isMemberName_29 (by decide) (fun c7 => ?_) (fun c7 => ?_)
    · replace h := if_t c7 h
      refine x_sub [] rfl ?_
      exact w_X4_isMemberName_j36 ret X u h
    · replace h := if_f c7 h
      refine x_iconst (v := 1) X dX4_isMemberName_32 (by decide) ?_
      refine x_goto (tgt := 37) X dX4_isMemberName_33 (by decide) ?_
      refine x_sub [] rfl ?_
      exact w_X4_isMemberName_j37 ret X 1 u h
abbrev H_X3_brackets_2 (x1 : Int32) (x2 : Int32) (K : Cx) (g : Gw) (u : St) (ret : Int32) (a : Int32) : Prop := XW K 0 0 4 (QI K g (wdX g) (ret, u)) (wdX g) u 2 [(0, .ref (g.1 8)), (1, .int x1), (2, .int x2), (3, .int a)] []
abbrev E_X3_brackets_2 (x1 : Int32) (x2 : Int32) (K : Cx) (g : Gw) (u : St) (ret : Int32) (q : (Int32) ⊕ (Int32)) : Prop := Sum.elim (fun q => q = ret) (fun q => XW K 0 0 4 (QI K g (wdX g) (ret, u)) (wdX g) u 21 [(1, .int x1), (3, .int q)] []) q
set_option maxRecDepth 100000 in
set_option maxHeartbeats 4000000 in
theorem w_X3_brackets_b2 {K : Cx} {g : Gw} (x1 : Int32) (x2 : Int32) (u : St) (ret : Int32) (X : XC K g cX3_brackets 4 RX3 (some .int) rm_X3_brackets) (a : Int32) (r : ((Int32) ⊕ (Int32)) ⊕ (Int32)) (h : f_X3_brackets_b2 x1 x2 u a = some r) (k0 : ∀ q, r = .inl q → E_X3_brackets_2 x1 x2 K g u ret q) (k1 : ∀ q, r = .inr q → H_X3_brackets_2 x1 x2 K g u ret q) : H_X3_brackets_2 x1 x2 K g u ret a := by
  unfold f_X3_brackets_b2 at h
  show XW K 0 0 4 (QI K g (wdX g) (ret, u)) (wdX g) u 2 [(0, .ref (g.1 8)), (1, .int x1), (2, .int x2), (3, .int a)] []
  refine x_iload_n X dX3_brackets_2 rfl 3 rfl ?_
  refine x_iload_n X dX3_brackets_3 rfl 2 rfl ?_
  refine x_icmp_ge (tgt := 21) X dX3_brackets_4 (by decide) (fun c1 => ?_) (fun c1 => ?_)
  · replace h := if_t c1 h
    refine x_sub [1, 3] rfl ?_
    have h9 := k0 _ (Option.some.inj h).symm
    exact h9
  · replace h := if_f c1 h
    refine x_aload_n X dX3_brackets_7 rfl 0 rfl ?_
    refine x_iload_n X dX3_brackets_8 rfl 3 rfl ?_
    obtain ⟨i2, h⟩ := chk_some h
    refine x_iald (f := (u 22)) X 8 0 rfl rfl i2 dX3_brackets_9 ?_
    refine x_bipush (v := 91) X dX3_brackets_10 (by decide) ?_
    refine x_icmp_ne (tgt := 21) X dX3_brackets_12 (by decide) (fun c3 => ?_) (fun c3 => ?_)
    · replace h := if_f c3 h
      refine x_sub [1, 3] rfl ?_
      have h9 := k0 _ (Option.some.inj h).symm
      exact h9
    · replace h := if_t c3 h
      refine x_iinc (v := (a + 1)) (lv2 := [(3, .int (a + 1)), (0, .ref (g.1 8)), (1, .int x1), (2, .int x2)]) X dX3_brackets_15 3 rfl rfl (by decide) rfl ?_
      refine x_goto (tgt := 2) X dX3_brackets_18 (by decide) ?_
      refine x_sub [1, 2, 3, 0] rfl ?_
      have h9 := k1 _ (Option.some.inj h).symm
      exact h9
set_option maxRecDepth 100000 in
set_option maxHeartbeats 4000000 in
theorem w_X3_brackets_j21 {K : Cx} {g : Gw} (ret : Int32) (X : XC K g cX3_brackets 4 RX3 (some .int) rm_X3_brackets) (x1 : Int32) (x3 : Int32) (u : St) (h : f_X3_brackets_j21 x1 x3 u = some ret) : XW K 0 0 4 (QI K g (wdX g) (ret, u)) (wdX g) u 21 [(1, .int x1), (3, .int x3)] [] := by
  unfold f_X3_brackets_j21 at h
  refine x_iload_n X dX3_brackets_21 rfl 1 rfl ?_
  refine x_iload_n X dX3_brackets_22 rfl 0 rfl ?_
  refine x_isub X dX3_brackets_23 ?_
  exact x_iret X (roE (Option.some.inj h)) dX3_brackets_24
set_option maxRecDepth 100000 in
set_option maxHeartbeats 4000000 in
theorem c_X3_brackets (l : Launch) (D : va_G) (g : Gw) (p1 : Int32) (p2 : Int32) (u : St) (ret : Int32) (h : f_X3_brackets p1 p2 u = some ret) : metI l D g (wdX g) yX3_brackets cX3_brackets 4 .int rm_X3_brackets [.ref (g.1 8), .int p1, .int p2] u (ret, u) := by
  refine metI_of (own := RX3) (lv := [(0, .ref (g.1 8)), (1, .int p1), (2, .int p2)]) (by decide) rfl rfl (Nat.le_of_ble_eq_true rfl) (fun K hl9 hD9 X => ?_)
  subst hl9
  subst hD9
  unfold f_X3_brackets at h
  refine x_iload_n X dX3_brackets_0 rfl 1 rfl ?_
  refine x_istore_n (lv2 := [(3, .int p1), (0, .ref (g.1 8)), (1, .int p1), (2, .int p2)]) X dX3_brackets_1 rfl (by decide) rfl ?_
  refine x_sub [1, 2, 3, 0] rfl ?_
  obtain ⟨q40, e4, h⟩ := bd h
  refine loopF_w (WH := H_X3_brackets_2 p1 p2 K g u ret) (KB := E_X3_brackets_2 p1 p2 K g u ret) (fun a9 r9 h9 k8 k7 => w_X3_brackets_b2 p1 p2 u ret X a9 r9 h9 k8 k7) FU p1 q40 e4 ?_
  rcases q40 with q4 | q4
  · replace h := sl h
    exact (Option.some.inj h)
  · replace h := sr h
    show XW K 0 0 4 (QI K g (wdX g) (ret, u)) (wdX g) u 21 [(1, .int p1), (3, .int q4)] []
    exact w_X3_brackets_j21 ret X p1 q4 u h
abbrev H_X3_isClassName_5 (x2 : Int32) (K : Cx) (g : Gw) (u : St) (ret : Int32) (a : Int32 × Int32) : Prop := XW K 0 0 6 (QI K g (wdX g) (ret, u)) (wdX g) u 5 [(0, .ref (g.1 8)), (2, .int x2), (3, .int a.1), (4, .int a.2)] []
abbrev E_X3_isClassName_5 (x2 : Int32) (K : Cx) (g : Gw) (u : St) (ret : Int32) (q : (Int32) ⊕ (Int32)) : Prop := Sum.elim (fun q => q = ret) (fun q => XW K 0 0 6 (QI K g (wdX g) (ret, u)) (wdX g) u 82 [(3, .int q)] []) q
set_option maxRecDepth 100000 in
set_option maxHeartbeats 4000000 in
theorem w_X3_isClassName_j63_5 {K : Cx} {g : Gw} (ret : Int32) (X : XC K g cX3_isClassName 6 RX3 (some .boolean) rm_X3_isClassName) (x2 : Int32) (u : St) (r : ((Int32) ⊕ (Int32)) ⊕ (Int32 × Int32)) (h : f_X3_isClassName_j63_5 x2 u = some r) (k0 : ∀ q, r = .inl q → E_X3_isClassName_5 x2 K g u ret q) (k1 : ∀ q, r = .inr q → H_X3_isClassName_5 x2 K g u ret q) : XW K 0 0 6 (QI K g (wdX g) (ret, u)) (wdX g) u 63 [(2, .int x2)] [] := by
  unfold f_X3_isClassName_j63_5 at h
  refine x_iconst (v := 0) X dX3_isClassName_63 (by decide) ?_
  exact x_zret X rfl (roE (k0 _ (Option.some.inj h).symm)) dX3_isClassName_64
set_option maxRecDepth 100000 in
set_option maxHeartbeats 4000000 in
theorem w_X3_isClassName_j75_5 {K : Cx} {g : Gw} (ret : Int32) (X : XC K g cX3_isClassName 6 RX3 (some .boolean) rm_X3_isClassName) (x2 : Int32) (x4 : Int32) (z0 : Int32) (u : St) (r : ((Int32) ⊕ (Int32)) ⊕ (Int32 × Int32)) (h : f_X3_isClassName_j75_5 x2 x4 z0 u = some r) (k0 : ∀ q, r = .inl q → E_X3_isClassName_5 x2 K g u ret q) (k1 : ∀ q, r = .inr q → H_X3_isClassName_5 x2 K g u ret q) : XW K 0 0 6 (QI K g (wdX g) (ret, u)) (wdX g) u 75 [(0, .ref (g.1 8)), (2, .int x2), (4, .int x4)] [.int z0] := by
  unfold f_X3_isClassName_j75_5 at h
  refine x_istore_n (lv2 := [(3, .int z0), (0, .ref (g.1 8)), (2, .int x2), (4, .int x4)]) X dX3_isClassName_75 rfl (by decide) rfl ?_
  refine x_iinc (v := (x4 + 1)) (lv2 := [(4, .int (x4 + 1)), (3, .int z0), (0, .ref (g.1 8)), (2, .int x2)]) X dX3_isClassName_76 3 rfl rfl (by decide) rfl ?_
  refine x_goto (tgt := 5) X dX3_isClassName_79 (by decide) ?_
  refine x_sub [2, 3, 1, 0] rfl ?_
  have h9 := k1 _ (Option.some.inj h).symm
  exact h9
set_option maxRecDepth 100000 in
set_option maxHeartbeats 4000000 in
theorem w_X3_isClassName_j65_5 {K : Cx} {g : Gw} (ret : Int32) (X : XC K g cX3_isClassName 6 RX3 (some .boolean) rm_X3_isClassName) (x2 : Int32) (x4 : Int32) (x5 : Int32) (u : St) (r : ((Int32) ⊕ (Int32)) ⊕ (Int32 × Int32)) (h : f_X3_isClassName_j65_5 x2 x4 x5 u = some r) (k0 : ∀ q, r = .inl q → E_X3_isClassName_5 x2 K g u ret q) (k1 : ∀ q, r = .inr q → H_X3_isClassName_5 x2 K g u ret q) : XW K 0 0 6 (QI K g (wdX g) (ret, u)) (wdX g) u 65 [(0, .ref (g.1 8)), (2, .int x2), (4, .int x4), (5, .int x5)] [] := by
  unfold f_X3_isClassName_j65_5 at h
  refine x_iload X dX3_isClassName_65 3 rfl ?_
  refine x_if_ne (tgt := 74) X dX3_isClassName_67 (by decide) (fun c11 => ?_) (fun c11 => ?_)
  · replace h := if_f c11 h
    refine x_iconst (v := 0) X dX3_isClassName_74 (by decide) ?_
    refine x_sub [0, 1, 2] rfl ?_
    exact w_X3_isClassName_j75_5 ret X x2 x4 0 u r h k0 k1
  · replace h := if_t c11 h
    refine x_iconst (v := 1) X dX3_isClassName_70 (by decide) ?_
    refine x_goto (tgt := 75) X dX3_isClassName_71 (by decide) ?_
    refine x_sub [0, 1, 2] rfl ?_
    exact w_X3_isClassName_j75_5 ret X x2 x4 1 u r h k0 k1
set_option maxRecDepth 100000 in
set_option maxHeartbeats 4000000 in
theorem w_X3_isClassName_j25_5 {K : Cx} {g : Gw} (ret : Int32) (X : XC K g cX3_isClassName 6 RX3 (some .boolean) rm_X3_isClassName) (x2 : Int32) (x3 : Int32) (x4 : Int32) (z0 : Int32) (u : St) (r : ((Int32) ⊕ (Int32)) ⊕ (Int32 × Int32)) (h : f_X3_isClassName_j25_5 x2 x3 x4 z0 u = some r) (k0 : ∀ q, r = .inl q → E_X3_isClassName_5 x2 K g u ret q) (k1 : ∀ q, r = .inr q → H_X3_isClassName_5 x2 K g u ret q) : XW K 0 0 6 (QI K g (wdX g) (ret, u)) (wdX g) u 25 [(0, .ref (g.1 8)), (2, .int x2), (3, .int x3), (4, .int x4)] [.int z0] := by
  unfold f_X3_isClassName_j25_5 at h
  refine x_istore (lv2 := [(5, .int z0), (0, .ref (g.1 8)), (2, .int x2), (3, .int x3), (4, .int x4)]) X dX3_isClassName_25 (by decide) rfl ?_
  refine x_aload_n X dX3_isClassName_27 rfl 1 rfl ?_
  refine x_iload X dX3_isClassName_28 4 rfl ?_
  obtain ⟨i4, h⟩ := chk_some h
  refine x_iald (f := (u 22)) X 8 0 rfl rfl i4 dX3_isClassName_30 ?_
  refine x_bipush (v := 46) X dX3_isClassName_31 (by decide) ?_
  refine x_icmp_eq (tgt := 63) X dX3_isClassName_33 (by decide) (fun c5 => ?_) (fun c5 => ?_)
  · replace h := if_t c5 h
    refine x_sub [2] rfl ?_
    exact w_X3_isClassName_j63_5 ret X x2 u r h k0 k1
  · replace h := if_f c5 h
    refine x_aload_n X dX3_isClassName_36 rfl 1 rfl ?_
    refine x_iload X dX3_isClassName_37 4 rfl ?_
    obtain ⟨i6, h⟩ := chk_some h
    refine x_iald (f := (u 22)) X 8 0 rfl rfl i6 dX3_isClassName_39 ?_
    refine x_bipush (v := 59) X dX3_isClassName_40 (by decide) ?_
    refine x_icmp_eq (tgt := 63) X dX3_isClassName_42 (by decide) (fun c7 => ?_) (fun c7 => ?_)
    · replace h := if_t c7 h
      refine x_sub [2] rfl ?_
      exact w_X3_isClassName_j63_5 ret X x2 u r h k0 k1
    · replace h := if_f c7 h
      refine x_aload_n X dX3_isClassName_45 rfl 1 rfl ?_
      refine x_iload X dX3_isClassName_46 4 rfl ?_
      obtain ⟨i8, h⟩ := chk_some h
      refine x_iald (f := (u 22)) X 8 0 rfl rfl i8 dX3_isClassName_48 ?_
      refine x_bipush (v := 91) X dX3_isClassName_49 (by decide) ?_
      refine x_icmp_eq (tgt := 63) X dX3_isClassName_51 (by decide) (fun c9 => ?_) (fun c9 => ?_)
      · replace h := if_t c9 h
        refine x_sub [2] rfl ?_
        exact w_X3_isClassName_j63_5 ret X x2 u r h k0 k1
      · replace h := if_f c9 h
        refine x_iload X dX3_isClassName_54 0 rfl ?_
        refine x_if_eq (tgt := 65) X dX3_isClassName_56 (by decide) (fun c10 => ?_) (fun c10 => ?_)
        · replace h := if_t c10 h
          refine x_sub [1, 2, 4, 0] rfl ?_
          exact w_X3_isClassName_j65_5 ret X x2 x4 z0 u r h k0 k1
        · replace h := if_f c10 h
          refine x_iload_n X dX3_isClassName_59 rfl 3 rfl ?_
          refine x_if_ne (tgt := 65) X dX3_isClassName_60 (by decide) (fun c12 => ?_) (fun c12 => ?_)
          · replace h := if_f c12 h
            refine x_sub [1, 2, 4, 0] rfl ?_
            exact w_X3_isClassName_j65_5 ret X x2 x4 z0 u r h k0 k1
          · replace h := if_t c12 h
            refine x_sub [2] rfl ?_
            exact w_X3_isClassName_j63_5 ret X x2 u r h k0 k1
set_option maxRecDepth 100000 in
set_option maxHeartbeats 4000000 in
theorem w_X3_isClassName_b5 {K : Cx} {g : Gw} (x2 : Int32) (u : St) (ret : Int32) (X : XC K g cX3_isClassName 6 RX3 (some .boolean) rm_X3_isClassName) (a : Int32 × Int32) (r : ((Int32) ⊕ (Int32)) ⊕ (Int32 × Int32)) (h : f_X3_isClassName_b5 x2 u a = some r) (k0 : ∀ q, r = .inl q → E_X3_isClassName_5 x2 K g u ret q) (k1 : ∀ q, r = .inr q → H_X3_isClassName_5 x2 K g u ret q) : H_X3_isClassName_5 x2 K g u ret a := by
  unfold f_X3_isClassName_b5 at h
  show XW K 0 0 6 (QI K g (wdX g) (ret, u)) (wdX g) u 5 [(0, .ref (g.1 8)), (2, .int x2), (3, .int a.1), (4, .int a.2)] []
  refine x_iload X dX3_isClassName_5 3 rfl ?_
  refine x_iload_n X dX3_isClassName_7 rfl 1 rfl ?_
  refine x_icmp_ge (tgt := 82) X dX3_isClassName_8 (by decide) (fun c1 => ?_) (fun c1 => ?_)
  · replace h := if_t c1 h
    refine x_sub [2] rfl ?_
    have h9 := k0 _ (Option.some.inj h).symm
    exact h9
  · replace h := if_f c1 h
    refine x_aload_n X dX3_isClassName_11 rfl 0 rfl ?_
    refine x_iload X dX3_isClassName_12 3 rfl ?_
    obtain ⟨i2, h⟩ := chk_some h
    refine x_iald (f := (u 22)) X 8 0 rfl rfl i2 dX3_isClassName_14 ?_
    refine x_bipush (v := 47) X dX3_isClassName_15 (by decide) ?_
    refine x_icmp_ne (tgt := 24) X dX3_isClassName_17 (by decide) (fun c3 => ?_) (fun c3 => ?_)
    · replace h := if_f c3 h
      refine x_iconst (v := 0) X dX3_isClassName_24 (by decide) ?_
      exact w_X3_isClassName_j25_5 ret X x2 a.1 a.2 0 u r h k0 k1
    · replace h := if_t c3 h
      refine x_iconst (v := 1) X dX3_isClassName_20 (by decide) ?_
      refine x_goto (tgt := 25) X dX3_isClassName_21 (by decide) ?_
      exact w_X3_isClassName_j25_5 ret X x2 a.1 a.2 1 u r h k0 k1
set_option maxRecDepth 100000 in
set_option maxHeartbeats 4000000 in
theorem c_X3_isClassName (l : Launch) (D : va_G) (g : Gw) (p1 : Int32) (p2 : Int32) (u : St) (ret : Int32) (h : f_X3_isClassName p1 p2 u = some ret) : metI l D g (wdX g) yX3_isClassName cX3_isClassName 6 .boolean rm_X3_isClassName [.ref (g.1 8), .int p1, .int p2] u (ret, u) := by
  refine metI_of (own := RX3) (lv := [(0, .ref (g.1 8)), (1, .int p1), (2, .int p2)]) (by decide) rfl rfl (Nat.le_of_ble_eq_true rfl) (fun K hl9 hD9 X => ?_)
  subst hl9
  subst hD9
  unfold f_X3_isClassName at h
  refine x_iconst (v := 0) X dX3_isClassName_0 (by decide) ?_
  refine x_istore_n (lv2 := [(3, .int 0), (0, .ref (g.1 8)), (1, .int p1), (2, .int p2)]) X dX3_isClassName_1 rfl (by decide) rfl ?_
  refine x_iload_n X dX3_isClassName_2 rfl 2 rfl ?_
  refine x_istore (lv2 := [(4, .int p1), (3, .int 0), (0, .ref (g.1 8)), (1, .int p1), (2, .int p2)]) X dX3_isClassName_3 (by decide) rfl ?_
  refine x_sub [2, 4, 1, 0] rfl ?_
  obtain ⟨q130, e13, h⟩ := bd h
  refine loopF_w (WH := H_X3_isClassName_5 p2 K g u ret) (KB := E_X3_isClassName_5 p2 K g u ret) (fun a9 r9 h9 k8 k7 => w_X3_isClassName_b5 p2 u ret X a9 r9 h9 k8 k7) FU (0, p1) q130 e13 ?_
  rcases q130 with q13 | q13
  · replace h := sl h
    exact (Option.some.inj h)
  · replace h := sr h
    show XW K 0 0 6 (QI K g (wdX g) (ret, u)) (wdX g) u 82 [(3, .int q13)] []
    refine x_iload_n X dX3_isClassName_82 rfl 0 rfl ?_
    obtain ⟨b14, h⟩ := bchk_some h
    exact x_zret X b14 (roE (Option.some.inj h)) dX3_isClassName_83
set_option maxRecDepth 100000 in
set_option maxHeartbeats 4000000 in
theorem c_X3_isPlainType (l : Launch) (D : va_G) (g : Gw) (p0 : Int32) (u : St) (ret : Int32) (h : f_X3_isPlainType p0 u = some ret) : metI l D g (wdX g) yX3_isPlainType cX3_isPlainType 1 .boolean rm_X3_isPlainType [.int p0] u (ret, u) := by
  refine metI_of (own := RX3) (lv := [(0, .int p0)]) (by decide) rfl rfl (Nat.le_of_ble_eq_true rfl) (fun K hl9 hD9 X => ?_)
  subst hl9
  subst hD9
  unfold f_X3_isPlainType at h
  refine x_iload_n X dX3_isPlainType_0 rfl 0 rfl ?_
  by_cases c1_0 : p0 = 66 ∨ p0 = 67 ∨ p0 = 68 ∨ p0 = 70 ∨ p0 = 73 ∨ p0 = 74 ∨ p0 = 83 ∨ p0 = 90
  · replace h := if_t c1_0 h
    have k9 : XW K 0 0 1 (QI K g (wdX g) (ret, u)) (wdX g) u 116 [(0, .int p0)] [] := by
      refine x_iconst (v := 1) X dX3_isPlainType_116 (by decide) ?_
      exact x_zret X rfl (roE (Option.some.inj h)) dX3_isPlainType_117
    rcases c1_0 with c1_0 | c1_0 | c1_0 | c1_0 | c1_0 | c1_0 | c1_0 | c1_0 <;> exact x_tableIn (off := 115) (tgt := 116) X dX3_isPlainType_1 (by rw [c1_0]; decide) (by rw [c1_0]; decide) (by rw [c1_0]; decide) (by decide) k9
  replace h := if_f c1_0 h
  have k9 : XW K 0 0 1 (QI K g (wdX g) (ret, u)) (wdX g) u 118 [(0, .int p0)] [] := by
    refine x_iconst (v := 0) X dX3_isPlainType_118 (by decide) ?_
    exact x_zret X rfl (roE (Option.some.inj h)) dX3_isPlainType_119
  by_cases d1_0 : p0 = 69
  · exact x_tableIn (off := 117) (tgt := 118) X dX3_isPlainType_1 (by rw [d1_0]; decide) (by rw [d1_0]; decide) (by rw [d1_0]; decide) (by decide) k9
  by_cases d1_1 : p0 = 71
  · exact x_tableIn (off := 117) (tgt := 118) X dX3_isPlainType_1 (by rw [d1_1]; decide) (by rw [d1_1]; decide) (by rw [d1_1]; decide) (by decide) k9
  by_cases d1_2 : p0 = 72
  · exact x_tableIn (off := 117) (tgt := 118) X dX3_isPlainType_1 (by rw [d1_2]; decide) (by rw [d1_2]; decide) (by rw [d1_2]; decide) (by decide) k9
  by_cases d1_3 : p0 = 75
  · exact x_tableIn (off := 117) (tgt := 118) X dX3_isPlainType_1 (by rw [d1_3]; decide) (by rw [d1_3]; decide) (by rw [d1_3]; decide) (by decide) k9
  by_cases d1_4 : p0 = 76
  · exact x_tableIn (off := 117) (tgt := 118) X dX3_isPlainType_1 (by rw [d1_4]; decide) (by rw [d1_4]; decide) (by rw [d1_4]; decide) (by decide) k9
  by_cases d1_5 : p0 = 77
  · exact x_tableIn (off := 117) (tgt := 118) X dX3_isPlainType_1 (by rw [d1_5]; decide) (by rw [d1_5]; decide) (by rw [d1_5]; decide) (by decide) k9
  by_cases d1_6 : p0 = 78
  · exact x_tableIn (off := 117) (tgt := 118) X dX3_isPlainType_1 (by rw [d1_6]; decide) (by rw [d1_6]; decide) (by rw [d1_6]; decide) (by decide) k9
  by_cases d1_7 : p0 = 79
  · exact x_tableIn (off := 117) (tgt := 118) X dX3_isPlainType_1 (by rw [d1_7]; decide) (by rw [d1_7]; decide) (by rw [d1_7]; decide) (by decide) k9
  by_cases d1_8 : p0 = 80
  · exact x_tableIn (off := 117) (tgt := 118) X dX3_isPlainType_1 (by rw [d1_8]; decide) (by rw [d1_8]; decide) (by rw [d1_8]; decide) (by decide) k9
  by_cases d1_9 : p0 = 81
  · exact x_tableIn (off := 117) (tgt := 118) X dX3_isPlainType_1 (by rw [d1_9]; decide) (by rw [d1_9]; decide) (by rw [d1_9]; decide) (by decide) k9
  by_cases d1_10 : p0 = 82
  · exact x_tableIn (off := 117) (tgt := 118) X dX3_isPlainType_1 (by rw [d1_10]; decide) (by rw [d1_10]; decide) (by rw [d1_10]; decide) (by decide) k9
  by_cases d1_11 : p0 = 84
  · exact x_tableIn (off := 117) (tgt := 118) X dX3_isPlainType_1 (by rw [d1_11]; decide) (by rw [d1_11]; decide) (by rw [d1_11]; decide) (by decide) k9
  by_cases d1_12 : p0 = 85
  · exact x_tableIn (off := 117) (tgt := 118) X dX3_isPlainType_1 (by rw [d1_12]; decide) (by rw [d1_12]; decide) (by rw [d1_12]; decide) (by decide) k9
  by_cases d1_13 : p0 = 86
  · exact x_tableIn (off := 117) (tgt := 118) X dX3_isPlainType_1 (by rw [d1_13]; decide) (by rw [d1_13]; decide) (by rw [d1_13]; decide) (by decide) k9
  by_cases d1_14 : p0 = 87
  · exact x_tableIn (off := 117) (tgt := 118) X dX3_isPlainType_1 (by rw [d1_14]; decide) (by rw [d1_14]; decide) (by rw [d1_14]; decide) (by decide) k9
  by_cases d1_15 : p0 = 88
  · exact x_tableIn (off := 117) (tgt := 118) X dX3_isPlainType_1 (by rw [d1_15]; decide) (by rw [d1_15]; decide) (by rw [d1_15]; decide) (by decide) k9
  by_cases d1_16 : p0 = 89
  · exact x_tableIn (off := 117) (tgt := 118) X dX3_isPlainType_1 (by rw [d1_16]; decide) (by rw [d1_16]; decide) (by rw [d1_16]; decide) (by decide) k9
  have n1_66 := lv_neT (a := 66) (fun q9 => c1_0 (.inl q9)) (by decide)
  have n1_67 := lv_neT (a := 67) (fun q9 => c1_0 (.inr (.inl q9))) (by decide)
  have n1_68 := lv_neT (a := 68) (fun q9 => c1_0 (.inr (.inr (.inl q9)))) (by decide)
  have n1_69 := lv_neT (a := 69) d1_0 (by decide)
  have n1_70 := lv_neT (a := 70) (fun q9 => c1_0 (.inr (.inr (.inr (.inl q9))))) (by decide)
  have n1_71 := lv_neT (a := 71) d1_1 (by decide)
  have n1_72 := lv_neT (a := 72) d1_2 (by decide)
  have n1_73 := lv_neT (a := 73) (fun q9 => c1_0 (.inr (.inr (.inr (.inr (.inl q9)))))) (by decide)
  have n1_74 := lv_neT (a := 74) (fun q9 => c1_0 (.inr (.inr (.inr (.inr (.inr (.inl q9))))))) (by decide)
  have n1_75 := lv_neT (a := 75) d1_3 (by decide)
  have n1_76 := lv_neT (a := 76) d1_4 (by decide)
  have n1_77 := lv_neT (a := 77) d1_5 (by decide)
  have n1_78 := lv_neT (a := 78) d1_6 (by decide)
  have n1_79 := lv_neT (a := 79) d1_7 (by decide)
  have n1_80 := lv_neT (a := 80) d1_8 (by decide)
  have n1_81 := lv_neT (a := 81) d1_9 (by decide)
  have n1_82 := lv_neT (a := 82) d1_10 (by decide)
  have n1_83 := lv_neT (a := 83) (fun q9 => c1_0 (.inr (.inr (.inr (.inr (.inr (.inr (.inl q9)))))))) (by decide)
  have n1_84 := lv_neT (a := 84) d1_11 (by decide)
  have n1_85 := lv_neT (a := 85) d1_12 (by decide)
  have n1_86 := lv_neT (a := 86) d1_13 (by decide)
  have n1_87 := lv_neT (a := 87) d1_14 (by decide)
  have n1_88 := lv_neT (a := 88) d1_15 (by decide)
  have n1_89 := lv_neT (a := 89) d1_16 (by decide)
  have n1_90 := lv_neT (a := 90) (fun q9 => c1_0 (.inr (.inr (.inr (.inr (.inr (.inr (.inr q9)))))))) (by decide)
  exact x_tableOut (tgt := 118) X dX3_isPlainType_1 (by omega) (by decide) k9
set_option maxRecDepth 100000 in
set_option maxHeartbeats 4000000 in
theorem w_X3_fieldTypeEnd_j23 {K : Cx} {g : Gw} (ret : Int32) (X : XC K g cX3_fieldTypeEnd 5 RX3 (some .int) rm_X3_fieldTypeEnd) (u : St) (h : f_X3_fieldTypeEnd_j23 u = some ret) : XW K 0 0 5 (QI K g (wdX g) (ret, u)) (wdX g) u 23 [] [] := by
  unfold f_X3_fieldTypeEnd_j23 at h
  refine x_iconst (v := (-1)) X dX3_fieldTypeEnd_23 (by decide) ?_
  exact x_iret X (roE (Option.some.inj h)) dX3_fieldTypeEnd_24
abbrev H_X3_fieldTypeEnd_55 (x2 : Int32) (x3 : Int32) (K : Cx) (g : Gw) (u : St) (ret : Int32) (a : Int32) : Prop := XW K 0 0 5 (QI K g (wdX g) (ret, u)) (wdX g) u 55 [(0, .ref (g.1 8)), (2, .int x2), (3, .int x3), (4, .int a)] []
abbrev E_X3_fieldTypeEnd_55 (x2 : Int32) (x3 : Int32) (K : Cx) (g : Gw) (u : St) (ret : Int32) (q : (Int32) ⊕ (Int32)) : Prop := Sum.elim (fun q => q = ret) (fun q => XW K 0 0 5 (QI K g (wdX g) (ret, u)) (wdX g) u 76 [(0, .ref (g.1 8)), (2, .int x2), (3, .int x3), (4, .int q)] []) q
set_option maxRecDepth 100000 in
set_option maxHeartbeats 4000000 in
theorem w_X3_fieldTypeEnd_b55 {K : Cx} {g : Gw} (x2 : Int32) (x3 : Int32) (u : St) (ret : Int32) (X : XC K g cX3_fieldTypeEnd 5 RX3 (some .int) rm_X3_fieldTypeEnd) (a : Int32) (r : ((Int32) ⊕ (Int32)) ⊕ (Int32)) (h : f_X3_fieldTypeEnd_b55 x2 x3 u a = some r) (k0 : ∀ q, r = .inl q → E_X3_fieldTypeEnd_55 x2 x3 K g u ret q) (k1 : ∀ q, r = .inr q → H_X3_fieldTypeEnd_55 x2 x3 K g u ret q) : H_X3_fieldTypeEnd_55 x2 x3 K g u ret a := by
  unfold f_X3_fieldTypeEnd_b55 at h
  show XW K 0 0 5 (QI K g (wdX g) (ret, u)) (wdX g) u 55 [(0, .ref (g.1 8)), (2, .int x2), (3, .int x3), (4, .int a)] []
  refine x_iload X dX3_fieldTypeEnd_55 3 rfl ?_
  refine x_iload_n X dX3_fieldTypeEnd_57 rfl 1 rfl ?_
  refine x_icmp_ge (tgt := 76) X dX3_fieldTypeEnd_58 (by decide) (fun c6 => ?_) (fun c6 => ?_)
  · replace h := if_t c6 h
    have h9 := k0 _ (Option.some.inj h).symm
    exact h9
  · replace h := if_f c6 h
    refine x_aload_n X dX3_fieldTypeEnd_61 rfl 0 rfl ?_
    refine x_iload X dX3_fieldTypeEnd_62 3 rfl ?_
    obtain ⟨i7, h⟩ := chk_some h
    refine x_iald (f := (u 22)) X 8 0 rfl rfl i7 dX3_fieldTypeEnd_64 ?_
    refine x_bipush (v := 59) X dX3_fieldTypeEnd_65 (by decide) ?_
    refine x_icmp_eq (tgt := 76) X dX3_fieldTypeEnd_67 (by decide) (fun c8 => ?_) (fun c8 => ?_)
    · replace h := if_t c8 h
      have h9 := k0 _ (Option.some.inj h).symm
      exact h9
    · replace h := if_f c8 h
      refine x_iinc (v := (a + 1)) (lv2 := [(4, .int (a + 1)), (0, .ref (g.1 8)), (2, .int x2), (3, .int x3)]) X dX3_fieldTypeEnd_70 3 rfl rfl (by decide) rfl ?_
      refine x_goto (tgt := 55) X dX3_fieldTypeEnd_73 (by decide) ?_
      refine x_sub [1, 2, 3, 0] rfl ?_
      have h9 := k1 _ (Option.some.inj h).symm
      exact h9
set_option maxRecDepth 100000 in
set_option maxHeartbeats 4000000 in
theorem w_X3_fieldTypeEnd_j102 {K : Cx} {g : Gw} (ret : Int32) (X : XC K g cX3_fieldTypeEnd 5 RX3 (some .int) rm_X3_fieldTypeEnd) (z0 : Int32) (u : St) (h : f_X3_fieldTypeEnd_j102 z0 u = some ret) : XW K 0 0 5 (QI K g (wdX g) (ret, u)) (wdX g) u 102 [] [.int z0] := by
  unfold f_X3_fieldTypeEnd_j102 at h
  exact x_iret X (roE (Option.some.inj h)) dX3_fieldTypeEnd_102
set_option maxRecDepth 100000 in
set_option maxHeartbeats 4000000 in
theorem w_X3_fieldTypeEnd_j101 {K : Cx} {g : Gw} (ret : Int32) (X : XC K g cX3_fieldTypeEnd 5 RX3 (some .int) rm_X3_fieldTypeEnd) (u : St) (h : f_X3_fieldTypeEnd_j101 u = some ret) : XW K 0 0 5 (QI K g (wdX g) (ret, u)) (wdX g) u 101 [] [] := by
  unfold f_X3_fieldTypeEnd_j101 at h
  refine x_iconst (v := (-1)) X dX3_fieldTypeEnd_101 (by decide) ?_
  exact w_X3_fieldTypeEnd_j102 ret X (-1) u h
set_option maxRecDepth 100000 in
set_option maxHeartbeats 4000000 in
theorem w_X3_fieldTypeEnd_j76 {K : Cx} {g : Gw} (ret : Int32) (X : XC K g cX3_fieldTypeEnd 5 RX3 (some .int) rm_X3_fieldTypeEnd) (x2 : Int32) (x3 : Int32) (x4 : Int32) (u : St) (h : f_X3_fieldTypeEnd_j76 x2 x3 x4 u = some ret) : XW K 0 0 5 (QI K g (wdX g) (ret, u)) (wdX g) u 76 [(0, .ref (g.1 8)), (2, .int x2), (3, .int x3), (4, .int x4)] [] := by
  unfold f_X3_fieldTypeEnd_j76 at h
  refine x_iload X dX3_fieldTypeEnd_76 3 rfl ?_
  refine x_iload_n X dX3_fieldTypeEnd_78 rfl 1 rfl ?_
  refine x_icmp_ge (tgt := 101) X dX3_fieldTypeEnd_79 (by decide) (fun c10 => ?_) (fun c10 => ?_)
  · replace h := if_t c10 h
    refine x_sub [] rfl ?_
    exact w_X3_fieldTypeEnd_j101 ret X u h
  · replace h := if_f c10 h
    refine x_aload_n X dX3_fieldTypeEnd_82 rfl 0 rfl ?_
    refine x_iload_n X dX3_fieldTypeEnd_83 rfl 2 rfl ?_
    refine x_iconst (v := 1) X dX3_fieldTypeEnd_84 (by decide) ?_
    refine x_iadd X dX3_fieldTypeEnd_85 ?_
    refine x_iload X dX3_fieldTypeEnd_86 3 rfl ?_
    obtain ⟨q11, e11, h⟩ := bd h
    refine x_scallR X [.ref (g.1 8), .int (x3 + 1), .int x4] [] (c_X3_isClassName K.l K.D g (x3 + 1) x4 u q11 e11) ok_X3_isClassName m_X3_31 rfl rfl (Nat.le_of_ble_eq_true rfl) ⟨Nat.zero_le _, Nat.zero_le _⟩ ⟨rfl, rfl, by decide, by decide⟩ dX3_fieldTypeEnd_88 ?_
    refine x_if_eq (tgt := 101) X dX3_fieldTypeEnd_91 (by decide) (fun c12 => ?_) (fun c12 => ?_)
    · replace h := if_t c12 h
      refine x_sub [] rfl ?_
      exact w_X3_fieldTypeEnd_j101 ret X u h
    · replace h := if_f c12 h
      refine x_iload X dX3_fieldTypeEnd_94 3 rfl ?_
      refine x_iconst (v := 1) X dX3_fieldTypeEnd_96 (by decide) ?_
      refine x_iadd X dX3_fieldTypeEnd_97 ?_
      refine x_goto (tgt := 102) X dX3_fieldTypeEnd_98 (by decide) ?_
      refine x_sub [] rfl ?_
      exact w_X3_fieldTypeEnd_j102 ret X (x4 + 1) u h
set_option maxRecDepth 100000 in
set_option maxHeartbeats 4000000 in
theorem w_X3_fieldTypeEnd_j49 {K : Cx} {g : Gw} (ret : Int32) (X : XC K g cX3_fieldTypeEnd 5 RX3 (some .int) rm_X3_fieldTypeEnd) (z0 : Int32) (u : St) (h : f_X3_fieldTypeEnd_j49 z0 u = some ret) : XW K 0 0 5 (QI K g (wdX g) (ret, u)) (wdX g) u 49 [] [.int z0] := by
  unfold f_X3_fieldTypeEnd_j49 at h
  exact x_iret X (roE (Option.some.inj h)) dX3_fieldTypeEnd_49
set_option maxRecDepth 100000 in
set_option maxHeartbeats 4000000 in
theorem c_X3_fieldTypeEnd (l : Launch) (D : va_G) (g : Gw) (p1 : Int32) (p2 : Int32) (u : St) (ret : Int32) (h : f_X3_fieldTypeEnd p1 p2 u = some ret) : metI l D g (wdX g) yX3_fieldTypeEnd cX3_fieldTypeEnd 5 .int rm_X3_fieldTypeEnd [.ref (g.1 8), .int p1, .int p2] u (ret, u) := by
  refine metI_of (own := RX3) (lv := [(0, .ref (g.1 8)), (1, .int p1), (2, .int p2)]) (by decide) rfl rfl (Nat.le_of_ble_eq_true rfl) (fun K hl9 hD9 X => ?_)
  subst hl9
  subst hD9
  unfold f_X3_fieldTypeEnd at h
  refine x_iload_n X dX3_fieldTypeEnd_0 rfl 1 rfl ?_
  refine x_aload_n X dX3_fieldTypeEnd_1 rfl 0 rfl ?_
  refine x_iload_n X dX3_fieldTypeEnd_2 rfl 1 rfl ?_
  refine x_iload_n X dX3_fieldTypeEnd_3 rfl 2 rfl ?_
  obtain ⟨q1, e1, h⟩ := bd h
  refine x_scallR X [.ref (g.1 8), .int p1, .int p2] [.int p1] (c_X3_brackets K.l K.D g p1 p2 u q1 e1) ok_X3_brackets m_X3_24 rfl rfl (Nat.le_of_ble_eq_true rfl) ⟨Nat.zero_le _, Nat.zero_le _⟩ ⟨rfl, rfl, by decide, by decide⟩ dX3_fieldTypeEnd_4 ?_
  refine x_iadd X dX3_fieldTypeEnd_7 ?_
  refine x_istore_n (lv2 := [(3, .int (p1 + q1)), (0, .ref (g.1 8)), (1, .int p1), (2, .int p2)]) X dX3_fieldTypeEnd_8 rfl (by decide) rfl ?_
  refine x_iload_n X dX3_fieldTypeEnd_9 rfl 0 rfl ?_
  refine x_iload_n X dX3_fieldTypeEnd_10 rfl 3 rfl ?_
  refine x_icmp_ge (tgt := 23) X dX3_fieldTypeEnd_11 (by decide) (fun c2 => ?_) (fun c2 => ?_)
  · replace h := if_t c2 h
    refine x_sub [] rfl ?_
    exact w_X3_fieldTypeEnd_j23 ret X u h
  · replace h := if_f c2 h
    refine x_iload_n X dX3_fieldTypeEnd_14 rfl 0 rfl ?_
    refine x_iload_n X dX3_fieldTypeEnd_15 rfl 2 rfl ?_
    refine x_isub X dX3_fieldTypeEnd_16 ?_
    refine x_sipush (v := 255) X dX3_fieldTypeEnd_17 (by decide) ?_
    refine x_icmp_le (tgt := 25) X dX3_fieldTypeEnd_20 (by decide) (fun c3 => ?_) (fun c3 => ?_)
    · replace h := if_t c3 h
      refine x_aload_n X dX3_fieldTypeEnd_25 rfl 1 rfl ?_
      refine x_iload_n X dX3_fieldTypeEnd_26 rfl 0 rfl ?_
      obtain ⟨i4, h⟩ := chk_some h
      refine x_iald (f := (u 22)) X 8 0 rfl rfl i4 dX3_fieldTypeEnd_27 ?_
      refine x_bipush (v := 76) X dX3_fieldTypeEnd_28 (by decide) ?_
      refine x_icmp_eq (tgt := 50) X dX3_fieldTypeEnd_30 (by decide) (fun c5 => ?_) (fun c5 => ?_)
      · replace h := if_t c5 h
        refine x_iload_n X dX3_fieldTypeEnd_50 rfl 0 rfl ?_
        refine x_iconst (v := 1) X dX3_fieldTypeEnd_51 (by decide) ?_
        refine x_iadd X dX3_fieldTypeEnd_52 ?_
        refine x_istore (lv2 := [(4, .int ((p1 + q1) + 1)), (3, .int (p1 + q1)), (0, .ref (g.1 8)), (1, .int p1), (2, .int p2)]) X dX3_fieldTypeEnd_53 (by decide) rfl ?_
        refine x_sub [2, 4, 1, 0] rfl ?_
        obtain ⟨q90, e9, h⟩ := bd h
        refine loopF_w (WH := H_X3_fieldTypeEnd_55 p2 (p1 + q1) K g u ret) (KB := E_X3_fieldTypeEnd_55 p2 (p1 + q1) K g u ret) (fun a9 r9 h9 k8 k7 => w_X3_fieldTypeEnd_b55 p2 (p1 + q1) u ret X a9 r9 h9 k8 k7) FU ((p1 + q1) + 1) q90 e9 ?_
        rcases q90 with q9 | q9
        · replace h := sl h
          exact (Option.some.inj h)
        · replace h := sr h
          show XW K 0 0 5 (QI K g (wdX g) (ret, u)) (wdX g) u 76 [(0, .ref (g.1 8)), (2, .int p2), (3, .int (p1 + q1)), (4, .int q9)] []
          exact w_X3_fieldTypeEnd_j76 ret X p2 (p1 + q1) q9 u h
      · replace h := if_f c5 h
        refine x_aload_n X dX3_fieldTypeEnd_33 rfl 1 rfl ?_
        refine x_iload_n X dX3_fieldTypeEnd_34 rfl 0 rfl ?_
        obtain ⟨i13, h⟩ := chk_some h
        refine x_iald (f := (u 22)) X 8 0 rfl rfl i13 dX3_fieldTypeEnd_35 ?_
        obtain ⟨q14, e14, h⟩ := bd h
        refine x_scallR X [.int ((u 22) (Int32.toNatClampNeg (p1 + q1)))] [] (c_X3_isPlainType K.l K.D g ((u 22) (Int32.toNatClampNeg (p1 + q1))) u q14 e14) ok_X3_isPlainType m_X3_27 rfl rfl (Nat.le_of_ble_eq_true rfl) ⟨Nat.zero_le _, Nat.zero_le _⟩ ⟨rfl, rfl, by decide, by decide⟩ dX3_fieldTypeEnd_36 ?_
        refine x_if_eq (tgt := 48) X dX3_fieldTypeEnd_39 (by decide) (fun c15 => ?_) (fun c15 => ?_)
        · replace h := if_t c15 h
          refine x_iconst (v := (-1)) X dX3_fieldTypeEnd_48 (by decide) ?_
          refine x_sub [] rfl ?_
          exact w_X3_fieldTypeEnd_j49 ret X (-1) u h
        · replace h := if_f c15 h
          refine x_iload_n X dX3_fieldTypeEnd_42 rfl 0 rfl ?_
          refine x_iconst (v := 1) X dX3_fieldTypeEnd_43 (by decide) ?_
          refine x_iadd X dX3_fieldTypeEnd_44 ?_
          refine x_goto (tgt := 49) X dX3_fieldTypeEnd_45 (by decide) ?_
          refine x_sub [] rfl ?_
          exact w_X3_fieldTypeEnd_j49 ret X ((p1 + q1) + 1) u h
    · replace h := if_f c3 h
      refine x_sub [] rfl ?_
      exact w_X3_fieldTypeEnd_j23 ret X u h
