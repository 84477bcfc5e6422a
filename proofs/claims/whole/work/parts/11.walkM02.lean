abbrev H_X7_spells_a12_15 (x1 : Int32) (K : Cx) (g : Gw) (u : St) (ret : Int32) (a : Int32) : Prop := XW K 0 0 4 (QI K g (wdM g) (ret, u)) (wdM g) u 15 [(0, .ref (g.1 0)), (1, .int x1), (2, .ref (g.1 12)), (3, .int a)] []
abbrev E_X7_spells_a12_15 (x1 : Int32) (K : Cx) (g : Gw) (u : St) (ret : Int32) (q : (Int32) ⊕ (Unit)) : Prop := Sum.elim (fun q => q = ret) (fun q => XW K 0 0 4 (QI K g (wdM g) (ret, u)) (wdM g) u 41 [] []) q
set_option maxRecDepth 100000 in
set_option maxHeartbeats 4000000 in
theorem w_X7_spells_a12_b15 {K : Cx} {g : Gw} (x1 : Int32) (u : St) (ret : Int32) (X : XC K g cX7_spells 4 RX7 (some .boolean) rm_X7_spells) (a : Int32) (r : ((Int32) ⊕ (Unit)) ⊕ (Int32)) (h : f_X7_spells_a12_b15 x1 u a = some r) (k0 : ∀ q, r = .inl q → E_X7_spells_a12_15 x1 K g u ret q) (k1 : ∀ q, r = .inr q → H_X7_spells_a12_15 x1 K g u ret q) : H_X7_spells_a12_15 x1 K g u ret a := by
  unfold f_X7_spells_a12_b15 at h
  show XW K 0 0 4 (QI K g (wdM g) (ret, u)) (wdM g) u 15 [(0, .ref (g.1 0)), (1, .int x1), (2, .ref (g.1 12)), (3, .int a)] []
  refine x_iload_n X dX7_spells_15 rfl 3 rfl ?_
  refine x_aload_n X dX7_spells_16 rfl 2 rfl ?_
  refine x_alen (v := 6) X 12 0 rfl rfl rfl dX7_spells_17 ?_
  refine x_icmp_ge (tgt := 41) X dX7_spells_18 (by decide) (fun c3 => ?_) (fun c3 => ?_)
  · replace h := if_t c3 h
    refine x_sub [] rfl ?_
    have h9 := k0 _ (Option.some.inj h).symm
    exact h9
  · replace h := if_f c3 h
    refine x_aload_n X dX7_spells_21 rfl 0 rfl ?_
    refine x_iload_n X dX7_spells_22 rfl 1 rfl ?_
    refine x_iload_n X dX7_spells_23 rfl 3 rfl ?_
    obtain ⟨q4, e4, h⟩ := bd h
    refine x_callR X [.int x1, .int a] [] (c_X7_letter K.l K.D g x1 a u q4 e4) ok_X7_letter m_X7_101 0 rfl rfl rfl rfl (Nat.le_of_ble_eq_true rfl) ⟨Nat.zero_le _, Nat.zero_le _⟩ ⟨rfl, rfl, by decide, by decide⟩ dX7_spells_24 ?_
    refine x_aload_n X dX7_spells_27 rfl 2 rfl ?_
    refine x_iload_n X dX7_spells_28 rfl 3 rfl ?_
    obtain ⟨i5, h⟩ := chk_some h
    refine x_iald (f := (u 41)) X 12 0 rfl rfl i5 dX7_spells_29 ?_
    refine x_icmp_eq (tgt := 35) X dX7_spells_30 (by decide) (fun c6 => ?_) (fun c6 => ?_)
    · replace h := if_t c6 h
      refine x_iinc (v := (a + 1)) (lv2 := [(3, .int (a + 1)), (0, .ref (g.1 0)), (1, .int x1), (2, .ref (g.1 12))]) X dX7_spells_35 3 rfl rfl (by decide) rfl ?_
      refine x_goto (tgt := 15) X dX7_spells_38 (by decide) ?_
      refine x_sub [1, 2, 3, 0] rfl ?_
      have h9 := k1 _ (Option.some.inj h).symm
      exact h9
    · replace h := if_f c6 h
      refine x_iconst (v := 0) X dX7_spells_33 (by decide) ?_
      exact x_zret X rfl (roE (k0 _ (Option.some.inj h).symm)) dX7_spells_34
set_option maxRecDepth 100000 in
set_option maxHeartbeats 4000000 in
theorem c_X7_spells_a12 (l : Launch) (D : va_G) (g : Gw) (p0 : Int32) (u : St) (ret : Int32) (h : f_X7_spells_a12 p0 u = some ret) : metI l D g (wdM g) yX7_spells cX7_spells 4 .boolean rm_X7_spells [.ref (g.1 0), .int p0, .ref (g.1 12)] u (ret, u) := by
  refine metI_of (own := RX7) (lv := [(0, .ref (g.1 0)), (1, .int p0), (2, .ref (g.1 12))]) (by decide) rfl rfl (Nat.le_of_ble_eq_true rfl) (fun K hl9 hD9 X => ?_)
  subst hl9
  subst hD9
  unfold f_X7_spells_a12 at h
  refine x_aload_n X dX7_spells_0 rfl 0 rfl ?_
  refine x_get (v := .ref (g.1 7)) X 0 15 in_X7 rfl rfl (by decide) m_X7_28 rfl dX7_spells_1 ?_
  refine x_iload_n X dX7_spells_4 rfl 1 rfl ?_
  obtain ⟨i1, h⟩ := chk_some h
  refine x_iald (f := (u 36)) X 7 0 rfl rfl i1 dX7_spells_5 ?_
  refine x_aload_n X dX7_spells_6 rfl 2 rfl ?_
  refine x_alen (v := 6) X 12 0 rfl rfl rfl dX7_spells_7 ?_
  refine x_icmp_eq (tgt := 13) X dX7_spells_8 (by decide) (fun c2 => ?_) (fun c2 => ?_)
  · replace h := if_t c2 h
    refine x_iconst (v := 0) X dX7_spells_13 (by decide) ?_
    refine x_istore_n (lv2 := [(3, .int 0), (0, .ref (g.1 0)), (1, .int p0), (2, .ref (g.1 12))]) X dX7_spells_14 rfl (by decide) rfl ?_
    refine x_sub [1, 2, 3, 0] rfl ?_
    obtain ⟨q70, e7, h⟩ := bd h
    refine loopF_w (WH := H_X7_spells_a12_15 p0 K g u ret) (KB := E_X7_spells_a12_15 p0 K g u ret) (fun a9 r9 h9 k8 k7 => w_X7_spells_a12_b15 p0 u ret X a9 r9 h9 k8 k7) FU 0 q70 e7 ?_
    rcases q70 with q7 | q7
    · replace h := sl h
      exact (Option.some.inj h)
    · replace h := sr h
      show XW K 0 0 4 (QI K g (wdM g) (ret, u)) (wdM g) u 41 [] []
      refine x_iconst (v := 1) X dX7_spells_41 (by decide) ?_
      exact x_zret X rfl (roE (Option.some.inj h)) dX7_spells_42
  · replace h := if_f c2 h
    refine x_iconst (v := 0) X dX7_spells_11 (by decide) ?_
    exact x_zret X rfl (roE (Option.some.inj h)) dX7_spells_12
abbrev H_X7_spells_a13_15 (x1 : Int32) (K : Cx) (g : Gw) (u : St) (ret : Int32) (a : Int32) : Prop := XW K 0 0 4 (QI K g (wdM g) (ret, u)) (wdM g) u 15 [(0, .ref (g.1 0)), (1, .int x1), (2, .ref (g.1 13)), (3, .int a)] []
abbrev E_X7_spells_a13_15 (x1 : Int32) (K : Cx) (g : Gw) (u : St) (ret : Int32) (q : (Int32) ⊕ (Unit)) : Prop := Sum.elim (fun q => q = ret) (fun q => XW K 0 0 4 (QI K g (wdM g) (ret, u)) (wdM g) u 41 [] []) q
set_option maxRecDepth 100000 in
set_option maxHeartbeats 4000000 in
theorem w_X7_spells_a13_b15 {K : Cx} {g : Gw} (x1 : Int32) (u : St) (ret : Int32) (X : XC K g cX7_spells 4 RX7 (some .boolean) rm_X7_spells) (a : Int32) (r : ((Int32) ⊕ (Unit)) ⊕ (Int32)) (h : f_X7_spells_a13_b15 x1 u a = some r) (k0 : ∀ q, r = .inl q → E_X7_spells_a13_15 x1 K g u ret q) (k1 : ∀ q, r = .inr q → H_X7_spells_a13_15 x1 K g u ret q) : H_X7_spells_a13_15 x1 K g u ret a := by
  unfold f_X7_spells_a13_b15 at h
  show XW K 0 0 4 (QI K g (wdM g) (ret, u)) (wdM g) u 15 [(0, .ref (g.1 0)), (1, .int x1), (2, .ref (g.1 13)), (3, .int a)] []
  refine x_iload_n X dX7_spells_15 rfl 3 rfl ?_
  refine x_aload_n X dX7_spells_16 rfl 2 rfl ?_
  refine x_alen (v := 8) X 13 0 rfl rfl rfl dX7_spells_17 ?_
  refine x_icmp_ge (tgt := 41) X dX7_spells_18 (by decide) (fun c3 => ?_) (fun c3 => ?_)
  · replace h := if_t c3 h
    refine x_sub [] rfl ?_
    have h9 := k0 _ (Option.some.inj h).symm
    exact h9
  · replace h := if_f c3 h
    refine x_aload_n X dX7_spells_21 rfl 0 rfl ?_
    refine x_iload_n X dX7_spells_22 rfl 1 rfl ?_
    refine x_iload_n X dX7_spells_23 rfl 3 rfl ?_
    obtain ⟨q4, e4, h⟩ := bd h
    refine x_callR X [.int x1, .int a] [] (c_X7_letter K.l K.D g x1 a u q4 e4) ok_X7_letter m_X7_101 0 rfl rfl rfl rfl (Nat.le_of_ble_eq_true rfl) ⟨Nat.zero_le _, Nat.zero_le _⟩ ⟨rfl, rfl, by decide, by decide⟩ dX7_spells_24 ?_
    refine x_aload_n X dX7_spells_27 rfl 2 rfl ?_
    refine x_iload_n X dX7_spells_28 rfl 3 rfl ?_
    obtain ⟨i5, h⟩ := chk_some h
    refine x_iald (f := (u 42)) X 13 0 rfl rfl i5 dX7_spells_29 ?_
    refine x_icmp_eq (tgt := 35) X dX7_spells_30 (by decide) (fun c6 => ?_) (fun c6 => ?_)
    · replace h := if_t c6 h
      refine x_iinc (v := (a + 1)) (lv2 := [(3, .int (a + 1)), (0, .ref (g.1 0)), (1, .int x1), (2, .ref (g.1 13))]) X dX7_spells_35 3 rfl rfl (by decide) rfl ?_
      refine x_goto (tgt := 15) X dX7_spells_38 (by decide) ?_
      refine x_sub [1, 2, 3, 0] rfl ?_
      have h9 := k1 _ (Option.some.inj h).symm
      exact h9
    · replace h := if_f c6 h
      refine x_iconst (v := 0) X dX7_spells_33 (by decide) ?_
      exact x_zret X rfl (roE (k0 _ (Option.some.inj h).symm)) dX7_spells_34
set_option maxRecDepth 100000 in
set_option maxHeartbeats 4000000 in
theorem c_X7_spells_a13 (l : Launch) (D : va_G) (g : Gw) (p0 : Int32) (u : St) (ret : Int32) (h : f_X7_spells_a13 p0 u = some ret) : metI l D g (wdM g) yX7_spells cX7_spells 4 .boolean rm_X7_spells [.ref (g.1 0), .int p0, .ref (g.1 13)] u (ret, u) := by
  refine metI_of (own := RX7) (lv := [(0, .ref (g.1 0)), (1, .int p0), (2, .ref (g.1 13))]) (by decide) rfl rfl (Nat.le_of_ble_eq_true rfl) (fun K hl9 hD9 X => ?_)
  subst hl9
  subst hD9
  unfold f_X7_spells_a13 at h
  refine x_aload_n X dX7_spells_0 rfl 0 rfl ?_
  refine x_get (v := .ref (g.1 7)) X 0 15 in_X7 rfl rfl (by decide) m_X7_28 rfl dX7_spells_1 ?_
  refine x_iload_n X dX7_spells_4 rfl 1 rfl ?_
  obtain ⟨i1, h⟩ := chk_some h
  refine x_iald (f := (u 36)) X 7 0 rfl rfl i1 dX7_spells_5 ?_
  refine x_aload_n X dX7_spells_6 rfl 2 rfl ?_
  refine x_alen (v := 8) X 13 0 rfl rfl rfl dX7_spells_7 ?_
  refine x_icmp_eq (tgt := 13) X dX7_spells_8 (by decide) (fun c2 => ?_) (fun c2 => ?_)
  · replace h := if_t c2 h
    refine x_iconst (v := 0) X dX7_spells_13 (by decide) ?_
    refine x_istore_n (lv2 := [(3, .int 0), (0, .ref (g.1 0)), (1, .int p0), (2, .ref (g.1 13))]) X dX7_spells_14 rfl (by decide) rfl ?_
    refine x_sub [1, 2, 3, 0] rfl ?_
    obtain ⟨q70, e7, h⟩ := bd h
    refine loopF_w (WH := H_X7_spells_a13_15 p0 K g u ret) (KB := E_X7_spells_a13_15 p0 K g u ret) (fun a9 r9 h9 k8 k7 => w_X7_spells_a13_b15 p0 u ret X a9 r9 h9 k8 k7) FU 0 q70 e7 ?_
    rcases q70 with q7 | q7
    · replace h := sl h
      exact (Option.some.inj h)
    · replace h := sr h
      show XW K 0 0 4 (QI K g (wdM g) (ret, u)) (wdM g) u 41 [] []
      refine x_iconst (v := 1) X dX7_spells_41 (by decide) ?_
      exact x_zret X rfl (roE (Option.some.inj h)) dX7_spells_42
  · replace h := if_f c2 h
    refine x_iconst (v := 0) X dX7_spells_11 (by decide) ?_
    exact x_zret X rfl (roE (Option.some.inj h)) dX7_spells_12
set_option maxRecDepth 100000 in
set_option maxHeartbeats 4000000 in
theorem w_X7_memberName_j24 {K : Cx} {g : Gw} (ret : Int32) (X : XC K g cX7_memberName 3 RX7 (some .boolean) rm_X7_memberName) (u : St) (h : f_X7_memberName_j24 u = some ret) : XW K 0 0 3 (QI K g (wdM g) (ret, u)) (wdM g) u 24 [] [] := by
  unfold f_X7_memberName_j24 at h
  refine x_iconst (v := 1) X dX7_memberName_24 (by decide) ?_
  exact x_zret X rfl (roE (Option.some.inj h)) dX7_memberName_25
abbrev H_X7_memberName_28 (x1 : Int32) (K : Cx) (g : Gw) (u : St) (ret : Int32) (a : Int32) : Prop := XW K 0 0 3 (QI K g (wdM g) (ret, u)) (wdM g) u 28 [(0, .ref (g.1 0)), (1, .int x1), (2, .int a)] []
abbrev E_X7_memberName_28 (x1 : Int32) (K : Cx) (g : Gw) (u : St) (ret : Int32) (q : (Int32) ⊕ (Unit)) : Prop := Sum.elim (fun q => q = ret) (fun q => XW K 0 0 3 (QI K g (wdM g) (ret, u)) (wdM g) u 68 [(0, .ref (g.1 0)), (1, .int x1)] []) q
set_option maxRecDepth 100000 in
set_option maxHeartbeats 4000000 in
theorem w_X7_memberName_j60_28 {K : Cx} {g : Gw} (ret : Int32) (X : XC K g cX7_memberName 3 RX7 (some .boolean) rm_X7_memberName) (x1 : Int32) (u : St) (r : ((Int32) ⊕ (Unit)) ⊕ (Int32)) (h : f_X7_memberName_j60_28 x1 u = some r) (k0 : ∀ q, r = .inl q → E_X7_memberName_28 x1 K g u ret q) (k1 : ∀ q, r = .inr q → H_X7_memberName_28 x1 K g u ret q) : XW K 0 0 3 (QI K g (wdM g) (ret, u)) (wdM g) u 60 [(1, .int x1)] [] := by
  unfold f_X7_memberName_j60_28 at h
  refine x_iconst (v := 0) X dX7_memberName_60 (by decide) ?_
  exact x_zret X rfl (roE (k0 _ (Option.some.inj h).symm)) dX7_memberName_61
set_option maxRecDepth 100000 in
set_option maxHeartbeats 4000000 in
theorem w_X7_memberName_b28 {K : Cx} {g : Gw} (x1 : Int32) (u : St) (ret : Int32) (X : XC K g cX7_memberName 3 RX7 (some .boolean) rm_X7_memberName) (a : Int32) (r : ((Int32) ⊕ (Unit)) ⊕ (Int32)) (h : f_X7_memberName_b28 x1 u a = some r) (k0 : ∀ q, r = .inl q → E_X7_memberName_28 x1 K g u ret q) (k1 : ∀ q, r = .inr q → H_X7_memberName_28 x1 K g u ret q) : H_X7_memberName_28 x1 K g u ret a := by
  unfold f_X7_memberName_b28 at h
  show XW K 0 0 3 (QI K g (wdM g) (ret, u)) (wdM g) u 28 [(0, .ref (g.1 0)), (1, .int x1), (2, .int a)] []
  refine x_iload_n X dX7_memberName_28 rfl 2 rfl ?_
  refine x_aload_n X dX7_memberName_29 rfl 0 rfl ?_
  refine x_get (v := .ref (g.1 7)) X 0 15 in_X7 rfl rfl (by decide) m_X7_28 rfl dX7_memberName_30 ?_
  refine x_iload_n X dX7_memberName_33 rfl 1 rfl ?_
  obtain ⟨i5, h⟩ := chk_some h
  refine x_iald (f := (u 36)) X 7 0 rfl rfl i5 dX7_memberName_34 ?_
  refine x_icmp_ge (tgt := 68) X dX7_memberName_35 (by decide) (fun c6 => ?_) (fun c6 => ?_)
  · replace h := if_t c6 h
    refine x_sub [0, 1] rfl ?_
    have h9 := k0 _ (Option.some.inj h).symm
    exact h9
  · replace h := if_f c6 h
    refine x_aload_n X dX7_memberName_38 rfl 0 rfl ?_
    refine x_iload_n X dX7_memberName_39 rfl 1 rfl ?_
    refine x_iload_n X dX7_memberName_40 rfl 2 rfl ?_
    obtain ⟨q7, e7, h⟩ := bd h
    refine x_callR X [.int x1, .int a] [] (c_X7_letter K.l K.D g x1 a u q7 e7) ok_X7_letter m_X7_101 0 rfl rfl rfl rfl (Nat.le_of_ble_eq_true rfl) ⟨Nat.zero_le _, Nat.zero_le _⟩ ⟨rfl, rfl, by decide, by decide⟩ dX7_memberName_41 ?_
    refine x_bipush (v := 60) X dX7_memberName_44 (by decide) ?_
    refine x_icmp_eq (tgt := 60) X dX7_memberName_46 (by decide) (fun c8 => ?_) (fun c8 => ?_)
    · replace h := if_t c8 h
      refine x_sub [1] rfl ?_
      exact w_X7_memberName_j60_28 ret X x1 u r h k0 k1
    · replace h := if_f c8 h
      refine x_aload_n X dX7_memberName_49 rfl 0 rfl ?_
      refine x_iload_n X dX7_memberName_50 rfl 1 rfl ?_
      refine x_iload_n X dX7_memberName_51 rfl 2 rfl ?_
      obtain ⟨q9, e9, h⟩ := bd h
      refine x_callR X [.int x1, .int a] [] (c_X7_letter K.l K.D g x1 a u q9 e9) ok_X7_letter m_X7_101 0 rfl rfl rfl rfl (Nat.le_of_ble_eq_true rfl) ⟨Nat.zero_le _, Nat.zero_le _⟩ ⟨rfl, rfl, by decide, by decide⟩ dX7_memberName_52 ?_
      refine x_bipush (v := 62) X dX7_memberName_55 (by decide) ?_
      refine x_icmp_ne (tgt := 62) X dX7_memberName_57 (by decide) (fun c10 => ?_) (fun c10 => ?_)
      · replace h := if_f c10 h
        refine x_iinc (v := (a + 1)) (lv2 := [(2, .int (a + 1)), (0, .ref (g.1 0)), (1, .int x1)]) X dX7_memberName_62 2 rfl rfl (by decide) rfl ?_
        refine x_goto (tgt := 28) X dX7_memberName_65 (by decide) ?_
        refine x_sub [1, 2, 0] rfl ?_
        have h9 := k1 _ (Option.some.inj h).symm
        exact h9
      · replace h := if_t c10 h
        refine x_sub [1] rfl ?_
        exact w_X7_memberName_j60_28 ret X x1 u r h k0 k1
set_option maxRecDepth 100000 in
set_option maxHeartbeats 4000000 in
theorem c_X7_memberName (l : Launch) (D : va_G) (g : Gw) (p0 : Int32) (u : St) (ret : Int32) (h : f_X7_memberName p0 u = some ret) : metI l D g (wdM g) yX7_memberName cX7_memberName 3 .boolean rm_X7_memberName [.ref (g.1 0), .int p0] u (ret, u) := by
  refine metI_of (own := RX7) (lv := [(0, .ref (g.1 0)), (1, .int p0)]) (by decide) rfl rfl (Nat.le_of_ble_eq_true rfl) (fun K hl9 hD9 X => ?_)
  subst hl9
  subst hD9
  unfold f_X7_memberName at h
  refine x_aload_n X dX7_memberName_0 rfl 0 rfl ?_
  refine x_iload_n X dX7_memberName_1 rfl 1 rfl ?_
  refine x_aload_n X dX7_memberName_2 rfl 0 rfl ?_
  refine x_get (v := .ref (g.1 12)) X 0 28 in_X7 rfl rfl (by decide) m_X7_44 rfl dX7_memberName_3 ?_
  obtain ⟨q1, e1, h⟩ := bd h
  refine x_callR X [.int p0, .ref (g.1 12)] [] (c_X7_spells_a12 K.l K.D g p0 u q1 e1) ok_X7_spells m_X7_105 0 rfl rfl rfl rfl (Nat.le_of_ble_eq_true rfl) ⟨Nat.zero_le _, Nat.zero_le _⟩ ⟨rfl, rfl, by decide, by decide⟩ dX7_memberName_6 ?_
  refine x_if_ne (tgt := 24) X dX7_memberName_9 (by decide) (fun c2 => ?_) (fun c2 => ?_)
  · replace h := if_f c2 h
    refine x_sub [] rfl ?_
    exact w_X7_memberName_j24 ret X u h
  · replace h := if_t c2 h
    refine x_aload_n X dX7_memberName_12 rfl 0 rfl ?_
    refine x_iload_n X dX7_memberName_13 rfl 1 rfl ?_
    refine x_aload_n X dX7_memberName_14 rfl 0 rfl ?_
    refine x_get (v := .ref (g.1 13)) X 0 29 in_X7 rfl rfl (by decide) m_X7_47 rfl dX7_memberName_15 ?_
    obtain ⟨q3, e3, h⟩ := bd h
    refine x_callR X [.int p0, .ref (g.1 13)] [] (c_X7_spells_a13 K.l K.D g p0 u q3 e3) ok_X7_spells m_X7_105 0 rfl rfl rfl rfl (Nat.le_of_ble_eq_true rfl) ⟨Nat.zero_le _, Nat.zero_le _⟩ ⟨rfl, rfl, by decide, by decide⟩ dX7_memberName_18 ?_
    refine x_if_eq (tgt := 26) X dX7_memberName_21 (by decide) (fun c4 => ?_) (fun c4 => ?_)
    · replace h := if_t c4 h
      refine x_iconst (v := 0) X dX7_memberName_26 (by decide) ?_
      refine x_istore_n (lv2 := [(2, .int 0), (0, .ref (g.1 0)), (1, .int p0)]) X dX7_memberName_27 rfl (by decide) rfl ?_
      refine x_sub [1, 2, 0] rfl ?_
      obtain ⟨q110, e11, h⟩ := bd h
      refine loopF_w (WH := H_X7_memberName_28 p0 K g u ret) (KB := E_X7_memberName_28 p0 K g u ret) (fun a9 r9 h9 k8 k7 => w_X7_memberName_b28 p0 u ret X a9 r9 h9 k8 k7) FU 0 q110 e11 ?_
      rcases q110 with q11 | q11
      · replace h := sl h
        exact (Option.some.inj h)
      · replace h := sr h
        show XW K 0 0 3 (QI K g (wdM g) (ret, u)) (wdM g) u 68 [(0, .ref (g.1 0)), (1, .int p0)] []
        refine x_aload_n X dX7_memberName_68 rfl 0 rfl ?_
        refine x_iload_n X dX7_memberName_69 rfl 1 rfl ?_
        obtain ⟨q12, e12, h⟩ := bd h
        refine x_callR X [.int p0] [] (c_X7_fieldName K.l K.D g p0 u q12 e12) ok_X7_fieldName m_X7_109 0 rfl rfl rfl rfl (Nat.le_of_ble_eq_true rfl) ⟨Nat.zero_le _, Nat.zero_le _⟩ ⟨rfl, rfl, by decide, by decide⟩ dX7_memberName_70 ?_
        obtain ⟨b13, h⟩ := bchk_some h
        exact x_zret X b13 (roE (Option.some.inj h)) dX7_memberName_73
    · replace h := if_f c4 h
      refine x_sub [] rfl ?_
      exact w_X7_memberName_j24 ret X u h
abbrev H_X7_className_6 (x1 : Int32) (x3 : Int32) (K : Cx) (g : Gw) (u : St) (ret : Int32) (a : Int32 × Int32) : Prop := XW K 0 0 7 (QI K g (wdM g) (ret, u)) (wdM g) u 6 [(0, .ref (g.1 0)), (1, .int x1), (3, .int x3), (4, .int a.1), (5, .int a.2)] []
abbrev E_X7_className_6 (x1 : Int32) (x3 : Int32) (K : Cx) (g : Gw) (u : St) (ret : Int32) (q : (Int32) ⊕ (Int32)) : Prop := Sum.elim (fun q => q = ret) (fun q => XW K 0 0 7 (QI K g (wdM g) (ret, u)) (wdM g) u 79 [(4, .int q)] []) q
set_option maxRecDepth 100000 in
set_option maxHeartbeats 4000000 in
theorem w_X7_className_j54_6 {K : Cx} {g : Gw} (ret : Int32) (X : XC K g cX7_className 7 RX7 (some .boolean) rm_X7_className) (x1 : Int32) (x3 : Int32) (u : St) (r : ((Int32) ⊕ (Int32)) ⊕ (Int32 × Int32)) (h : f_X7_className_j54_6 x1 x3 u = some r) (k0 : ∀ q, r = .inl q → E_X7_className_6 x1 x3 K g u ret q) (k1 : ∀ q, r = .inr q → H_X7_className_6 x1 x3 K g u ret q) : XW K 0 0 7 (QI K g (wdM g) (ret, u)) (wdM g) u 54 [(1, .int x1), (3, .int x3)] [] := by
  unfold f_X7_className_j54_6 at h
  refine x_iconst (v := 0) X dX7_className_54 (by decide) ?_
  exact x_zret X rfl (roE (k0 _ (Option.some.inj h).symm)) dX7_className_55
set_option maxRecDepth 100000 in
set_option maxHeartbeats 4000000 in
theorem w_X7_className_j71_6 {K : Cx} {g : Gw} (ret : Int32) (X : XC K g cX7_className 7 RX7 (some .boolean) rm_X7_className) (x1 : Int32) (x3 : Int32) (x5 : Int32) (z0 : Int32) (u : St) (r : ((Int32) ⊕ (Int32)) ⊕ (Int32 × Int32)) (h : f_X7_className_j71_6 x1 x3 x5 z0 u = some r) (k0 : ∀ q, r = .inl q → E_X7_className_6 x1 x3 K g u ret q) (k1 : ∀ q, r = .inr q → H_X7_className_6 x1 x3 K g u ret q) : XW K 0 0 7 (QI K g (wdM g) (ret, u)) (wdM g) u 71 [(0, .ref (g.1 0)), (1, .int x1), (3, .int x3), (5, .int x5)] [.int z0] := by
  unfold f_X7_className_j71_6 at h
  refine x_istore (lv2 := [(4, .int z0), (0, .ref (g.1 0)), (1, .int x1), (3, .int x3), (5, .int x5)]) X dX7_className_71 (by decide) rfl ?_
  refine x_iinc (v := (x5 + 1)) (lv2 := [(5, .int (x5 + 1)), (4, .int z0), (0, .ref (g.1 0)), (1, .int x1), (3, .int x3)]) X dX7_className_73 4 rfl rfl (by decide) rfl ?_
  refine x_goto (tgt := 6) X dX7_className_76 (by decide) ?_
  refine x_sub [2, 3, 4, 1, 0] rfl ?_
  have h9 := k1 _ (Option.some.inj h).symm
  exact h9
set_option maxRecDepth 100000 in
set_option maxHeartbeats 4000000 in
theorem w_X7_className_j56_6 {K : Cx} {g : Gw} (ret : Int32) (X : XC K g cX7_className 7 RX7 (some .boolean) rm_X7_className) (x1 : Int32) (x3 : Int32) (x4 : Int32) (x5 : Int32) (x6 : Int32) (u : St) (r : ((Int32) ⊕ (Int32)) ⊕ (Int32 × Int32)) (h : f_X7_className_j56_6 x1 x3 x4 x5 x6 u = some r) (k0 : ∀ q, r = .inl q → E_X7_className_6 x1 x3 K g u ret q) (k1 : ∀ q, r = .inr q → H_X7_className_6 x1 x3 K g u ret q) : XW K 0 0 7 (QI K g (wdM g) (ret, u)) (wdM g) u 56 [(0, .ref (g.1 0)), (1, .int x1), (3, .int x3), (4, .int x4), (5, .int x5), (6, .int x6)] [] := by
  unfold f_X7_className_j56_6 at h
  refine x_iload X dX7_className_56 5 rfl ?_
  refine x_bipush (v := 47) X dX7_className_58 (by decide) ?_
  refine x_icmp_ne (tgt := 67) X dX7_className_60 (by decide) (fun c7 => ?_) (fun c7 => ?_)
  · replace h := if_f c7 h
    refine x_iload X dX7_className_67 3 rfl ?_
    refine x_iconst (v := 1) X dX7_className_69 (by decide) ?_
    refine x_iadd X dX7_className_70 ?_
    refine x_sub [0, 1, 2, 4] rfl ?_
    exact w_X7_className_j71_6 ret X x1 x3 x5 (x4 + 1) u r h k0 k1
  · replace h := if_t c7 h
    refine x_iconst (v := 0) X dX7_className_63 (by decide) ?_
    refine x_goto (tgt := 71) X dX7_className_64 (by decide) ?_
    refine x_sub [0, 1, 2, 4] rfl ?_
    exact w_X7_className_j71_6 ret X x1 x3 x5 0 u r h k0 k1
set_option maxRecDepth 100000 in
set_option maxHeartbeats 4000000 in
theorem w_X7_className_b6 {K : Cx} {g : Gw} (x1 : Int32) (x3 : Int32) (u : St) (ret : Int32) (X : XC K g cX7_className 7 RX7 (some .boolean) rm_X7_className) (a : Int32 × Int32) (r : ((Int32) ⊕ (Int32)) ⊕ (Int32 × Int32)) (h : f_X7_className_b6 x1 x3 u a = some r) (k0 : ∀ q, r = .inl q → E_X7_className_6 x1 x3 K g u ret q) (k1 : ∀ q, r = .inr q → H_X7_className_6 x1 x3 K g u ret q) : H_X7_className_6 x1 x3 K g u ret a := by
  unfold f_X7_className_b6 at h
  show XW K 0 0 7 (QI K g (wdM g) (ret, u)) (wdM g) u 6 [(0, .ref (g.1 0)), (1, .int x1), (3, .int x3), (4, .int a.1), (5, .int a.2)] []
  refine x_iload X dX7_className_6 4 rfl ?_
  refine x_iload_n X dX7_className_8 rfl 2 rfl ?_
  refine x_icmp_ge (tgt := 79) X dX7_className_9 (by decide) (fun c1 => ?_) (fun c1 => ?_)
  · replace h := if_t c1 h
    refine x_sub [3] rfl ?_
    have h9 := k0 _ (Option.some.inj h).symm
    exact h9
  · replace h := if_f c1 h
    refine x_aload_n X dX7_className_12 rfl 0 rfl ?_
    refine x_iload_n X dX7_className_13 rfl 1 rfl ?_
    refine x_iload X dX7_className_14 4 rfl ?_
    obtain ⟨q2, e2, h⟩ := bd h
    refine x_callR X [.int x1, .int a.2] [] (c_X7_letter K.l K.D g x1 a.2 u q2 e2) ok_X7_letter m_X7_101 0 rfl rfl rfl rfl (Nat.le_of_ble_eq_true rfl) ⟨Nat.zero_le _, Nat.zero_le _⟩ ⟨rfl, rfl, by decide, by decide⟩ dX7_className_16 ?_
    refine x_istore (lv2 := [(6, .int q2), (0, .ref (g.1 0)), (1, .int x1), (3, .int x3), (4, .int a.1), (5, .int a.2)]) X dX7_className_19 (by decide) rfl ?_
    refine x_iload X dX7_className_21 0 rfl ?_
    refine x_bipush (v := 46) X dX7_className_23 (by decide) ?_
    refine x_icmp_eq (tgt := 54) X dX7_className_25 (by decide) (fun c3 => ?_) (fun c3 => ?_)
    · replace h := if_t c3 h
      refine x_sub [2, 3] rfl ?_
      exact w_X7_className_j54_6 ret X x1 x3 u r h k0 k1
    · replace h := if_f c3 h
      refine x_iload X dX7_className_28 0 rfl ?_
      refine x_bipush (v := 59) X dX7_className_30 (by decide) ?_
      refine x_icmp_eq (tgt := 54) X dX7_className_32 (by decide) (fun c4 => ?_) (fun c4 => ?_)
      · replace h := if_t c4 h
        refine x_sub [2, 3] rfl ?_
        exact w_X7_className_j54_6 ret X x1 x3 u r h k0 k1
      · replace h := if_f c4 h
        refine x_iload X dX7_className_35 0 rfl ?_
        refine x_bipush (v := 91) X dX7_className_37 (by decide) ?_
        refine x_icmp_eq (tgt := 54) X dX7_className_39 (by decide) (fun c5 => ?_) (fun c5 => ?_)
        · replace h := if_t c5 h
          refine x_sub [2, 3] rfl ?_
          exact w_X7_className_j54_6 ret X x1 x3 u r h k0 k1
        · replace h := if_f c5 h
          refine x_iload X dX7_className_42 0 rfl ?_
          refine x_bipush (v := 47) X dX7_className_44 (by decide) ?_
          refine x_icmp_ne (tgt := 56) X dX7_className_46 (by decide) (fun c6 => ?_) (fun c6 => ?_)
          · replace h := if_f c6 h
            refine x_sub [1, 2, 3, 4, 5, 0] rfl ?_
            exact w_X7_className_j56_6 ret X x1 x3 a.1 a.2 q2 u r h k0 k1
          · replace h := if_t c6 h
            refine x_iload X dX7_className_49 4 rfl ?_
            refine x_if_ne (tgt := 56) X dX7_className_51 (by decide) (fun c8 => ?_) (fun c8 => ?_)
            · replace h := if_f c8 h
              refine x_sub [1, 2, 3, 4, 5, 0] rfl ?_
              exact w_X7_className_j56_6 ret X x1 x3 a.1 a.2 q2 u r h k0 k1
            · replace h := if_t c8 h
              refine x_sub [2, 3] rfl ?_
              exact w_X7_className_j54_6 ret X x1 x3 u r h k0 k1
set_option maxRecDepth 100000 in
set_option maxHeartbeats 4000000 in
theorem w_X7_className_j89 {K : Cx} {g : Gw} (ret : Int32) (X : XC K g cX7_className 7 RX7 (some .boolean) rm_X7_className) (z0 : Int32) (u : St) (h : f_X7_className_j89 z0 u = some ret) : XW K 0 0 7 (QI K g (wdM g) (ret, u)) (wdM g) u 89 [] [.int z0] := by
  unfold f_X7_className_j89 at h
  obtain ⟨b11, h⟩ := bchk_some h
  exact x_zret X b11 (roE (Option.some.inj h)) dX7_className_89
set_option maxRecDepth 100000 in
set_option maxHeartbeats 4000000 in
theorem c_X7_className (l : Launch) (D : va_G) (g : Gw) (p0 : Int32) (p1 : Int32) (p2 : Int32) (u : St) (ret : Int32) (h : f_X7_className p0 p1 p2 u = some ret) : metI l D g (wdM g) yX7_className cX7_className 7 .boolean rm_X7_className [.ref (g.1 0), .int p0, .int p1, .int p2] u (ret, u) := by
  refine metI_of (own := RX7) (lv := [(0, .ref (g.1 0)), (1, .int p0), (2, .int p1), (3, .int p2)]) (by decide) rfl rfl (Nat.le_of_ble_eq_true rfl) (fun K hl9 hD9 X => ?_)
  subst hl9
  subst hD9
  unfold f_X7_className at h
  refine x_iconst (v := 0) X dX7_className_0 (by decide) ?_
  refine x_istore (lv2 := [(4, .int 0), (0, .ref (g.1 0)), (1, .int p0), (2, .int p1), (3, .int p2)]) X dX7_className_1 (by decide) rfl ?_
  refine x_iload_n X dX7_className_3 rfl 3 rfl ?_
  refine x_istore (lv2 := [(5, .int p1), (4, .int 0), (0, .ref (g.1 0)), (1, .int p0), (2, .int p1), (3, .int p2)]) X dX7_className_4 (by decide) rfl ?_
  refine x_sub [2, 3, 5, 1, 0] rfl ?_
  obtain ⟨q90, e9, h⟩ := bd h
  refine loopF_w (WH := H_X7_className_6 p0 p2 K g u ret) (KB := E_X7_className_6 p0 p2 K g u ret) (fun a9 r9 h9 k8 k7 => w_X7_className_b6 p0 p2 u ret X a9 r9 h9 k8 k7) FU (0, p1) q90 e9 ?_
  rcases q90 with q9 | q9
  · replace h := sl h
    exact (Option.some.inj h)
  · replace h := sr h
    show XW K 0 0 7 (QI K g (wdM g) (ret, u)) (wdM g) u 79 [(4, .int q9)] []
    refine x_iload X dX7_className_79 0 rfl ?_
    refine x_if_le (tgt := 88) X dX7_className_81 (by decide) (fun c10 => ?_) (fun c10 => ?_)
    · replace h := if_t c10 h
      refine x_iconst (v := 0) X dX7_className_88 (by decide) ?_
      refine x_sub [] rfl ?_
      exact w_X7_className_j89 ret X 0 u h
    · replace h := if_f c10 h
      refine x_iconst (v := 1) X dX7_className_84 (by decide) ?_
      refine x_goto (tgt := 89) X dX7_className_85 (by decide) ?_
      refine x_sub [] rfl ?_
      exact w_X7_className_j89 ret X 1 u h
set_option maxRecDepth 100000 in
set_option maxHeartbeats 4000000 in
theorem w_X7_base_j53 {K : Cx} {g : Gw} (ret : Int32) (X : XC K g cX7_base 1 RX7 (some .boolean) rm_X7_base) (z0 : Int32) (u : St) (h : f_X7_base_j53 z0 u = some ret) : XW K 0 0 1 (QI K g (wdM g) (ret, u)) (wdM g) u 53 [] [.int z0] := by
  unfold f_X7_base_j53 at h
  obtain ⟨b2, h⟩ := bchk_some h
  exact x_zret X b2 (roE (Option.some.inj h)) dX7_base_53
set_option maxRecDepth 100000 in
set_option maxHeartbeats 4000000 in
theorem w_X7_base_j48 {K : Cx} {g : Gw} (ret : Int32) (X : XC K g cX7_base 1 RX7 (some .boolean) rm_X7_base) (u : St) (h : f_X7_base_j48 u = some ret) : XW K 0 0 1 (QI K g (wdM g) (ret, u)) (wdM g) u 48 [] [] := by
  unfold f_X7_base_j48 at h
  refine x_iconst (v := 1) X dX7_base_48 (by decide) ?_
  refine x_goto (tgt := 53) X dX7_base_49 (by decide) ?_
  exact w_X7_base_j53 ret X 1 u h
set_option maxRecDepth 100000 in
set_option maxHeartbeats 4000000 in
theorem c_X7_base (l : Launch) (D : va_G) (g : Gw) (p0 : Int32) (u : St) (ret : Int32) (h : f_X7_base p0 u = some ret) : metI l D g (wdM g) yX7_base cX7_base 1 .boolean rm_X7_base [.int p0] u (ret, u) := by
  refine metI_of (own := RX7) (lv := [(0, .int p0)]) (by decide) rfl rfl (Nat.le_of_ble_eq_true rfl) (fun K hl9 hD9 X => ?_)
  subst hl9
  subst hD9
  unfold f_X7_base at h
  refine x_iload_n X dX7_base_0 rfl 0 rfl ?_
  refine x_bipush (v := 66) X dX7_base_1 (by decide) ?_
  refine x_icmp_eq (tgt := 48) X dX7_base_3 (by decide) (fun c1 => ?_) (fun c1 => ?_)
  · replace h := if_t c1 h
    refine x_sub [] rfl ?_
    exact w_X7_base_j48 ret X u h
  · replace h := if_f c1 h
    refine x_iload_n X dX7_base_6 rfl 0 rfl ?_
    refine x_bipush (v := 67) X dX7_base_7 (by decide) ?_
    refine x_icmp_eq (tgt := 48) X dX7_base_9 (by decide) (fun c3 => ?_) (fun c3 => ?_)
    · replace h := if_t c3 h
      refine x_sub [] rfl ?_
      exact w_X7_base_j48 ret X u h
    · replace h := if_f c3 h
      refine x_iload_n X dX7_base_12 rfl 0 rfl ?_
      refine x_bipush (v := 68) X dX7_base_13 (by decide) ?_
      refine x_icmp_eq (tgt := 48) X dX7_base_15 (by decide) (fun c4 => ?_) (fun c4 => ?_)
      · replace h := if_t c4 h
        refine x_sub [] rfl ?_
        exact w_X7_base_j48 ret X u h
      · replace h := if_f c4 h
        refine x_iload_n X dX7_base_18 rfl 0 rfl ?_
        refine x_bipush (v := 70) X dX7_base_19 (by decide) ?_
        refine x_icmp_eq (tgt := 48) X dX7_base_21 (by decide) (fun c5 => ?_) (fun c5 => ?_)
        · replace h := if_t c5 h
          refine x_sub [] rfl ?_
          exact w_X7_base_j48 ret X u h
        · replace h := if_f c5 h
          refine x_iload_n X dX7_base_24 rfl 0 rfl ?_
          refine x_bipush (v := 73) X dX7_base_25 (by decide) ?_
          refine x_icmp_eq (tgt := 48) X dX7_base_27 (by decide) (fun c6 => ?_) (fun c6 => ?_)
          · replace h := if_t c6 h
            refine x_sub [] rfl ?_
            exact w_X7_base_j48 ret X u h
          · replace h := if_f c6 h
            refine x_iload_n X dX7_base_30 rfl 0 rfl ?_
            refine x_bipush (v := 74) X dX7_base_31 (by decide) ?_
            refine x_icmp_eq (tgt := 48) X dX7_base_33 (by decide) (fun c7 => ?_) (fun c7 => ?_)
            · replace h := if_t c7 h
              refine x_sub [] rfl ?_
              exact w_X7_base_j48 ret X u h
            · replace h := if_f c7 h
              refine x_iload_n X dX7_base_36 rfl 0 rfl ?_
              refine x_bipush (v := 83) X dX7_base_37 (by decide) ?_
              refine x_icmp_eq (tgt := 48) X dX7_base_39 (by decide) (fun c8 => ?_) (fun c8 => ?_)
              · replace h := if_t c8 h
                refine x_sub [] rfl ?_
                exact w_X7_base_j48 ret X u h
              · replace h := if_f c8 h
                refine x_iload_n X dX7_base_42 rfl 0 rfl ?_
                refine x_bipush (v := 90) X dX7_base_43 (by decide) ?_
                refine x_icmp_ne (tgt := 52) X dX7_base_45 (by decide) (fun c9 => ?_) (fun c9 => ?_)
                · replace h := if_f c9 h
                  refine x_iconst (v := 0) X dX7_base_52 (by decide) ?_
                  refine x_sub [] rfl ?_
                  exact w_X7_base_j53 ret X 0 u h
                · replace h := if_t c9 h
                  refine x_sub [] rfl ?_
                  exact w_X7_base_j48 ret X u h
abbrev H_X7_brackets_2 (x1 : Int32) (x2 : Int32) (K : Cx) (g : Gw) (u : St) (ret : Int32) (a : Int32) : Prop := XW K 0 0 4 (QI K g (wdM g) (ret, u)) (wdM g) u 2 [(0, .ref (g.1 0)), (1, .int x1), (2, .int x2), (3, .int a)] []
abbrev E_X7_brackets_2 (x1 : Int32) (x2 : Int32) (K : Cx) (g : Gw) (u : St) (ret : Int32) (q : (Int32) ⊕ (Int32)) : Prop := Sum.elim (fun q => q = ret) (fun q => XW K 0 0 4 (QI K g (wdM g) (ret, u)) (wdM g) u 29 [(2, .int x2), (3, .int q)] []) q
set_option maxRecDepth 100000 in
set_option maxHeartbeats 4000000 in
theorem w_X7_brackets_b2 {K : Cx} {g : Gw} (x1 : Int32) (x2 : Int32) (u : St) (ret : Int32) (X : XC K g cX7_brackets 4 RX7 (some .int) rm_X7_brackets) (a : Int32) (r : ((Int32) ⊕ (Int32)) ⊕ (Int32)) (h : f_X7_brackets_b2 x1 x2 u a = some r) (k0 : ∀ q, r = .inl q → E_X7_brackets_2 x1 x2 K g u ret q) (k1 : ∀ q, r = .inr q → H_X7_brackets_2 x1 x2 K g u ret q) : H_X7_brackets_2 x1 x2 K g u ret a := by
  unfold f_X7_brackets_b2 at h
  show XW K 0 0 4 (QI K g (wdM g) (ret, u)) (wdM g) u 2 [(0, .ref (g.1 0)), (1, .int x1), (2, .int x2), (3, .int a)] []
  refine x_iload_n X dX7_brackets_2 rfl 3 rfl ?_
  refine x_aload_n X dX7_brackets_3 rfl 0 rfl ?_
  refine x_get (v := .ref (g.1 7)) X 0 15 in_X7 rfl rfl (by decide) m_X7_28 rfl dX7_brackets_4 ?_
  refine x_iload_n X dX7_brackets_7 rfl 1 rfl ?_
  obtain ⟨i1, h⟩ := chk_some h
  refine x_iald (f := (u 36)) X 7 0 rfl rfl i1 dX7_brackets_8 ?_
  refine x_icmp_ge (tgt := 29) X dX7_brackets_9 (by decide) (fun c2 => ?_) (fun c2 => ?_)
  · replace h := if_t c2 h
    refine x_sub [2, 3] rfl ?_
    have h9 := k0 _ (Option.some.inj h).symm
    exact h9
  · replace h := if_f c2 h
    refine x_aload_n X dX7_brackets_12 rfl 0 rfl ?_
    refine x_iload_n X dX7_brackets_13 rfl 1 rfl ?_
    refine x_iload_n X dX7_brackets_14 rfl 3 rfl ?_
    obtain ⟨q3, e3, h⟩ := bd h
    refine x_callR X [.int x1, .int a] [] (c_X7_letter K.l K.D g x1 a u q3 e3) ok_X7_letter m_X7_101 0 rfl rfl rfl rfl (Nat.le_of_ble_eq_true rfl) ⟨Nat.zero_le _, Nat.zero_le _⟩ ⟨rfl, rfl, by decide, by decide⟩ dX7_brackets_15 ?_
    refine x_bipush (v := 91) X dX7_brackets_18 (by decide) ?_
    refine x_icmp_ne (tgt := 29) X dX7_brackets_20 (by decide) (fun c4 => ?_) (fun c4 => ?_)
    · replace h := if_f c4 h
      refine x_sub [2, 3] rfl ?_
      have h9 := k0 _ (Option.some.inj h).symm
      exact h9
    · replace h := if_t c4 h
      refine x_iinc (v := (a + 1)) (lv2 := [(3, .int (a + 1)), (0, .ref (g.1 0)), (1, .int x1), (2, .int x2)]) X dX7_brackets_23 3 rfl rfl (by decide) rfl ?_
      refine x_goto (tgt := 2) X dX7_brackets_26 (by decide) ?_
      refine x_sub [1, 2, 3, 0] rfl ?_
      have h9 := k1 _ (Option.some.inj h).symm
      exact h9
set_option maxRecDepth 100000 in
set_option maxHeartbeats 4000000 in
theorem w_X7_brackets_j29 {K : Cx} {g : Gw} (ret : Int32) (X : XC K g cX7_brackets 4 RX7 (some .int) rm_X7_brackets) (x2 : Int32) (x3 : Int32) (u : St) (h : f_X7_brackets_j29 x2 x3 u = some ret) : XW K 0 0 4 (QI K g (wdM g) (ret, u)) (wdM g) u 29 [(2, .int x2), (3, .int x3)] [] := by
  unfold f_X7_brackets_j29 at h
  refine x_iload_n X dX7_brackets_29 rfl 1 rfl ?_
  refine x_iload_n X dX7_brackets_30 rfl 0 rfl ?_
  refine x_isub X dX7_brackets_31 ?_
  exact x_iret X (roE (Option.some.inj h)) dX7_brackets_32
set_option maxRecDepth 100000 in
set_option maxHeartbeats 4000000 in
theorem c_X7_brackets (l : Launch) (D : va_G) (g : Gw) (p0 : Int32) (p1 : Int32) (u : St) (ret : Int32) (h : f_X7_brackets p0 p1 u = some ret) : metI l D g (wdM g) yX7_brackets cX7_brackets 4 .int rm_X7_brackets [.ref (g.1 0), .int p0, .int p1] u (ret, u) := by
  refine metI_of (own := RX7) (lv := [(0, .ref (g.1 0)), (1, .int p0), (2, .int p1)]) (by decide) rfl rfl (Nat.le_of_ble_eq_true rfl) (fun K hl9 hD9 X => ?_)
  subst hl9
  subst hD9
  unfold f_X7_brackets at h
  refine x_iload_n X dX7_brackets_0 rfl 2 rfl ?_
  refine x_istore_n (lv2 := [(3, .int p1), (0, .ref (g.1 0)), (1, .int p0), (2, .int p1)]) X dX7_brackets_1 rfl (by decide) rfl ?_
  refine x_sub [1, 2, 3, 0] rfl ?_
  obtain ⟨q50, e5, h⟩ := bd h
  refine loopF_w (WH := H_X7_brackets_2 p0 p1 K g u ret) (KB := E_X7_brackets_2 p0 p1 K g u ret) (fun a9 r9 h9 k8 k7 => w_X7_brackets_b2 p0 p1 u ret X a9 r9 h9 k8 k7) FU p1 q50 e5 ?_
  rcases q50 with q5 | q5
  · replace h := sl h
    exact (Option.some.inj h)
  · replace h := sr h
    show XW K 0 0 4 (QI K g (wdM g) (ret, u)) (wdM g) u 29 [(2, .int p1), (3, .int q5)] []
    exact w_X7_brackets_j29 ret X p1 q5 u h
