set_option maxRecDepth 100000 in
set_option maxHeartbeats 4000000 in
theorem c_X7_judge (l : Launch) (D : va_G) (g : Gw) (u : St) (ret : Int32 × St) (h : f_X7_judge u = some ret) : metI l D g (wdM g) yX7_judge cX7_judge 2 .int rm_X7_judge [.ref (g.1 0)] u ret := by
  refine metI_of (own := RX7) (lv := [(0, .ref (g.1 0))]) (by decide) rfl rfl (Nat.le_of_ble_eq_true rfl) (fun K hl9 hD9 X => ?_)
  subst hl9
  subst hD9
  unfold f_X7_judge at h
  refine x_aload_n X dX7_judge_0 rfl 0 rfl ?_
  obtain ⟨q1, e1, h⟩ := bd h
  refine x_callI X [] [] (c_X7_run K.l K.D g u q1 e1) ok_X7_run m_X7_288 0 rfl rfl rfl rfl (Nat.le_of_ble_eq_true rfl) ⟨Nat.zero_le _, Nat.zero_le _⟩ ⟨rfl, rfl, by decide, by decide⟩ dX7_judge_1 ?_
  refine x_istore_n (lv2 := [(1, .int q1.1), (0, .ref (g.1 0))]) X dX7_judge_4 rfl (by decide) rfl ?_
  refine x_aload_n X dX7_judge_5 rfl 1 rfl ?_
  refine x_dup X dX7_judge_6 rfl ?_
  refine x_get (v := .int (q1.2 1 0)) X 0 3 in_X7 rfl rfl (by decide) m_X7_291 rfl dX7_judge_7 ?_
  refine x_iconst (v := 1) X dX7_judge_10 (by decide) ?_
  refine x_iadd X dX7_judge_11 ?_
  refine x_put (ty := .int) (u2 := (up q1.2 1 0 ((q1.2 1 0) + 1))) X 0 3 in_X7 tk_X7 nk_X7 rfl rfl (by decide) m_X7_291 rfl rfl rfl rfl (Nat.le_of_ble_eq_true rfl) (wdM_1 g q1.2 ((q1.2 1 0) + 1)) dX7_judge_12 ?_
  refine x_aload_n X dX7_judge_15 rfl 1 rfl ?_
  refine x_get (v := .ref (g.1 2)) X 0 2 in_X7 rfl rfl (by decide) m_X7_13 rfl dX7_judge_16 ?_
  refine x_iload_n X dX7_judge_19 rfl 0 rfl ?_
  refine x_dup2 X dX7_judge_20 rfl rfl ?_
  obtain ⟨i2, h⟩ := chk_some h
  refine x_iald (f := (q1.2 31)) X 2 0 rfl rfl i2 dX7_judge_21 ?_
  refine x_iconst (v := 1) X dX7_judge_22 (by decide) ?_
  refine x_iadd X dX7_judge_23 ?_
  obtain ⟨i3, h⟩ := chk_some h
  refine x_iast (f := (q1.2 31)) (u2 := (up (up q1.2 1 0 ((q1.2 1 0) + 1)) 31 (Int32.toNatClampNeg q1.1) (((q1.2 31) (Int32.toNatClampNeg q1.1)) + 1))) X 2 0 rfl rfl i3 (wdM_31 g (up q1.2 1 0 ((q1.2 1 0) + 1)) (Int32.toNatClampNeg q1.1) (((q1.2 31) (Int32.toNatClampNeg q1.1)) + 1)) dX7_judge_24 ?_
  refine x_iload_n X dX7_judge_25 rfl 0 rfl ?_
  exact x_iret X (Option.some.inj h) dX7_judge_26
set_option maxRecDepth 100000 in
set_option maxHeartbeats 4000000 in
theorem w_X7_place_j22 {K : Cx} {g : Gw} (ret : Int32) (X : XC K g cX7_place 1 RX7 (some .int) rm_X7_place) (z0 : Int32) (u : St) (h : f_X7_place_j22 z0 u = some ret) : XW K 0 0 1 (QI K g (wdM g) (ret, u)) (wdM g) u 22 [] [.int z0] := by
  unfold f_X7_place_j22 at h
  exact x_iret X (roE (Option.some.inj h)) dX7_place_22
set_option maxRecDepth 100000 in
set_option maxHeartbeats 4000000 in
theorem w_X7_place_j14 {K : Cx} {g : Gw} (ret : Int32) (X : XC K g cX7_place 1 RX7 (some .int) rm_X7_place) (u : St) (h : f_X7_place_j14 u = some ret) : XW K 0 0 1 (QI K g (wdM g) (ret, u)) (wdM g) u 14 [] [] := by
  unfold f_X7_place_j14 at h
  refine x_iconst (v := (-1)) X dX7_place_14 (by decide) ?_
  refine x_goto (tgt := 22) X dX7_place_15 (by decide) ?_
  exact w_X7_place_j22 ret X (-1) u h
set_option maxRecDepth 100000 in
set_option maxHeartbeats 4000000 in
theorem c_X7_place (l : Launch) (D : va_G) (g : Gw) (u : St) (ret : Int32) (h : f_X7_place u = some ret) : metI l D g (wdM g) yX7_place cX7_place 1 .int rm_X7_place [.ref (g.1 0)] u (ret, u) := by
  refine metI_of (own := RX7) (lv := [(0, .ref (g.1 0))]) (by decide) rfl rfl (Nat.le_of_ble_eq_true rfl) (fun K hl9 hD9 X => ?_)
  subst hl9
  subst hD9
  unfold f_X7_place at h
  refine x_aload_n X dX7_place_0 rfl 0 rfl ?_
  refine x_get (v := .int (u 2 0)) X 0 4 in_X7 rfl rfl (by decide) m_X7_266 rfl dX7_place_1 ?_
  refine x_if_eq (tgt := 14) X dX7_place_4 (by decide) (fun c1 => ?_) (fun c1 => ?_)
  · replace h := if_t c1 h
    refine x_sub [] rfl ?_
    exact w_X7_place_j14 ret X u h
  · replace h := if_f c1 h
    refine x_aload_n X dX7_place_7 rfl 0 rfl ?_
    refine x_get (v := .int (u 7 0)) X 0 9 in_X7 rfl rfl (by decide) m_X7_71 rfl dX7_place_8 ?_
    refine x_if_ne (tgt := 18) X dX7_place_11 (by decide) (fun c2 => ?_) (fun c2 => ?_)
    · replace h := if_f c2 h
      refine x_aload_n X dX7_place_18 rfl 0 rfl ?_
      refine x_get (v := .int (u 8 0)) X 0 10 in_X7 rfl rfl (by decide) m_X7_74 rfl dX7_place_19 ?_
      refine x_sub [] rfl ?_
      exact w_X7_place_j22 ret X (u 8 0) u h
    · replace h := if_t c2 h
      refine x_sub [] rfl ?_
      exact w_X7_place_j14 ret X u h
abbrev H_X7_without_3 (x1 : Int32) (x2 : Int32) (x3 : Int32) (K : Cx) (g : Gw) (ret : Int32 × St) (a : Int32 × St) : Prop := XW K 0 0 5 (QI K g (wdM g) ret) (wdM g) a.2 3 [(0, .ref (g.1 0)), (1, .int x1), (2, .int x2), (3, .int x3), (4, .int a.1)] []
abbrev E_X7_without_3 (x1 : Int32) (x2 : Int32) (x3 : Int32) (K : Cx) (g : Gw) (ret : Int32 × St) (q : (Int32 × St) ⊕ (St)) : Prop := Sum.elim (fun q => q = ret) (fun q => XW K 0 0 5 (QI K g (wdM g) ret) (wdM g) q 31 [(0, .ref (g.1 0)), (1, .int x1), (2, .int x2), (3, .int x3)] []) q
set_option maxRecDepth 100000 in
set_option maxHeartbeats 4000000 in
theorem w_X7_without_b3 {K : Cx} {g : Gw} (x1 : Int32) (x2 : Int32) (x3 : Int32) (ret : Int32 × St) (X : XC K g cX7_without 5 RX7 (some .boolean) rm_X7_without) (a : Int32 × St) (r : ((Int32 × St) ⊕ (St)) ⊕ (Int32 × St)) (h : f_X7_without_b3 x1 x2 x3 a = some r) (k0 : ∀ q, r = .inl q → E_X7_without_3 x1 x2 x3 K g ret q) (k1 : ∀ q, r = .inr q → H_X7_without_3 x1 x2 x3 K g ret q) : H_X7_without_3 x1 x2 x3 K g ret a := by
  unfold f_X7_without_b3 at h
  show XW K 0 0 5 (QI K g (wdM g) ret) (wdM g) a.2 3 [(0, .ref (g.1 0)), (1, .int x1), (2, .int x2), (3, .int x3), (4, .int a.1)] []
  refine x_iload X dX7_without_3 4 rfl ?_
  refine x_iload_n X dX7_without_5 rfl 2 rfl ?_
  refine x_icmp_ge (tgt := 31) X dX7_without_6 (by decide) (fun c1 => ?_) (fun c1 => ?_)
  · replace h := if_t c1 h
    refine x_sub [0, 1, 2, 3] rfl ?_
    have h9 := k0 _ (Option.some.inj h).symm
    exact h9
  · replace h := if_f c1 h
    refine x_aload_n X dX7_without_9 rfl 0 rfl ?_
    refine x_get (v := .ref (g.1 16)) X 0 32 in_X7 rfl rfl (by decide) m_X7_56 rfl dX7_without_10 ?_
    refine x_iload X dX7_without_13 4 rfl ?_
    refine x_aload_n X dX7_without_15 rfl 0 rfl ?_
    refine x_get (v := .ref (g.1 1)) X 0 0 in_X7 rfl rfl (by decide) m_X7_7 rfl dX7_without_16 ?_
    refine x_iload_n X dX7_without_19 rfl 1 rfl ?_
    refine x_iload X dX7_without_20 4 rfl ?_
    refine x_iadd X dX7_without_22 ?_
    obtain ⟨i2, h⟩ := chk_some h
    refine x_iald (f := (a.2 30)) X 1 0 rfl rfl i2 dX7_without_23 ?_
    obtain ⟨i3, h⟩ := chk_some h
    refine x_iast (f := (a.2 45)) (u2 := (up a.2 45 (Int32.toNatClampNeg a.1) ((a.2 30) (Int32.toNatClampNeg (x1 + a.1))))) X 16 0 rfl rfl i3 (wdM_45 g a.2 (Int32.toNatClampNeg a.1) ((a.2 30) (Int32.toNatClampNeg (x1 + a.1)))) dX7_without_24 ?_
    refine x_iinc (v := (a.1 + 1)) (lv2 := [(4, .int (a.1 + 1)), (0, .ref (g.1 0)), (1, .int x1), (2, .int x2), (3, .int x3)]) X dX7_without_25 4 rfl rfl (by decide) rfl ?_
    refine x_goto (tgt := 3) X dX7_without_28 (by decide) ?_
    refine x_sub [1, 2, 3, 4, 0] rfl ?_
    have h9 := k1 _ (Option.some.inj h).symm
    exact h9
abbrev H_X7_without_55 (x1 : Int32) (x2 : Int32) (K : Cx) (g : Gw) (ret : Int32 × St) (a : Int32 × St) : Prop := XW K 0 0 5 (QI K g (wdM g) ret) (wdM g) a.2 55 [(0, .ref (g.1 0)), (1, .int x1), (2, .int x2), (4, .int a.1)] []
abbrev E_X7_without_55 (x1 : Int32) (x2 : Int32) (K : Cx) (g : Gw) (ret : Int32 × St) (q : (Int32 × St) ⊕ (St)) : Prop := Sum.elim (fun q => q = ret) (fun q => XW K 0 0 5 (QI K g (wdM g) ret) (wdM g) q 83 [(0, .ref (g.1 0)), (1, .int x1), (2, .int x2)] []) q
set_option maxRecDepth 100000 in
set_option maxHeartbeats 4000000 in
theorem w_X7_without_b55 {K : Cx} {g : Gw} (x1 : Int32) (x2 : Int32) (ret : Int32 × St) (X : XC K g cX7_without 5 RX7 (some .boolean) rm_X7_without) (a : Int32 × St) (r : ((Int32 × St) ⊕ (St)) ⊕ (Int32 × St)) (h : f_X7_without_b55 x1 x2 a = some r) (k0 : ∀ q, r = .inl q → E_X7_without_55 x1 x2 K g ret q) (k1 : ∀ q, r = .inr q → H_X7_without_55 x1 x2 K g ret q) : H_X7_without_55 x1 x2 K g ret a := by
  unfold f_X7_without_b55 at h
  show XW K 0 0 5 (QI K g (wdM g) ret) (wdM g) a.2 55 [(0, .ref (g.1 0)), (1, .int x1), (2, .int x2), (4, .int a.1)] []
  refine x_iload X dX7_without_55 3 rfl ?_
  refine x_iload_n X dX7_without_57 rfl 1 rfl ?_
  refine x_icmp_lt (tgt := 83) X dX7_without_58 (by decide) (fun c8 => ?_) (fun c8 => ?_)
  · replace h := if_t c8 h
    refine x_sub [0, 1, 2] rfl ?_
    have h9 := k0 _ (Option.some.inj h).symm
    exact h9
  · replace h := if_f c8 h
    refine x_aload_n X dX7_without_61 rfl 0 rfl ?_
    refine x_get (v := .ref (g.1 1)) X 0 0 in_X7 rfl rfl (by decide) m_X7_7 rfl dX7_without_62 ?_
    refine x_iload X dX7_without_65 3 rfl ?_
    refine x_iload_n X dX7_without_67 rfl 2 rfl ?_
    refine x_iadd X dX7_without_68 ?_
    refine x_aload_n X dX7_without_69 rfl 0 rfl ?_
    refine x_get (v := .ref (g.1 1)) X 0 0 in_X7 rfl rfl (by decide) m_X7_7 rfl dX7_without_70 ?_
    refine x_iload X dX7_without_73 3 rfl ?_
    obtain ⟨i9, h⟩ := chk_some h
    refine x_iald (f := (a.2 30)) X 1 0 rfl rfl i9 dX7_without_75 ?_
    obtain ⟨i10, h⟩ := chk_some h
    refine x_iast (f := (a.2 30)) (u2 := (up a.2 30 (Int32.toNatClampNeg (a.1 + x2)) ((a.2 30) (Int32.toNatClampNeg a.1)))) X 1 0 rfl rfl i10 (wdM_30 g a.2 (Int32.toNatClampNeg (a.1 + x2)) ((a.2 30) (Int32.toNatClampNeg a.1))) dX7_without_76 ?_
    refine x_iinc (v := (a.1 + (-1))) (lv2 := [(4, .int (a.1 + (-1))), (0, .ref (g.1 0)), (1, .int x1), (2, .int x2)]) X dX7_without_77 3 rfl rfl (by decide) rfl ?_
    refine x_goto (tgt := 55) X dX7_without_80 (by decide) ?_
    refine x_sub [1, 2, 3, 0] rfl ?_
    have h9 := k1 _ (Option.some.inj h).symm
    exact h9
abbrev H_X7_without_86 (x1 : Int32) (x2 : Int32) (K : Cx) (g : Gw) (ret : Int32 × St) (a : Int32 × St) : Prop := XW K 0 0 5 (QI K g (wdM g) ret) (wdM g) a.2 86 [(0, .ref (g.1 0)), (1, .int x1), (2, .int x2), (4, .int a.1)] []
abbrev E_X7_without_86 (x1 : Int32) (x2 : Int32) (K : Cx) (g : Gw) (ret : Int32 × St) (q : (Int32 × St) ⊕ (St)) : Prop := Sum.elim (fun q => q = ret) (fun q => XW K 0 0 5 (QI K g (wdM g) ret) (wdM g) q 114 [(0, .ref (g.1 0)), (2, .int x2)] []) q
set_option maxRecDepth 100000 in
set_option maxHeartbeats 4000000 in
theorem w_X7_without_b86 {K : Cx} {g : Gw} (x1 : Int32) (x2 : Int32) (ret : Int32 × St) (X : XC K g cX7_without 5 RX7 (some .boolean) rm_X7_without) (a : Int32 × St) (r : ((Int32 × St) ⊕ (St)) ⊕ (Int32 × St)) (h : f_X7_without_b86 x1 x2 a = some r) (k0 : ∀ q, r = .inl q → E_X7_without_86 x1 x2 K g ret q) (k1 : ∀ q, r = .inr q → H_X7_without_86 x1 x2 K g ret q) : H_X7_without_86 x1 x2 K g ret a := by
  unfold f_X7_without_b86 at h
  show XW K 0 0 5 (QI K g (wdM g) ret) (wdM g) a.2 86 [(0, .ref (g.1 0)), (1, .int x1), (2, .int x2), (4, .int a.1)] []
  refine x_iload X dX7_without_86 3 rfl ?_
  refine x_iload_n X dX7_without_88 rfl 2 rfl ?_
  refine x_icmp_ge (tgt := 114) X dX7_without_89 (by decide) (fun c12 => ?_) (fun c12 => ?_)
  · replace h := if_t c12 h
    refine x_sub [0, 2] rfl ?_
    have h9 := k0 _ (Option.some.inj h).symm
    exact h9
  · replace h := if_f c12 h
    refine x_aload_n X dX7_without_92 rfl 0 rfl ?_
    refine x_get (v := .ref (g.1 1)) X 0 0 in_X7 rfl rfl (by decide) m_X7_7 rfl dX7_without_93 ?_
    refine x_iload_n X dX7_without_96 rfl 1 rfl ?_
    refine x_iload X dX7_without_97 3 rfl ?_
    refine x_iadd X dX7_without_99 ?_
    refine x_aload_n X dX7_without_100 rfl 0 rfl ?_
    refine x_get (v := .ref (g.1 16)) X 0 32 in_X7 rfl rfl (by decide) m_X7_56 rfl dX7_without_101 ?_
    refine x_iload X dX7_without_104 3 rfl ?_
    obtain ⟨i13, h⟩ := chk_some h
    refine x_iald (f := (a.2 45)) X 16 0 rfl rfl i13 dX7_without_106 ?_
    obtain ⟨i14, h⟩ := chk_some h
    refine x_iast (f := (a.2 30)) (u2 := (up a.2 30 (Int32.toNatClampNeg (x1 + a.1)) ((a.2 45) (Int32.toNatClampNeg a.1)))) X 1 0 rfl rfl i14 (wdM_30 g a.2 (Int32.toNatClampNeg (x1 + a.1)) ((a.2 45) (Int32.toNatClampNeg a.1))) dX7_without_107 ?_
    refine x_iinc (v := (a.1 + 1)) (lv2 := [(4, .int (a.1 + 1)), (0, .ref (g.1 0)), (1, .int x1), (2, .int x2)]) X dX7_without_108 3 rfl rfl (by decide) rfl ?_
    refine x_goto (tgt := 86) X dX7_without_111 (by decide) ?_
    refine x_sub [1, 2, 3, 0] rfl ?_
    have h9 := k1 _ (Option.some.inj h).symm
    exact h9
set_option maxRecDepth 100000 in
set_option maxHeartbeats 4000000 in
theorem c_X7_without (l : Launch) (D : va_G) (g : Gw) (p0 : Int32) (p1 : Int32) (p2 : Int32) (u : St) (ret : Int32 × St) (h : f_X7_without p0 p1 p2 u = some ret) : metI l D g (wdM g) yX7_without cX7_without 5 .boolean rm_X7_without [.ref (g.1 0), .int p0, .int p1, .int p2] u ret := by
  refine metI_of (own := RX7) (lv := [(0, .ref (g.1 0)), (1, .int p0), (2, .int p1), (3, .int p2)]) (by decide) rfl rfl (Nat.le_of_ble_eq_true rfl) (fun K hl9 hD9 X => ?_)
  subst hl9
  subst hD9
  unfold f_X7_without at h
  refine x_iconst (v := 0) X dX7_without_0 (by decide) ?_
  refine x_istore (lv2 := [(4, .int 0), (0, .ref (g.1 0)), (1, .int p0), (2, .int p1), (3, .int p2)]) X dX7_without_1 (by decide) rfl ?_
  refine x_sub [1, 2, 3, 4, 0] rfl ?_
  obtain ⟨q40, e4, h⟩ := bd h
  refine loopF_w (WH := H_X7_without_3 p0 p1 p2 K g ret) (KB := E_X7_without_3 p0 p1 p2 K g ret) (fun a9 r9 h9 k8 k7 => w_X7_without_b3 p0 p1 p2 ret X a9 r9 h9 k8 k7) FU (0, u) q40 e4 ?_
  rcases q40 with q4 | q4
  · replace h := sl h
    exact (Option.some.inj h)
  · replace h := sr h
    show XW K 0 0 5 (QI K g (wdM g) ret) (wdM g) q4 31 [(0, .ref (g.1 0)), (1, .int p0), (2, .int p1), (3, .int p2)] []
    refine x_aload_n X dX7_without_31 rfl 0 rfl ?_
    refine x_iload_n X dX7_without_32 rfl 1 rfl ?_
    refine x_iload_n X dX7_without_33 rfl 2 rfl ?_
    obtain ⟨q5, e5, h⟩ := bd h
    refine x_callV X [.int p0, .int p1] [] (c_X7_take K.l K.D g p0 p1 q4 q5 e5) ok_X7_take m_X7_67 0 rfl rfl rfl rfl (Nat.le_of_ble_eq_true rfl) ⟨Nat.zero_le _, Nat.zero_le _⟩ ⟨rfl, rfl, by decide, by decide⟩ dX7_without_34 ?_
    refine x_aload_n X dX7_without_37 rfl 0 rfl ?_
    obtain ⟨q6, e6, h⟩ := bd h
    refine x_callI X [] [] (c_X7_run K.l K.D g q5 q6 e6) ok_X7_run m_X7_288 0 rfl rfl rfl rfl (Nat.le_of_ble_eq_true rfl) ⟨Nat.zero_le _, Nat.zero_le _⟩ ⟨rfl, rfl, by decide, by decide⟩ dX7_without_38 ?_
    refine x_iload_n X dX7_without_41 rfl 3 rfl ?_
    refine x_icmp_ne (tgt := 47) X dX7_without_42 (by decide) (fun c7 => ?_) (fun c7 => ?_)
    · replace h := if_f c7 h
      refine x_aload_n X dX7_without_47 rfl 0 rfl ?_
      refine x_get (v := .int (q6.2 0 0)) X 0 1 in_X7 rfl rfl (by decide) m_X7_59 rfl dX7_without_48 ?_
      refine x_iconst (v := 1) X dX7_without_51 (by decide) ?_
      refine x_isub X dX7_without_52 ?_
      refine x_istore (lv2 := [(4, .int ((q6.2 0 0) - 1)), (0, .ref (g.1 0)), (1, .int p0), (2, .int p1), (3, .int p2)]) X dX7_without_53 (by decide) rfl ?_
      refine x_sub [1, 2, 3, 0] rfl ?_
      obtain ⟨q110, e11, h⟩ := bd h
      refine loopF_w (WH := H_X7_without_55 p0 p1 K g ret) (KB := E_X7_without_55 p0 p1 K g ret) (fun a9 r9 h9 k8 k7 => w_X7_without_b55 p0 p1 ret X a9 r9 h9 k8 k7) FU (((q6.2 0 0) - 1), q6.2) q110 e11 ?_
      rcases q110 with q11 | q11
      · replace h := sl h
        exact (Option.some.inj h)
      · replace h := sr h
        show XW K 0 0 5 (QI K g (wdM g) ret) (wdM g) q11 83 [(0, .ref (g.1 0)), (1, .int p0), (2, .int p1)] []
        refine x_iconst (v := 0) X dX7_without_83 (by decide) ?_
        refine x_istore (lv2 := [(4, .int 0), (0, .ref (g.1 0)), (1, .int p0), (2, .int p1)]) X dX7_without_84 (by decide) rfl ?_
        refine x_sub [1, 2, 3, 0] rfl ?_
        obtain ⟨q150, e15, h⟩ := bd h
        refine loopF_w (WH := H_X7_without_86 p0 p1 K g ret) (KB := E_X7_without_86 p0 p1 K g ret) (fun a9 r9 h9 k8 k7 => w_X7_without_b86 p0 p1 ret X a9 r9 h9 k8 k7) FU (0, q11) q150 e15 ?_
        rcases q150 with q15 | q15
        · replace h := sl h
          exact (Option.some.inj h)
        · replace h := sr h
          show XW K 0 0 5 (QI K g (wdM g) ret) (wdM g) q15 114 [(0, .ref (g.1 0)), (2, .int p1)] []
          refine x_aload_n X dX7_without_114 rfl 0 rfl ?_
          refine x_dup X dX7_without_115 rfl ?_
          refine x_get (v := .int (q15 0 0)) X 0 1 in_X7 rfl rfl (by decide) m_X7_59 rfl dX7_without_116 ?_
          refine x_iload_n X dX7_without_119 rfl 1 rfl ?_
          refine x_iadd X dX7_without_120 ?_
          refine x_put (ty := .int) (u2 := (up q15 0 0 ((q15 0 0) + p1))) X 0 1 in_X7 tk_X7 nk_X7 rfl rfl (by decide) m_X7_59 rfl rfl rfl rfl (Nat.le_of_ble_eq_true rfl) (wdM_0 g q15 ((q15 0 0) + p1)) dX7_without_121 ?_
          refine x_iconst (v := 0) X dX7_without_124 (by decide) ?_
          exact x_zret X rfl (Option.some.inj h) dX7_without_125
    · replace h := if_t c7 h
      refine x_iconst (v := 1) X dX7_without_45 (by decide) ?_
      exact x_zret X rfl (Option.some.inj h) dX7_without_46
abbrev H_X7_shrink_19 (x1 : Int32) (x2 : Int32) (K : Cx) (g : Gw) (ret : Int32 × St) (a : Int32 × St) : Prop := XW K 0 0 5 (QI K g (wdM g) ret) (wdM g) a.2 19 [(0, .ref (g.1 0)), (1, .int x1), (2, .int x2), (3, .int a.1)] []
abbrev E_X7_shrink_19 (x1 : Int32) (x2 : Int32) (K : Cx) (g : Gw) (ret : Int32 × St) (q : (Int32 × St) ⊕ (St)) : Prop := Sum.elim (fun q => q = ret) (fun q => XW K 0 0 5 (QI K g (wdM g) ret) (wdM g) q 69 [(0, .ref (g.1 0)), (1, .int x1)] []) q
abbrev H_X7_shrink_31 (x1 : Int32) (x2 : Int32) (x3 : Int32) (K : Cx) (g : Gw) (ret : Int32 × St) (a : Int32 × St) : Prop := XW K 0 0 5 (QI K g (wdM g) ret) (wdM g) a.2 31 [(0, .ref (g.1 0)), (1, .int x1), (2, .int x2), (3, .int x3), (4, .int a.1)] []
abbrev E_X7_shrink_31 (x1 : Int32) (x2 : Int32) (x3 : Int32) (K : Cx) (g : Gw) (ret : Int32 × St) (q : (Int32 × St) ⊕ (St)) : Prop := Sum.elim (fun q => q = ret) (fun q => XW K 0 0 5 (QI K g (wdM g) ret) (wdM g) q 62 [(0, .ref (g.1 0)), (1, .int x1), (2, .int x2), (3, .int x3)] []) q
set_option maxRecDepth 100000 in
set_option maxHeartbeats 4000000 in
theorem w_X7_shrink_j56_31 {K : Cx} {g : Gw} (ret : Int32 × St) (X : XC K g cX7_shrink 5 RX7 (some .int) rm_X7_shrink) (x1 : Int32) (x2 : Int32) (x3 : Int32) (x4 : Int32) (u : St) (r : ((Int32 × St) ⊕ (St)) ⊕ (Int32 × St)) (h : f_X7_shrink_j56_31 x1 x2 x3 x4 u = some r) (k0 : ∀ q, r = .inl q → E_X7_shrink_31 x1 x2 x3 K g ret q) (k1 : ∀ q, r = .inr q → H_X7_shrink_31 x1 x2 x3 K g ret q) : XW K 0 0 5 (QI K g (wdM g) ret) (wdM g) u 56 [(0, .ref (g.1 0)), (1, .int x1), (2, .int x2), (3, .int x3), (4, .int x4)] [] := by
  unfold f_X7_shrink_j56_31 at h
  refine x_iinc (v := (x4 + (-1))) (lv2 := [(4, .int (x4 + (-1))), (0, .ref (g.1 0)), (1, .int x1), (2, .int x2), (3, .int x3)]) X dX7_shrink_56 4 rfl rfl (by decide) rfl ?_
  refine x_goto (tgt := 31) X dX7_shrink_59 (by decide) ?_
  refine x_sub [1, 2, 3, 4, 0] rfl ?_
  have h9 := k1 _ (Option.some.inj h).symm
  exact h9
set_option maxRecDepth 100000 in
set_option maxHeartbeats 4000000 in
theorem w_X7_shrink_b31 {K : Cx} {g : Gw} (x1 : Int32) (x2 : Int32) (x3 : Int32) (ret : Int32 × St) (X : XC K g cX7_shrink 5 RX7 (some .int) rm_X7_shrink) (a : Int32 × St) (r : ((Int32 × St) ⊕ (St)) ⊕ (Int32 × St)) (h : f_X7_shrink_b31 x1 x2 x3 a = some r) (k0 : ∀ q, r = .inl q → E_X7_shrink_31 x1 x2 x3 K g ret q) (k1 : ∀ q, r = .inr q → H_X7_shrink_31 x1 x2 x3 K g ret q) : H_X7_shrink_31 x1 x2 x3 K g ret a := by
  unfold f_X7_shrink_b31 at h
  show XW K 0 0 5 (QI K g (wdM g) ret) (wdM g) a.2 31 [(0, .ref (g.1 0)), (1, .int x1), (2, .int x2), (3, .int x3), (4, .int a.1)] []
  refine x_iload X dX7_shrink_31 4 rfl ?_
  refine x_if_lt (tgt := 62) X dX7_shrink_33 (by decide) (fun c4 => ?_) (fun c4 => ?_)
  · replace h := if_t c4 h
    refine x_sub [0, 1, 2, 3] rfl ?_
    have h9 := k0 _ (Option.some.inj h).symm
    exact h9
  · replace h := if_f c4 h
    refine x_iload X dX7_shrink_36 4 rfl ?_
    refine x_iload_n X dX7_shrink_38 rfl 3 rfl ?_
    refine x_iadd X dX7_shrink_39 ?_
    refine x_aload_n X dX7_shrink_40 rfl 0 rfl ?_
    refine x_get (v := .int (a.2 0 0)) X 0 1 in_X7 rfl rfl (by decide) m_X7_59 rfl dX7_shrink_41 ?_
    refine x_icmp_gt (tgt := 56) X dX7_shrink_44 (by decide) (fun c5 => ?_) (fun c5 => ?_)
    · replace h := if_t c5 h
      exact w_X7_shrink_j56_31 ret X x1 x2 x3 a.1 a.2 r h k0 k1
    · replace h := if_f c5 h
      refine x_aload_n X dX7_shrink_47 rfl 0 rfl ?_
      refine x_iload X dX7_shrink_48 4 rfl ?_
      refine x_iload_n X dX7_shrink_50 rfl 3 rfl ?_
      refine x_iload_n X dX7_shrink_51 rfl 2 rfl ?_
      obtain ⟨q6, e6, h⟩ := bd h
      refine x_callI X [.int a.1, .int x3, .int x2] [] (c_X7_without K.l K.D g a.1 x3 x2 a.2 q6 e6) ok_X7_without m_X7_294 0 rfl rfl rfl rfl (Nat.le_of_ble_eq_true rfl) ⟨Nat.zero_le _, Nat.zero_le _⟩ ⟨rfl, rfl, by decide, by decide⟩ dX7_shrink_52 ?_
      refine x_pop X dX7_shrink_55 rfl ?_
      exact w_X7_shrink_j56_31 ret X x1 x2 x3 a.1 q6.2 r h k0 k1
set_option maxRecDepth 100000 in
set_option maxHeartbeats 4000000 in
theorem w_X7_shrink_b19 {K : Cx} {g : Gw} (x1 : Int32) (x2 : Int32) (ret : Int32 × St) (X : XC K g cX7_shrink 5 RX7 (some .int) rm_X7_shrink) (a : Int32 × St) (r : ((Int32 × St) ⊕ (St)) ⊕ (Int32 × St)) (h : f_X7_shrink_b19 x1 x2 a = some r) (k0 : ∀ q, r = .inl q → E_X7_shrink_19 x1 x2 K g ret q) (k1 : ∀ q, r = .inr q → H_X7_shrink_19 x1 x2 K g ret q) : H_X7_shrink_19 x1 x2 K g ret a := by
  unfold f_X7_shrink_b19 at h
  show XW K 0 0 5 (QI K g (wdM g) ret) (wdM g) a.2 19 [(0, .ref (g.1 0)), (1, .int x1), (2, .int x2), (3, .int a.1)] []
  refine x_iload_n X dX7_shrink_19 rfl 3 rfl ?_
  refine x_if_le (tgt := 69) X dX7_shrink_20 (by decide) (fun c3 => ?_) (fun c3 => ?_)
  · replace h := if_t c3 h
    refine x_sub [0, 1] rfl ?_
    have h9 := k0 _ (Option.some.inj h).symm
    exact h9
  · replace h := if_f c3 h
    refine x_aload_n X dX7_shrink_23 rfl 0 rfl ?_
    refine x_get (v := .int (a.2 0 0)) X 0 1 in_X7 rfl rfl (by decide) m_X7_59 rfl dX7_shrink_24 ?_
    refine x_iload_n X dX7_shrink_27 rfl 3 rfl ?_
    refine x_isub X dX7_shrink_28 ?_
    refine x_istore (lv2 := [(4, .int ((a.2 0 0) - a.1)), (0, .ref (g.1 0)), (1, .int x1), (2, .int x2), (3, .int a.1)]) X dX7_shrink_29 (by decide) rfl ?_
    refine x_sub [1, 2, 3, 4, 0] rfl ?_
    obtain ⟨q70, e7, h⟩ := bd h
    refine loopF_w (WH := H_X7_shrink_31 x1 x2 a.1 K g ret) (KB := E_X7_shrink_31 x1 x2 a.1 K g ret) (fun a9 r9 h9 k8 k7 => w_X7_shrink_b31 x1 x2 a.1 ret X a9 r9 h9 k8 k7) FU (((a.2 0 0) - a.1), a.2) q70 e7 ?_
    rcases q70 with q7 | q7
    · replace h := sl h
      exact (k0 _ (Option.some.inj h).symm)
    · replace h := sr h
      show XW K 0 0 5 (QI K g (wdM g) ret) (wdM g) q7 62 [(0, .ref (g.1 0)), (1, .int x1), (2, .int x2), (3, .int a.1)] []
      refine x_iload_n X dX7_shrink_62 rfl 3 rfl ?_
      refine x_iconst (v := 2) X dX7_shrink_63 (by decide) ?_
      refine x_idiv X dX7_shrink_64 (by decide) ?_
      refine x_istore_n (lv2 := [(3, .int (a.1 / 2)), (0, .ref (g.1 0)), (1, .int x1), (2, .int x2)]) X dX7_shrink_65 rfl (by decide) rfl ?_
      refine x_goto (tgt := 19) X dX7_shrink_66 (by decide) ?_
      refine x_sub [1, 2, 3, 0] rfl ?_
      have h9 := k1 _ (Option.some.inj h).symm
      exact h9
set_option maxRecDepth 100000 in
set_option maxHeartbeats 4000000 in
theorem c_X7_shrink (l : Launch) (D : va_G) (g : Gw) (u : St) (ret : Int32 × St) (h : f_X7_shrink u = some ret) : metI l D g (wdM g) yX7_shrink cX7_shrink 5 .int rm_X7_shrink [.ref (g.1 0)] u ret := by
  refine metI_of (own := RX7) (lv := [(0, .ref (g.1 0))]) (by decide) rfl rfl (Nat.le_of_ble_eq_true rfl) (fun K hl9 hD9 X => ?_)
  subst hl9
  subst hD9
  unfold f_X7_shrink at h
  refine x_aload_n X dX7_shrink_0 rfl 0 rfl ?_
  refine x_get (v := .int (u 0 0)) X 0 1 in_X7 rfl rfl (by decide) m_X7_59 rfl dX7_shrink_1 ?_
  refine x_istore_n (lv2 := [(1, .int (u 0 0)), (0, .ref (g.1 0))]) X dX7_shrink_4 rfl (by decide) rfl ?_
  refine x_aload_n X dX7_shrink_5 rfl 1 rfl ?_
  obtain ⟨q1, e1, h⟩ := bd h
  refine x_callI X [] [] (c_X7_run K.l K.D g u q1 e1) ok_X7_run m_X7_288 0 rfl rfl rfl rfl (Nat.le_of_ble_eq_true rfl) ⟨Nat.zero_le _, Nat.zero_le _⟩ ⟨rfl, rfl, by decide, by decide⟩ dX7_shrink_6 ?_
  refine x_istore_n (lv2 := [(2, .int q1.1), (1, .int (u 0 0)), (0, .ref (g.1 0))]) X dX7_shrink_9 rfl (by decide) rfl ?_
  refine x_iload_n X dX7_shrink_10 rfl 0 rfl ?_
  refine x_if_ne (tgt := 16) X dX7_shrink_11 (by decide) (fun c2 => ?_) (fun c2 => ?_)
  · replace h := if_f c2 h
    refine x_bipush (v := 32) X dX7_shrink_16 (by decide) ?_
    refine x_istore_n (lv2 := [(3, .int 32), (2, .int q1.1), (1, .int (u 0 0)), (0, .ref (g.1 0))]) X dX7_shrink_18 rfl (by decide) rfl ?_
    refine x_sub [3, 2, 1, 0] rfl ?_
    obtain ⟨q80, e8, h⟩ := bd h
    refine loopF_w (WH := H_X7_shrink_19 (u 0 0) q1.1 K g ret) (KB := E_X7_shrink_19 (u 0 0) q1.1 K g ret) (fun a9 r9 h9 k8 k7 => w_X7_shrink_b19 (u 0 0) q1.1 ret X a9 r9 h9 k8 k7) FU (32, q1.2) q80 e8 ?_
    rcases q80 with q8 | q8
    · replace h := sl h
      exact (Option.some.inj h)
    · replace h := sr h
      show XW K 0 0 5 (QI K g (wdM g) ret) (wdM g) q8 69 [(0, .ref (g.1 0)), (1, .int (u 0 0))] []
      refine x_aload_n X dX7_shrink_69 rfl 0 rfl ?_
      obtain ⟨q9, e9, h⟩ := bd h
      refine x_callI X [] [] (c_X7_run K.l K.D g q8 q9 e9) ok_X7_run m_X7_288 0 rfl rfl rfl rfl (Nat.le_of_ble_eq_true rfl) ⟨Nat.zero_le _, Nat.zero_le _⟩ ⟨rfl, rfl, by decide, by decide⟩ dX7_shrink_70 ?_
      refine x_pop X dX7_shrink_73 rfl ?_
      refine x_iload_n X dX7_shrink_74 rfl 1 rfl ?_
      refine x_aload_n X dX7_shrink_75 rfl 0 rfl ?_
      refine x_get (v := .int (q9.2 0 0)) X 0 1 in_X7 rfl rfl (by decide) m_X7_59 rfl dX7_shrink_76 ?_
      refine x_isub X dX7_shrink_79 ?_
      exact x_iret X (Option.some.inj h) dX7_shrink_80
  · replace h := if_t c2 h
    refine x_iconst (v := 0) X dX7_shrink_14 (by decide) ?_
    exact x_iret X (Option.some.inj h) dX7_shrink_15
set_option maxRecDepth 100000 in
set_option maxHeartbeats 4000000 in
theorem w_X7_at_j22 {K : Cx} {g : Gw} (ret : Int32) (X : XC K g cX7_at 2 RX7 (some .int) rm_X7_at) (z0 : Int32) (u : St) (h : f_X7_at_j22 z0 u = some ret) : XW K 0 0 2 (QI K g (wdM g) (ret, u)) (wdM g) u 22 [] [.int z0] := by
  unfold f_X7_at_j22 at h
  exact x_iret X (roE (Option.some.inj h)) dX7_at_22
set_option maxRecDepth 100000 in
set_option maxHeartbeats 4000000 in
theorem w_X7_at_j12 {K : Cx} {g : Gw} (ret : Int32) (X : XC K g cX7_at 2 RX7 (some .int) rm_X7_at) (u : St) (h : f_X7_at_j12 u = some ret) : XW K 0 0 2 (QI K g (wdM g) (ret, u)) (wdM g) u 12 [] [] := by
  unfold f_X7_at_j12 at h
  refine x_iconst (v := (-1)) X dX7_at_12 (by decide) ?_
  refine x_goto (tgt := 22) X dX7_at_13 (by decide) ?_
  exact w_X7_at_j22 ret X (-1) u h
set_option maxRecDepth 100000 in
set_option maxHeartbeats 4000000 in
theorem c_X7_at (l : Launch) (D : va_G) (g : Gw) (p0 : Int32) (u : St) (ret : Int32) (h : f_X7_at p0 u = some ret) : metI l D g (wdM g) yX7_at cX7_at 2 .int rm_X7_at [.ref (g.1 0), .int p0] u (ret, u) := by
  refine metI_of (own := RX7) (lv := [(0, .ref (g.1 0)), (1, .int p0)]) (by decide) rfl rfl (Nat.le_of_ble_eq_true rfl) (fun K hl9 hD9 X => ?_)
  subst hl9
  subst hD9
  unfold f_X7_at at h
  refine x_iload_n X dX7_at_0 rfl 1 rfl ?_
  refine x_if_lt (tgt := 12) X dX7_at_1 (by decide) (fun c1 => ?_) (fun c1 => ?_)
  · replace h := if_t c1 h
    refine x_sub [] rfl ?_
    exact w_X7_at_j12 ret X u h
  · replace h := if_f c1 h
    refine x_iload_n X dX7_at_4 rfl 1 rfl ?_
    refine x_aload_n X dX7_at_5 rfl 0 rfl ?_
    refine x_get (v := .int (u 0 0)) X 0 1 in_X7 rfl rfl (by decide) m_X7_59 rfl dX7_at_6 ?_
    refine x_icmp_lt (tgt := 16) X dX7_at_9 (by decide) (fun c2 => ?_) (fun c2 => ?_)
    · replace h := if_t c2 h
      refine x_aload_n X dX7_at_16 rfl 0 rfl ?_
      refine x_get (v := .ref (g.1 1)) X 0 0 in_X7 rfl rfl (by decide) m_X7_7 rfl dX7_at_17 ?_
      refine x_iload_n X dX7_at_20 rfl 1 rfl ?_
      obtain ⟨i3, h⟩ := chk_some h
      refine x_iald (f := (u 30)) X 1 0 rfl rfl i3 dX7_at_21 ?_
      refine x_sub [] rfl ?_
      exact w_X7_at_j22 ret X ((u 30) (Int32.toNatClampNeg p0)) u h
    · replace h := if_f c2 h
      refine x_sub [] rfl ?_
      exact w_X7_at_j12 ret X u h
set_option maxRecDepth 100000 in
set_option maxHeartbeats 4000000 in
theorem w_X7_read_j20 {K : Cx} {g : Gw} (ret : Int32) (X : XC K g cX7_read 2 RX7 (some .int) rm_X7_read) (z0 : Int32) (u : St) (h : f_X7_read_j20 z0 u = some ret) : XW K 0 0 2 (QI K g (wdM g) (ret, u)) (wdM g) u 20 [] [.int z0] := by
  unfold f_X7_read_j20 at h
  exact x_iret X (roE (Option.some.inj h)) dX7_read_20
set_option maxRecDepth 100000 in
set_option maxHeartbeats 4000000 in
theorem w_X7_read_j10 {K : Cx} {g : Gw} (ret : Int32) (X : XC K g cX7_read 2 RX7 (some .int) rm_X7_read) (u : St) (h : f_X7_read_j10 u = some ret) : XW K 0 0 2 (QI K g (wdM g) (ret, u)) (wdM g) u 10 [] [] := by
  unfold f_X7_read_j10 at h
  refine x_iconst (v := (-1)) X dX7_read_10 (by decide) ?_
  refine x_goto (tgt := 20) X dX7_read_11 (by decide) ?_
  exact w_X7_read_j20 ret X (-1) u h
set_option maxRecDepth 100000 in
set_option maxHeartbeats 4000000 in
theorem c_X7_read (l : Launch) (D : va_G) (g : Gw) (p0 : Int32) (u : St) (ret : Int32) (h : f_X7_read p0 u = some ret) : metI l D g (wdM g) yX7_read cX7_read 2 .int rm_X7_read [.ref (g.1 0), .int p0] u (ret, u) := by
  refine metI_of (own := RX7) (lv := [(0, .ref (g.1 0)), (1, .int p0)]) (by decide) rfl rfl (Nat.le_of_ble_eq_true rfl) (fun K hl9 hD9 X => ?_)
  subst hl9
  subst hD9
  unfold f_X7_read at h
  refine x_iload_n X dX7_read_0 rfl 1 rfl ?_
  refine x_if_lt (tgt := 10) X dX7_read_1 (by decide) (fun c1 => ?_) (fun c1 => ?_)
  · replace h := if_t c1 h
    refine x_sub [] rfl ?_
    exact w_X7_read_j10 ret X u h
  · replace h := if_f c1 h
    refine x_iload_n X dX7_read_4 rfl 1 rfl ?_
    refine x_bipush (v := 6) X dX7_read_5 (by decide) ?_
    refine x_icmp_le (tgt := 14) X dX7_read_7 (by decide) (fun c2 => ?_) (fun c2 => ?_)
    · replace h := if_t c2 h
      refine x_aload_n X dX7_read_14 rfl 0 rfl ?_
      refine x_get (v := .ref (g.1 3)) X 0 11 in_X7 rfl rfl (by decide) m_X7_16 rfl dX7_read_15 ?_
      refine x_iload_n X dX7_read_18 rfl 1 rfl ?_
      obtain ⟨i3, h⟩ := chk_some h
      refine x_iald (f := (u 32)) X 3 0 rfl rfl i3 dX7_read_19 ?_
      refine x_sub [] rfl ?_
      exact w_X7_read_j20 ret X ((u 32) (Int32.toNatClampNeg p0)) u h
    · replace h := if_f c2 h
      refine x_sub [] rfl ?_
      exact w_X7_read_j10 ret X u h
set_option maxRecDepth 100000 in
set_option maxHeartbeats 4000000 in
theorem w_X7_found_j20 {K : Cx} {g : Gw} (ret : Int32) (X : XC K g cX7_found 2 RX7 (some .int) rm_X7_found) (z0 : Int32) (u : St) (h : f_X7_found_j20 z0 u = some ret) : XW K 0 0 2 (QI K g (wdM g) (ret, u)) (wdM g) u 20 [] [.int z0] := by
  unfold f_X7_found_j20 at h
  exact x_iret X (roE (Option.some.inj h)) dX7_found_20
set_option maxRecDepth 100000 in
set_option maxHeartbeats 4000000 in
theorem w_X7_found_j10 {K : Cx} {g : Gw} (ret : Int32) (X : XC K g cX7_found 2 RX7 (some .int) rm_X7_found) (u : St) (h : f_X7_found_j10 u = some ret) : XW K 0 0 2 (QI K g (wdM g) (ret, u)) (wdM g) u 10 [] [] := by
  unfold f_X7_found_j10 at h
  refine x_iconst (v := (-1)) X dX7_found_10 (by decide) ?_
  refine x_goto (tgt := 20) X dX7_found_11 (by decide) ?_
  exact w_X7_found_j20 ret X (-1) u h
set_option maxRecDepth 100000 in
set_option maxHeartbeats 4000000 in
theorem c_X7_found (l : Launch) (D : va_G) (g : Gw) (p0 : Int32) (u : St) (ret : Int32) (h : f_X7_found p0 u = some ret) : metI l D g (wdM g) yX7_found cX7_found 2 .int rm_X7_found [.ref (g.1 0), .int p0] u (ret, u) := by
  refine metI_of (own := RX7) (lv := [(0, .ref (g.1 0)), (1, .int p0)]) (by decide) rfl rfl (Nat.le_of_ble_eq_true rfl) (fun K hl9 hD9 X => ?_)
  subst hl9
  subst hD9
  unfold f_X7_found at h
  refine x_iload_n X dX7_found_0 rfl 1 rfl ?_
  refine x_if_lt (tgt := 10) X dX7_found_1 (by decide) (fun c1 => ?_) (fun c1 => ?_)
  · replace h := if_t c1 h
    refine x_sub [] rfl ?_
    exact w_X7_found_j10 ret X u h
  · replace h := if_f c1 h
    refine x_iload_n X dX7_found_4 rfl 1 rfl ?_
    refine x_bipush (v := 28) X dX7_found_5 (by decide) ?_
    refine x_icmp_le (tgt := 14) X dX7_found_7 (by decide) (fun c2 => ?_) (fun c2 => ?_)
    · replace h := if_t c2 h
      refine x_aload_n X dX7_found_14 rfl 0 rfl ?_
      refine x_get (v := .ref (g.1 2)) X 0 2 in_X7 rfl rfl (by decide) m_X7_13 rfl dX7_found_15 ?_
      refine x_iload_n X dX7_found_18 rfl 1 rfl ?_
      obtain ⟨i3, h⟩ := chk_some h
      refine x_iald (f := (u 31)) X 2 0 rfl rfl i3 dX7_found_19 ?_
      refine x_sub [] rfl ?_
      exact w_X7_found_j20 ret X ((u 31) (Int32.toNatClampNeg p0)) u h
    · replace h := if_f c2 h
      refine x_sub [] rfl ?_
      exact w_X7_found_j10 ret X u h
