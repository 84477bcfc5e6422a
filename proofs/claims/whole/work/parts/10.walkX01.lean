set_option maxRecDepth 100000 in
set_option maxHeartbeats 4000000 in
theorem c_X6_clear (l : Launch) (D : va_G) (g : Gw) (u : St) (ret : Int32 × St) (h : f_X6_clear u = some ret) : metI l D g (wdX g) yX6_clear cX6_clear 2 .int rm_X6_clear [.ref (g.1 0)] u ret := by
  refine metI_of (own := RX6) (lv := [(0, .ref (g.1 0))]) (by decide) rfl rfl (Nat.le_of_ble_eq_true rfl) (fun K hl9 hD9 X => ?_)
  subst hl9
  subst hD9
  unfold f_X6_clear at h
  refine x_aload_n X dX6_clear_0 rfl 0 rfl ?_
  refine x_get (v := .ref (g.1 1)) X 0 0 in_X6 rfl rfl (by decide) m_X6_10 rfl dX6_clear_1 ?_
  refine x_get (v := .int (u 1 0)) X 1 1 in_X1 rfl rfl (by decide) m_X6_40 rfl dX6_clear_4 ?_
  refine x_istore_n (lv2 := [(1, .int (u 1 0)), (0, .ref (g.1 0))]) X dX6_clear_7 rfl (by decide) rfl ?_
  refine x_aload_n X dX6_clear_8 rfl 1 rfl ?_
  refine x_get (v := .ref (g.1 1)) X 0 0 in_X6 rfl rfl (by decide) m_X6_10 rfl dX6_clear_9 ?_
  refine x_iconst (v := 0) X dX6_clear_12 (by decide) ?_
  refine x_put (ty := .int) (u2 := (up u 1 0 0)) X 1 1 in_X1 tk_X1 nk_X1 rfl rfl (by decide) m_X6_40 rfl rfl rfl rfl (Nat.le_of_ble_eq_true rfl) (wdX_1 g u 0) dX6_clear_13 ?_
  refine x_iload_n X dX6_clear_16 rfl 0 rfl ?_
  exact x_iret X (Option.some.inj h) dX6_clear_17
set_option maxRecDepth 100000 in
set_option maxHeartbeats 4000000 in
theorem c_X5_release (l : Launch) (D : va_G) (g : Gw) (u : St) (ret : St) (h : f_X5_release u = some ret) : metV l D g (wdX g) yX5_release cX5_release 1 rm_X5_release [.ref (g.1 3)] u ret := by
  refine metV_of (own := RX5) (lv := [(0, .ref (g.1 3))]) (by decide) rfl rfl (Nat.le_of_ble_eq_true rfl) (fun K hl9 hD9 X => ?_)
  subst hl9
  subst hD9
  unfold f_X5_release at h
  refine x_aload_n X dX5_release_0 rfl 0 rfl ?_
  refine x_aload_n X dX5_release_1 rfl 0 rfl ?_
  refine x_get (v := .ref (g.1 1)) X 3 0 in_X5 rfl rfl (by decide) m_X5_7 rfl dX5_release_2 ?_
  refine x_get (v := .int (u 1 0)) X 1 1 in_X1 rfl rfl (by decide) m_X5_35 rfl dX5_release_5 ?_
  refine x_put (ty := .int) (u2 := (up u 5 0 (u 1 0))) X 3 4 in_X5 tk_X5 nk_X5 rfl rfl (by decide) m_X5_26 rfl rfl rfl rfl (Nat.le_of_ble_eq_true rfl) (wdX_5 g u (u 1 0)) dX5_release_8 ?_
  refine x_aload_n X dX5_release_11 rfl 0 rfl ?_
  refine x_iconst (v := 1) X dX5_release_12 (by decide) ?_
  refine x_put (ty := .int) (u2 := (up (up u 5 0 (u 1 0)) 6 0 1)) X 3 5 in_X5 tk_X5 nk_X5 rfl rfl (by decide) m_X5_29 rfl rfl rfl rfl (Nat.le_of_ble_eq_true rfl) (wdX_6 g (up u 5 0 (u 1 0)) 1) dX5_release_13 ?_
  refine x_aload_n X dX5_release_16 rfl 0 rfl ?_
  refine x_aload_n X dX5_release_17 rfl 0 rfl ?_
  refine x_get (v := .ref (g.1 1)) X 3 0 in_X5 rfl rfl (by decide) m_X5_7 rfl dX5_release_18 ?_
  refine x_get (v := .int (u 1 0)) X 1 1 in_X1 rfl rfl (by decide) m_X5_35 rfl dX5_release_21 ?_
  refine x_put (ty := .int) (u2 := (up (up (up u 5 0 (u 1 0)) 6 0 1) 7 0 (u 1 0))) X 3 6 in_X5 tk_X5 nk_X5 rfl rfl (by decide) m_X5_32 rfl rfl rfl rfl (Nat.le_of_ble_eq_true rfl) (wdX_7 g (up (up u 5 0 (u 1 0)) 6 0 1) (u 1 0)) dX5_release_24 ?_
  exact x_vret X (Option.some.inj h) dX5_release_27
set_option maxRecDepth 100000 in
set_option maxHeartbeats 4000000 in
theorem c_X5_restart (l : Launch) (D : va_G) (g : Gw) (u : St) (ret : St) (h : f_X5_restart u = some ret) : metV l D g (wdX g) yX5_restart cX5_restart 1 rm_X5_restart [.ref (g.1 3)] u ret := by
  refine metV_of (own := RX5) (lv := [(0, .ref (g.1 3))]) (by decide) rfl rfl (Nat.le_of_ble_eq_true rfl) (fun K hl9 hD9 X => ?_)
  subst hl9
  subst hD9
  unfold f_X5_restart at h
  refine x_aload_n X dX5_restart_0 rfl 0 rfl ?_
  refine x_iconst (v := 0) X dX5_restart_1 (by decide) ?_
  refine x_put (ty := .int) (u2 := (up u 2 0 0)) X 3 1 in_X5 tk_X5 nk_X5 rfl rfl (by decide) m_X5_13 rfl rfl rfl rfl (Nat.le_of_ble_eq_true rfl) (wdX_2 g u 0) dX5_restart_2 ?_
  refine x_aload_n X dX5_restart_5 rfl 0 rfl ?_
  refine x_iconst (v := 0) X dX5_restart_6 (by decide) ?_
  refine x_put (ty := .int) (u2 := (up (up u 2 0 0) 3 0 0)) X 3 2 in_X5 tk_X5 nk_X5 rfl rfl (by decide) m_X5_17 rfl rfl rfl rfl (Nat.le_of_ble_eq_true rfl) (wdX_3 g (up u 2 0 0) 0) dX5_restart_7 ?_
  refine x_aload_n X dX5_restart_10 rfl 0 rfl ?_
  refine x_iconst (v := 0) X dX5_restart_11 (by decide) ?_
  refine x_put (ty := .int) (u2 := (up (up (up u 2 0 0) 3 0 0) 4 0 0)) X 3 3 in_X5 tk_X5 nk_X5 rfl rfl (by decide) m_X5_20 rfl rfl rfl rfl (Nat.le_of_ble_eq_true rfl) (wdX_4 g (up (up u 2 0 0) 3 0 0) 0) dX5_restart_12 ?_
  refine x_aload_n X dX5_restart_15 rfl 0 rfl ?_
  obtain ⟨q1, e1, h⟩ := bd h
  refine x_callV X [] [] (c_X5_release K.l K.D g (up (up (up u 2 0 0) 3 0 0) 4 0 0) q1 e1) ok_X5_release m_X5_23 3 rfl rfl rfl rfl (Nat.le_of_ble_eq_true rfl) ⟨Nat.zero_le _, Nat.zero_le _⟩ ⟨rfl, rfl, by decide, by decide⟩ dX5_restart_16 ?_
  exact x_vret X (Option.some.inj h) dX5_restart_19
set_option maxRecDepth 100000 in
set_option maxHeartbeats 4000000 in
theorem c_X4_forget (l : Launch) (D : va_G) (g : Gw) (u : St) (ret : St) (h : f_X4_forget u = some ret) : metV l D g (wdX g) yX4_forget cX4_forget 1 rm_X4_forget [.ref (g.1 4)] u ret := by
  refine metV_of (own := RX4) (lv := [(0, .ref (g.1 4))]) (by decide) rfl rfl (Nat.le_of_ble_eq_true rfl) (fun K hl9 hD9 X => ?_)
  subst hl9
  subst hD9
  unfold f_X4_forget at h
  refine x_aload_n X dX4_forget_0 rfl 0 rfl ?_
  refine x_iconst (v := 0) X dX4_forget_1 (by decide) ?_
  refine x_put (ty := .int) (u2 := (up u 8 0 0)) X 4 4 in_X4 tk_X4 nk_X4 rfl rfl (by decide) m_X4_31 rfl rfl rfl rfl (Nat.le_of_ble_eq_true rfl) (wdX_8 g u 0) dX4_forget_2 ?_
  exact x_vret X (Option.some.inj h) dX4_forget_5
set_option maxRecDepth 100000 in
set_option maxHeartbeats 4000000 in
theorem w_X5_step_j17 {K : Cx} {g : Gw} (ret : Int32 × St) (X : XC K g cX5_step 2 RX5 (some .boolean) rm_X5_step) (u : St) (h : f_X5_step_j17 u = some ret) : XW K 0 0 2 (QI K g (wdX g) ret) (wdX g) u 17 [(0, .ref (g.1 3))] [] := by
  unfold f_X5_step_j17 at h
  refine x_aload_n X dX5_step_17 rfl 0 rfl ?_
  refine x_aload_n X dX5_step_18 rfl 0 rfl ?_
  refine x_get (v := .int (u 6 0)) X 3 5 in_X5 rfl rfl (by decide) m_X5_29 rfl dX5_step_19 ?_
  refine x_put (ty := .int) (u2 := (up u 2 0 (u 6 0))) X 3 1 in_X5 tk_X5 nk_X5 rfl rfl (by decide) m_X5_13 rfl rfl rfl rfl (Nat.le_of_ble_eq_true rfl) (wdX_2 g u (u 6 0)) dX5_step_22 ?_
  refine x_aload_n X dX5_step_25 rfl 0 rfl ?_
  refine x_aload_n X dX5_step_26 rfl 0 rfl ?_
  refine x_get (v := .int (u 7 0)) X 3 6 in_X5 rfl rfl (by decide) m_X5_32 rfl dX5_step_27 ?_
  refine x_put (ty := .int) (u2 := (up (up u 2 0 (u 6 0)) 3 0 (u 7 0))) X 3 2 in_X5 tk_X5 nk_X5 rfl rfl (by decide) m_X5_17 rfl rfl rfl rfl (Nat.le_of_ble_eq_true rfl) (wdX_3 g (up u 2 0 (u 6 0)) (u 7 0)) dX5_step_30 ?_
  refine x_iconst (v := 0) X dX5_step_33 (by decide) ?_
  exact x_zret X rfl (Option.some.inj h) dX5_step_34
set_option maxRecDepth 100000 in
set_option maxHeartbeats 4000000 in
theorem c_X5_step (l : Launch) (D : va_G) (g : Gw) (p0 : Int32) (u : St) (ret : Int32 × St) (h : f_X5_step p0 u = some ret) : metI l D g (wdX g) yX5_step cX5_step 2 .boolean rm_X5_step [.ref (g.1 3), .int p0] u ret := by
  refine metI_of (own := RX5) (lv := [(0, .ref (g.1 3)), (1, .int p0)]) (by decide) rfl rfl (Nat.le_of_ble_eq_true rfl) (fun K hl9 hD9 X => ?_)
  subst hl9
  subst hD9
  unfold f_X5_step at h
  refine x_iload_n X dX5_step_0 rfl 1 rfl ?_
  refine x_if_lt (tgt := 17) X dX5_step_1 (by decide) (fun c1 => ?_) (fun c1 => ?_)
  · replace h := if_t c1 h
    refine x_sub [0] rfl ?_
    exact w_X5_step_j17 ret X u h
  · replace h := if_f c1 h
    refine x_iload_n X dX5_step_4 rfl 1 rfl ?_
    refine x_aload_n X dX5_step_5 rfl 0 rfl ?_
    refine x_get (v := .int (u 5 0)) X 3 4 in_X5 rfl rfl (by decide) m_X5_26 rfl dX5_step_6 ?_
    refine x_aload_n X dX5_step_9 rfl 0 rfl ?_
    refine x_get (v := .int (u 4 0)) X 3 3 in_X5 rfl rfl (by decide) m_X5_20 rfl dX5_step_10 ?_
    refine x_isub X dX5_step_13 ?_
    refine x_icmp_le (tgt := 35) X dX5_step_14 (by decide) (fun c2 => ?_) (fun c2 => ?_)
    · replace h := if_t c2 h
      refine x_aload_n X dX5_step_35 rfl 0 rfl ?_
      refine x_dup X dX5_step_36 rfl ?_
      refine x_get (v := .int (u 4 0)) X 3 3 in_X5 rfl rfl (by decide) m_X5_20 rfl dX5_step_37 ?_
      refine x_iload_n X dX5_step_40 rfl 1 rfl ?_
      refine x_iadd X dX5_step_41 ?_
      refine x_put (ty := .int) (u2 := (up u 4 0 ((u 4 0) + p0))) X 3 3 in_X5 tk_X5 nk_X5 rfl rfl (by decide) m_X5_20 rfl rfl rfl rfl (Nat.le_of_ble_eq_true rfl) (wdX_4 g u ((u 4 0) + p0)) dX5_step_42 ?_
      refine x_iconst (v := 1) X dX5_step_45 (by decide) ?_
      exact x_zret X rfl (Option.some.inj h) dX5_step_46
    · replace h := if_f c2 h
      refine x_sub [0] rfl ?_
      exact w_X5_step_j17 ret X u h
set_option maxRecDepth 100000 in
set_option maxHeartbeats 4000000 in
theorem c_X1_u4 (l : Launch) (D : va_G) (g : Gw) (p0 : Int32) (u : St) (ret : Int32) (h : f_X1_u4 p0 u = some ret) : metI l D g (wdX g) yX1_u4 cX1_u4 2 .int rm_X1_u4 [.ref (g.1 1), .int p0] u (ret, u) := by
  refine metI_of (own := RX1) (lv := [(0, .ref (g.1 1)), (1, .int p0)]) (by decide) rfl rfl (Nat.le_of_ble_eq_true rfl) (fun K hl9 hD9 X => ?_)
  subst hl9
  subst hD9
  unfold f_X1_u4 at h
  refine x_aload_n X dX1_u4_0 rfl 0 rfl ?_
  refine x_get (v := .ref (g.1 8)) X 1 0 in_X1 rfl rfl (by decide) m_X1_9 rfl dX1_u4_1 ?_
  refine x_iload_n X dX1_u4_4 rfl 1 rfl ?_
  obtain ⟨i1, h⟩ := chk_some h
  refine x_iald (f := (u 22)) X 8 0 rfl rfl i1 dX1_u4_5 ?_
  refine x_bipush (v := 24) X dX1_u4_6 (by decide) ?_
  refine x_ishl X dX1_u4_8 ?_
  refine x_aload_n X dX1_u4_9 rfl 0 rfl ?_
  refine x_get (v := .ref (g.1 8)) X 1 0 in_X1 rfl rfl (by decide) m_X1_9 rfl dX1_u4_10 ?_
  refine x_iload_n X dX1_u4_13 rfl 1 rfl ?_
  refine x_iconst (v := 1) X dX1_u4_14 (by decide) ?_
  refine x_iadd X dX1_u4_15 ?_
  obtain ⟨i2, h⟩ := chk_some h
  refine x_iald (f := (u 22)) X 8 0 rfl rfl i2 dX1_u4_16 ?_
  refine x_bipush (v := 16) X dX1_u4_17 (by decide) ?_
  refine x_ishl X dX1_u4_19 ?_
  refine x_ior X dX1_u4_20 ?_
  refine x_aload_n X dX1_u4_21 rfl 0 rfl ?_
  refine x_get (v := .ref (g.1 8)) X 1 0 in_X1 rfl rfl (by decide) m_X1_9 rfl dX1_u4_22 ?_
  refine x_iload_n X dX1_u4_25 rfl 1 rfl ?_
  refine x_iconst (v := 2) X dX1_u4_26 (by decide) ?_
  refine x_iadd X dX1_u4_27 ?_
  obtain ⟨i3, h⟩ := chk_some h
  refine x_iald (f := (u 22)) X 8 0 rfl rfl i3 dX1_u4_28 ?_
  refine x_bipush (v := 8) X dX1_u4_29 (by decide) ?_
  refine x_ishl X dX1_u4_31 ?_
  refine x_ior X dX1_u4_32 ?_
  refine x_aload_n X dX1_u4_33 rfl 0 rfl ?_
  refine x_get (v := .ref (g.1 8)) X 1 0 in_X1 rfl rfl (by decide) m_X1_9 rfl dX1_u4_34 ?_
  refine x_iload_n X dX1_u4_37 rfl 1 rfl ?_
  refine x_iconst (v := 3) X dX1_u4_38 (by decide) ?_
  refine x_iadd X dX1_u4_39 ?_
  obtain ⟨i4, h⟩ := chk_some h
  refine x_iald (f := (u 22)) X 8 0 rfl rfl i4 dX1_u4_40 ?_
  refine x_ior X dX1_u4_41 ?_
  exact x_iret X (roE (Option.some.inj h)) dX1_u4_42
set_option maxRecDepth 100000 in
set_option maxHeartbeats 4000000 in
theorem c_X1_u2 (l : Launch) (D : va_G) (g : Gw) (p0 : Int32) (u : St) (ret : Int32) (h : f_X1_u2 p0 u = some ret) : metI l D g (wdX g) yX1_u2 cX1_u2 2 .int rm_X1_u2 [.ref (g.1 1), .int p0] u (ret, u) := by
  refine metI_of (own := RX1) (lv := [(0, .ref (g.1 1)), (1, .int p0)]) (by decide) rfl rfl (Nat.le_of_ble_eq_true rfl) (fun K hl9 hD9 X => ?_)
  subst hl9
  subst hD9
  unfold f_X1_u2 at h
  refine x_aload_n X dX1_u2_0 rfl 0 rfl ?_
  refine x_get (v := .ref (g.1 8)) X 1 0 in_X1 rfl rfl (by decide) m_X1_9 rfl dX1_u2_1 ?_
  refine x_iload_n X dX1_u2_4 rfl 1 rfl ?_
  obtain ⟨i1, h⟩ := chk_some h
  refine x_iald (f := (u 22)) X 8 0 rfl rfl i1 dX1_u2_5 ?_
  refine x_bipush (v := 8) X dX1_u2_6 (by decide) ?_
  refine x_ishl X dX1_u2_8 ?_
  refine x_aload_n X dX1_u2_9 rfl 0 rfl ?_
  refine x_get (v := .ref (g.1 8)) X 1 0 in_X1 rfl rfl (by decide) m_X1_9 rfl dX1_u2_10 ?_
  refine x_iload_n X dX1_u2_13 rfl 1 rfl ?_
  refine x_iconst (v := 1) X dX1_u2_14 (by decide) ?_
  refine x_iadd X dX1_u2_15 ?_
  obtain ⟨i2, h⟩ := chk_some h
  refine x_iald (f := (u 22)) X 8 0 rfl rfl i2 dX1_u2_16 ?_
  refine x_ior X dX1_u2_17 ?_
  exact x_iret X (roE (Option.some.inj h)) dX1_u2_18
set_option maxRecDepth 100000 in
set_option maxHeartbeats 4000000 in
theorem c_X5_broken (l : Launch) (D : va_G) (g : Gw) (p0 : Int32) (p1 : Int32) (u : St) (ret : Int32 × St) (h : f_X5_broken p0 p1 u = some ret) : metI l D g (wdX g) yX5_broken cX5_broken 3 .boolean rm_X5_broken [.ref (g.1 3), .int p0, .int p1] u ret := by
  refine metI_of (own := RX5) (lv := [(0, .ref (g.1 3)), (1, .int p0), (2, .int p1)]) (by decide) rfl rfl (Nat.le_of_ble_eq_true rfl) (fun K hl9 hD9 X => ?_)
  subst hl9
  subst hD9
  unfold f_X5_broken at h
  refine x_aload_n X dX5_broken_0 rfl 0 rfl ?_
  refine x_iload_n X dX5_broken_1 rfl 1 rfl ?_
  refine x_put (ty := .int) (u2 := (up u 2 0 p0)) X 3 1 in_X5 tk_X5 nk_X5 rfl rfl (by decide) m_X5_13 rfl rfl rfl rfl (Nat.le_of_ble_eq_true rfl) (wdX_2 g u p0) dX5_broken_2 ?_
  refine x_aload_n X dX5_broken_5 rfl 0 rfl ?_
  refine x_iload_n X dX5_broken_6 rfl 2 rfl ?_
  refine x_put (ty := .int) (u2 := (up (up u 2 0 p0) 3 0 p1)) X 3 2 in_X5 tk_X5 nk_X5 rfl rfl (by decide) m_X5_17 rfl rfl rfl rfl (Nat.le_of_ble_eq_true rfl) (wdX_3 g (up u 2 0 p0) p1) dX5_broken_7 ?_
  refine x_iconst (v := 0) X dX5_broken_10 (by decide) ?_
  exact x_zret X rfl (Option.some.inj h) dX5_broken_11
set_option maxRecDepth 100000 in
set_option maxHeartbeats 4000000 in
theorem w_X2_readHead_j89 {K : Cx} {g : Gw} (ret : Int32 × St) (X : XC K g cX2_readHead 2 RX2 (some .boolean) rm_X2_readHead) (z0 : Int32) (u : St) (h : f_X2_readHead_j89 z0 u = some ret) : XW K 0 0 2 (QI K g (wdX g) ret) (wdX g) u 89 [] [.int z0] := by
  unfold f_X2_readHead_j89 at h
  obtain ⟨b11, h⟩ := bchk_some h
  exact x_zret X b11 (Option.some.inj h) dX2_readHead_89
set_option maxRecDepth 100000 in
set_option maxHeartbeats 4000000 in
theorem w_X2_readHead_j84 {K : Cx} {g : Gw} (ret : Int32 × St) (X : XC K g cX2_readHead 2 RX2 (some .boolean) rm_X2_readHead) (u : St) (h : f_X2_readHead_j84 u = some ret) : XW K 0 0 2 (QI K g (wdX g) ret) (wdX g) u 84 [] [] := by
  unfold f_X2_readHead_j84 at h
  refine x_iconst (v := 1) X dX2_readHead_84 (by decide) ?_
  refine x_goto (tgt := 89) X dX2_readHead_85 (by decide) ?_
  exact w_X2_readHead_j89 ret X 1 u h
set_option maxRecDepth 100000 in
set_option maxHeartbeats 4000000 in
theorem w_X2_readHead_j71 {K : Cx} {g : Gw} (ret : Int32 × St) (X : XC K g cX2_readHead 2 RX2 (some .boolean) rm_X2_readHead) (u : St) (h : f_X2_readHead_j71 u = some ret) : XW K 0 0 2 (QI K g (wdX g) ret) (wdX g) u 71 [(0, .ref (g.1 2))] [] := by
  unfold f_X2_readHead_j71 at h
  refine x_aload_n X dX2_readHead_71 rfl 0 rfl ?_
  refine x_get (v := .ref (g.1 3)) X 2 0 in_X2 rfl rfl (by decide) m_X2_27 rfl dX2_readHead_72 ?_
  refine x_iconst (v := 3) X dX2_readHead_75 (by decide) ?_
  refine x_bipush (v := 6) X dX2_readHead_76 (by decide) ?_
  obtain ⟨q9, e9, h⟩ := bd h
  refine x_callI X [.int 3, .int 6] [] (c_X5_broken K.l K.D g 3 6 u q9 e9) ok_X5_broken m_X2_93 3 rfl rfl rfl rfl (Nat.le_of_ble_eq_true rfl) ⟨Nat.zero_le _, Nat.zero_le _⟩ ⟨rfl, rfl, by decide, by decide⟩ dX2_readHead_78 ?_
  refine x_if_eq (tgt := 88) X dX2_readHead_81 (by decide) (fun c10 => ?_) (fun c10 => ?_)
  · replace h := if_t c10 h
    refine x_iconst (v := 0) X dX2_readHead_88 (by decide) ?_
    refine x_sub [] rfl ?_
    exact w_X2_readHead_j89 ret X 0 q9.2 h
  · replace h := if_f c10 h
    refine x_sub [] rfl ?_
    exact w_X2_readHead_j84 ret X q9.2 h
set_option maxRecDepth 100000 in
set_option maxHeartbeats 4000000 in
theorem c_X2_readHead (l : Launch) (D : va_G) (g : Gw) (u : St) (ret : Int32 × St) (h : f_X2_readHead u = some ret) : metI l D g (wdX g) yX2_readHead cX2_readHead 2 .boolean rm_X2_readHead [.ref (g.1 2)] u ret := by
  refine metI_of (own := RX2) (lv := [(0, .ref (g.1 2))]) (by decide) rfl rfl (Nat.le_of_ble_eq_true rfl) (fun K hl9 hD9 X => ?_)
  subst hl9
  subst hD9
  unfold f_X2_readHead at h
  refine x_aload_n X dX2_readHead_0 rfl 0 rfl ?_
  refine x_get (v := .ref (g.1 3)) X 2 0 in_X2 rfl rfl (by decide) m_X2_27 rfl dX2_readHead_1 ?_
  refine x_iconst (v := 4) X dX2_readHead_4 (by decide) ?_
  obtain ⟨q1, e1, h⟩ := bd h
  refine x_callI X [.int 4] [] (c_X5_step K.l K.D g 4 u q1 e1) ok_X5_step m_X2_100 3 rfl rfl rfl rfl (Nat.le_of_ble_eq_true rfl) ⟨Nat.zero_le _, Nat.zero_le _⟩ ⟨rfl, rfl, by decide, by decide⟩ dX2_readHead_5 ?_
  refine x_if_ne (tgt := 13) X dX2_readHead_8 (by decide) (fun c2 => ?_) (fun c2 => ?_)
  · replace h := if_f c2 h
    refine x_aload_n X dX2_readHead_13 rfl 0 rfl ?_
    refine x_get (v := .ref (g.1 1)) X 2 2 in_X2 rfl rfl (by decide) m_X2_18 rfl dX2_readHead_14 ?_
    refine x_iconst (v := 0) X dX2_readHead_17 (by decide) ?_
    obtain ⟨q3, e3, h⟩ := bd h
    refine x_callR X [.int 0] [] (c_X1_u4 K.l K.D g 0 q1.2 q3 e3) ok_X1_u4 m_X2_104 1 rfl rfl rfl rfl (Nat.le_of_ble_eq_true rfl) ⟨Nat.zero_le _, Nat.zero_le _⟩ ⟨rfl, rfl, by decide, by decide⟩ dX2_readHead_18 ?_
    refine x_ldc (v := (-889275714)) X m_X2_108 dX2_readHead_21 ?_
    refine x_icmp_eq (tgt := 36) X dX2_readHead_23 (by decide) (fun c4 => ?_) (fun c4 => ?_)
    · replace h := if_t c4 h
      refine x_aload_n X dX2_readHead_36 rfl 0 rfl ?_
      refine x_get (v := .ref (g.1 3)) X 2 0 in_X2 rfl rfl (by decide) m_X2_27 rfl dX2_readHead_37 ?_
      refine x_iconst (v := 4) X dX2_readHead_40 (by decide) ?_
      obtain ⟨q5, e5, h⟩ := bd h
      refine x_callI X [.int 4] [] (c_X5_step K.l K.D g 4 q1.2 q5 e5) ok_X5_step m_X2_100 3 rfl rfl rfl rfl (Nat.le_of_ble_eq_true rfl) ⟨Nat.zero_le _, Nat.zero_le _⟩ ⟨rfl, rfl, by decide, by decide⟩ dX2_readHead_41 ?_
      refine x_if_ne (tgt := 49) X dX2_readHead_44 (by decide) (fun c6 => ?_) (fun c6 => ?_)
      · replace h := if_f c6 h
        refine x_aload_n X dX2_readHead_49 rfl 0 rfl ?_
        refine x_get (v := .ref (g.1 1)) X 2 2 in_X2 rfl rfl (by decide) m_X2_18 rfl dX2_readHead_50 ?_
        refine x_bipush (v := 6) X dX2_readHead_53 (by decide) ?_
        obtain ⟨q7, e7, h⟩ := bd h
        refine x_callR X [.int 6] [] (c_X1_u2 K.l K.D g 6 q5.2 q7 e7) ok_X1_u2 m_X2_109 1 rfl rfl rfl rfl (Nat.le_of_ble_eq_true rfl) ⟨Nat.zero_le _, Nat.zero_le _⟩ ⟨rfl, rfl, by decide, by decide⟩ dX2_readHead_55 ?_
        refine x_istore_n (lv2 := [(1, .int q7), (0, .ref (g.1 2))]) X dX2_readHead_58 rfl (by decide) rfl ?_
        refine x_iload_n X dX2_readHead_59 rfl 0 rfl ?_
        refine x_bipush (v := 45) X dX2_readHead_60 (by decide) ?_
        refine x_icmp_lt (tgt := 71) X dX2_readHead_62 (by decide) (fun c8 => ?_) (fun c8 => ?_)
        · replace h := if_t c8 h
          refine x_sub [1] rfl ?_
          exact w_X2_readHead_j71 ret X q5.2 h
        · replace h := if_f c8 h
          refine x_iload_n X dX2_readHead_65 rfl 0 rfl ?_
          refine x_bipush (v := 69) X dX2_readHead_66 (by decide) ?_
          refine x_icmp_le (tgt := 84) X dX2_readHead_68 (by decide) (fun c12 => ?_) (fun c12 => ?_)
          · replace h := if_t c12 h
            refine x_sub [] rfl ?_
            exact w_X2_readHead_j84 ret X q5.2 h
          · replace h := if_f c12 h
            refine x_sub [1] rfl ?_
            exact w_X2_readHead_j71 ret X q5.2 h
      · replace h := if_t c6 h
        refine x_iconst (v := 0) X dX2_readHead_47 (by decide) ?_
        exact x_zret X rfl (Option.some.inj h) dX2_readHead_48
    · replace h := if_f c4 h
      refine x_aload_n X dX2_readHead_26 rfl 0 rfl ?_
      refine x_get (v := .ref (g.1 3)) X 2 0 in_X2 rfl rfl (by decide) m_X2_27 rfl dX2_readHead_27 ?_
      refine x_iconst (v := 2) X dX2_readHead_30 (by decide) ?_
      refine x_iconst (v := 0) X dX2_readHead_31 (by decide) ?_
      obtain ⟨q13, e13, h⟩ := bd h
      refine x_callI X [.int 2, .int 0] [] (c_X5_broken K.l K.D g 2 0 q1.2 q13 e13) ok_X5_broken m_X2_93 3 rfl rfl rfl rfl (Nat.le_of_ble_eq_true rfl) ⟨Nat.zero_le _, Nat.zero_le _⟩ ⟨rfl, rfl, by decide, by decide⟩ dX2_readHead_32 ?_
      obtain ⟨b14, h⟩ := bchk_some h
      exact x_zret X b14 (Option.some.inj h) dX2_readHead_35
  · replace h := if_t c2 h
    refine x_iconst (v := 0) X dX2_readHead_11 (by decide) ?_
    exact x_zret X rfl (Option.some.inj h) dX2_readHead_12
set_option maxRecDepth 100000 in
set_option maxHeartbeats 4000000 in
theorem c_X4_fixedSize (l : Launch) (D : va_G) (g : Gw) (p0 : Int32) (u : St) (ret : Int32) (h : f_X4_fixedSize p0 u = some ret) : metI l D g (wdX g) yX4_fixedSize cX4_fixedSize 1 .int rm_X4_fixedSize [.int p0] u (ret, u) := by
  refine metI_of (own := RX4) (lv := [(0, .int p0)]) (by decide) rfl rfl (Nat.le_of_ble_eq_true rfl) (fun K hl9 hD9 X => ?_)
  subst hl9
  subst hD9
  unfold f_X4_fixedSize at h
  refine x_iload_n X dX4_fixedSize_0 rfl 0 rfl ?_
  by_cases c1_0 : p0 = 1 ∨ p0 = 7 ∨ p0 = 8
  · replace h := if_t c1_0 h
    have k9 : XW K 0 0 1 (QI K g (wdX g) (ret, u)) (wdX g) u 64 [(0, .int p0)] [] := by
      refine x_iconst (v := 2) X dX4_fixedSize_64 (by decide) ?_
      exact x_iret X (roE (Option.some.inj h)) dX4_fixedSize_65
    rcases c1_0 with c1_0 | c1_0 | c1_0 <;> exact x_tableIn (off := 63) (tgt := 64) X dX4_fixedSize_1 (by rw [c1_0]; decide) (by rw [c1_0]; decide) (by rw [c1_0]; decide) (by decide) k9
  replace h := if_f c1_0 h
  by_cases c1_1 : p0 = 3 ∨ p0 = 10 ∨ p0 = 12
  · replace h := if_t c1_1 h
    have k9 : XW K 0 0 1 (QI K g (wdX g) (ret, u)) (wdX g) u 66 [(0, .int p0)] [] := by
      refine x_iconst (v := 4) X dX4_fixedSize_66 (by decide) ?_
      exact x_iret X (roE (Option.some.inj h)) dX4_fixedSize_67
    rcases c1_1 with c1_1 | c1_1 | c1_1 <;> exact x_tableIn (off := 65) (tgt := 66) X dX4_fixedSize_1 (by rw [c1_1]; decide) (by rw [c1_1]; decide) (by rw [c1_1]; decide) (by decide) k9
  replace h := if_f c1_1 h
  by_cases c1_2 : p0 = 5
  · replace h := if_t c1_2 h
    have k9 : XW K 0 0 1 (QI K g (wdX g) (ret, u)) (wdX g) u 68 [(0, .int p0)] [] := by
      refine x_bipush (v := 8) X dX4_fixedSize_68 (by decide) ?_
      exact x_iret X (roE (Option.some.inj h)) dX4_fixedSize_70
    exact x_tableIn (off := 67) (tgt := 68) X dX4_fixedSize_1 (by rw [c1_2]; decide) (by rw [c1_2]; decide) (by rw [c1_2]; decide) (by decide) k9
  replace h := if_f c1_2 h
  have k9 : XW K 0 0 1 (QI K g (wdX g) (ret, u)) (wdX g) u 71 [(0, .int p0)] [] := by
    refine x_iconst (v := 0) X dX4_fixedSize_71 (by decide) ?_
    exact x_iret X (roE (Option.some.inj h)) dX4_fixedSize_72
  by_cases d1_0 : p0 = 2
  · exact x_tableIn (off := 70) (tgt := 71) X dX4_fixedSize_1 (by rw [d1_0]; decide) (by rw [d1_0]; decide) (by rw [d1_0]; decide) (by decide) k9
  by_cases d1_1 : p0 = 4
  · exact x_tableIn (off := 70) (tgt := 71) X dX4_fixedSize_1 (by rw [d1_1]; decide) (by rw [d1_1]; decide) (by rw [d1_1]; decide) (by decide) k9
  by_cases d1_2 : p0 = 6
  · exact x_tableIn (off := 70) (tgt := 71) X dX4_fixedSize_1 (by rw [d1_2]; decide) (by rw [d1_2]; decide) (by rw [d1_2]; decide) (by decide) k9
  by_cases d1_3 : p0 = 9
  · exact x_tableIn (off := 70) (tgt := 71) X dX4_fixedSize_1 (by rw [d1_3]; decide) (by rw [d1_3]; decide) (by rw [d1_3]; decide) (by decide) k9
  by_cases d1_4 : p0 = 11
  · exact x_tableIn (off := 70) (tgt := 71) X dX4_fixedSize_1 (by rw [d1_4]; decide) (by rw [d1_4]; decide) (by rw [d1_4]; decide) (by decide) k9
  have n1_1 := lv_neT (a := 1) (fun q9 => c1_0 (.inl q9)) (by decide)
  have n1_2 := lv_neT (a := 2) d1_0 (by decide)
  have n1_3 := lv_neT (a := 3) (fun q9 => c1_1 (.inl q9)) (by decide)
  have n1_4 := lv_neT (a := 4) d1_1 (by decide)
  have n1_5 := lv_neT (a := 5) c1_2 (by decide)
  have n1_6 := lv_neT (a := 6) d1_2 (by decide)
  have n1_7 := lv_neT (a := 7) (fun q9 => c1_0 (.inr (.inl q9))) (by decide)
  have n1_8 := lv_neT (a := 8) (fun q9 => c1_0 (.inr (.inr q9))) (by decide)
  have n1_9 := lv_neT (a := 9) d1_3 (by decide)
  have n1_10 := lv_neT (a := 10) (fun q9 => c1_1 (.inr (.inl q9))) (by decide)
  have n1_11 := lv_neT (a := 11) d1_4 (by decide)
  have n1_12 := lv_neT (a := 12) (fun q9 => c1_1 (.inr (.inr q9))) (by decide)
  exact x_tableOut (tgt := 71) X dX4_fixedSize_1 (by omega) (by decide) k9
set_option maxRecDepth 100000 in
set_option maxHeartbeats 4000000 in
theorem c_X4_takeSecondNumber (l : Launch) (D : va_G) (g : Gw) (p0 : Int32) (p1 : Int32) (u : St) (ret : Int32 × St) (h : f_X4_takeSecondNumber p0 p1 u = some ret) : metI l D g (wdX g) yX4_takeSecondNumber cX4_takeSecondNumber 3 .boolean rm_X4_takeSecondNumber [.ref (g.1 4), .int p0, .int p1] u ret := by
  refine metI_of (own := RX4) (lv := [(0, .ref (g.1 4)), (1, .int p0), (2, .int p1)]) (by decide) rfl rfl (Nat.le_of_ble_eq_true rfl) (fun K hl9 hD9 X => ?_)
  subst hl9
  subst hD9
  unfold f_X4_takeSecondNumber at h
  refine x_iload_n X dX4_takeSecondNumber_0 rfl 1 rfl ?_
  refine x_iconst (v := 1) X dX4_takeSecondNumber_1 (by decide) ?_
  refine x_iadd X dX4_takeSecondNumber_2 ?_
  refine x_iload_n X dX4_takeSecondNumber_3 rfl 2 rfl ?_
  refine x_icmp_lt (tgt := 28) X dX4_takeSecondNumber_4 (by decide) (fun c1 => ?_) (fun c1 => ?_)
  · replace h := if_t c1 h
    refine x_aload_n X dX4_takeSecondNumber_28 rfl 0 rfl ?_
    refine x_get (v := .ref (g.1 11)) X 4 2 in_X4 rfl rfl (by decide) m_X4_13 rfl dX4_takeSecondNumber_29 ?_
    refine x_iload_n X dX4_takeSecondNumber_32 rfl 1 rfl ?_
    refine x_iconst (v := 1) X dX4_takeSecondNumber_33 (by decide) ?_
    refine x_iadd X dX4_takeSecondNumber_34 ?_
    refine x_iconst (v := 0) X dX4_takeSecondNumber_35 (by decide) ?_
    obtain ⟨i2, h⟩ := chk_some h
    refine x_iast (f := (u 25)) (u2 := (up u 25 (Int32.toNatClampNeg (p0 + 1)) 0)) X 11 0 rfl rfl i2 (wdX_25 g u (Int32.toNatClampNeg (p0 + 1)) 0) dX4_takeSecondNumber_36 ?_
    refine x_iconst (v := 1) X dX4_takeSecondNumber_37 (by decide) ?_
    exact x_zret X rfl (Option.some.inj h) dX4_takeSecondNumber_38
  · replace h := if_f c1 h
    refine x_aload_n X dX4_takeSecondNumber_7 rfl 0 rfl ?_
    refine x_iload_n X dX4_takeSecondNumber_8 rfl 1 rfl ?_
    refine x_put (ty := .int) (u2 := (up u 8 0 p0)) X 4 4 in_X4 tk_X4 nk_X4 rfl rfl (by decide) m_X4_31 rfl rfl rfl rfl (Nat.le_of_ble_eq_true rfl) (wdX_8 g u p0) dX4_takeSecondNumber_9 ?_
    refine x_aload_n X dX4_takeSecondNumber_12 rfl 0 rfl ?_
    refine x_get (v := .ref (g.1 3)) X 4 1 in_X4 rfl rfl (by decide) m_X4_20 rfl dX4_takeSecondNumber_13 ?_
    refine x_bipush (v := 7) X dX4_takeSecondNumber_16 (by decide) ?_
    refine x_aload_n X dX4_takeSecondNumber_18 rfl 0 rfl ?_
    refine x_get (v := .ref (g.1 12)) X 4 3 in_X4 rfl rfl (by decide) m_X4_17 rfl dX4_takeSecondNumber_19 ?_
    refine x_iload_n X dX4_takeSecondNumber_22 rfl 1 rfl ?_
    obtain ⟨i3, h⟩ := chk_some h
    refine x_iald (f := (u 26)) X 12 0 rfl rfl i3 dX4_takeSecondNumber_23 ?_
    obtain ⟨q4, e4, h⟩ := bd h
    refine x_callI X [.int 7, .int ((u 26) (Int32.toNatClampNeg p0))] [] (c_X5_broken K.l K.D g 7 ((u 26) (Int32.toNatClampNeg p0)) (up u 8 0 p0) q4 e4) ok_X5_broken m_X4_46 3 rfl rfl rfl rfl (Nat.le_of_ble_eq_true rfl) ⟨Nat.zero_le _, Nat.zero_le _⟩ ⟨rfl, rfl, by decide, by decide⟩ dX4_takeSecondNumber_24 ?_
    obtain ⟨b5, h⟩ := bchk_some h
    exact x_zret X b5 (Option.some.inj h) dX4_takeSecondNumber_27
set_option maxRecDepth 100000 in
set_option maxHeartbeats 4000000 in
theorem w_X3_characterSize_j48 {K : Cx} {g : Gw} (ret : Int32) (X : XC K g cX3_characterSize 1 RX3 (some .int) rm_X3_characterSize) (z0 : Int32) (u : St) (h : f_X3_characterSize_j48 z0 u = some ret) : XW K 0 0 1 (QI K g (wdX g) (ret, u)) (wdX g) u 48 [] [.int z0] := by
  unfold f_X3_characterSize_j48 at h
  exact x_iret X (roE (Option.some.inj h)) dX3_characterSize_48
set_option maxRecDepth 100000 in
set_option maxHeartbeats 4000000 in
theorem w_X3_characterSize_j47 {K : Cx} {g : Gw} (ret : Int32) (X : XC K g cX3_characterSize 1 RX3 (some .int) rm_X3_characterSize) (u : St) (h : f_X3_characterSize_j47 u = some ret) : XW K 0 0 1 (QI K g (wdX g) (ret, u)) (wdX g) u 47 [] [] := by
  unfold f_X3_characterSize_j47 at h
  refine x_iconst (v := 0) X dX3_characterSize_47 (by decide) ?_
  exact w_X3_characterSize_j48 ret X 0 u h
set_option maxRecDepth 100000 in
set_option maxHeartbeats 4000000 in
theorem w_X3_characterSize_j29 {K : Cx} {g : Gw} (ret : Int32) (X : XC K g cX3_characterSize 1 RX3 (some .int) rm_X3_characterSize) (x0 : Int32) (u : St) (h : f_X3_characterSize_j29 x0 u = some ret) : XW K 0 0 1 (QI K g (wdX g) (ret, u)) (wdX g) u 29 [(0, .int x0)] [] := by
  unfold f_X3_characterSize_j29 at h
  refine x_iload_n X dX3_characterSize_29 rfl 0 rfl ?_
  refine x_sipush (v := 224) X dX3_characterSize_30 (by decide) ?_
  refine x_icmp_lt (tgt := 47) X dX3_characterSize_33 (by decide) (fun c3 => ?_) (fun c3 => ?_)
  · replace h := if_t c3 h
    refine x_sub [] rfl ?_
    exact w_X3_characterSize_j47 ret X u h
  · replace h := if_f c3 h
    refine x_iload_n X dX3_characterSize_36 rfl 0 rfl ?_
    refine x_sipush (v := 239) X dX3_characterSize_37 (by decide) ?_
    refine x_icmp_gt (tgt := 47) X dX3_characterSize_40 (by decide) (fun c4 => ?_) (fun c4 => ?_)
    · replace h := if_t c4 h
      refine x_sub [] rfl ?_
      exact w_X3_characterSize_j47 ret X u h
    · replace h := if_f c4 h
      refine x_iconst (v := 3) X dX3_characterSize_43 (by decide) ?_
      refine x_goto (tgt := 48) X dX3_characterSize_44 (by decide) ?_
      refine x_sub [] rfl ?_
      exact w_X3_characterSize_j48 ret X 3 u h
set_option maxRecDepth 100000 in
set_option maxHeartbeats 4000000 in
theorem w_X3_characterSize_j13 {K : Cx} {g : Gw} (ret : Int32) (X : XC K g cX3_characterSize 1 RX3 (some .int) rm_X3_characterSize) (x0 : Int32) (u : St) (h : f_X3_characterSize_j13 x0 u = some ret) : XW K 0 0 1 (QI K g (wdX g) (ret, u)) (wdX g) u 13 [(0, .int x0)] [] := by
  unfold f_X3_characterSize_j13 at h
  refine x_iload_n X dX3_characterSize_13 rfl 0 rfl ?_
  refine x_sipush (v := 192) X dX3_characterSize_14 (by decide) ?_
  refine x_icmp_lt (tgt := 29) X dX3_characterSize_17 (by decide) (fun c2 => ?_) (fun c2 => ?_)
  · replace h := if_t c2 h
    exact w_X3_characterSize_j29 ret X x0 u h
  · replace h := if_f c2 h
    refine x_iload_n X dX3_characterSize_20 rfl 0 rfl ?_
    refine x_sipush (v := 223) X dX3_characterSize_21 (by decide) ?_
    refine x_icmp_gt (tgt := 29) X dX3_characterSize_24 (by decide) (fun c5 => ?_) (fun c5 => ?_)
    · replace h := if_t c5 h
      exact w_X3_characterSize_j29 ret X x0 u h
    · replace h := if_f c5 h
      refine x_iconst (v := 2) X dX3_characterSize_27 (by decide) ?_
      exact x_iret X (roE (Option.some.inj h)) dX3_characterSize_28
set_option maxRecDepth 100000 in
set_option maxHeartbeats 4000000 in
theorem c_X3_characterSize (l : Launch) (D : va_G) (g : Gw) (p0 : Int32) (u : St) (ret : Int32) (h : f_X3_characterSize p0 u = some ret) : metI l D g (wdX g) yX3_characterSize cX3_characterSize 1 .int rm_X3_characterSize [.int p0] u (ret, u) := by
  refine metI_of (own := RX3) (lv := [(0, .int p0)]) (by decide) rfl rfl (Nat.le_of_ble_eq_true rfl) (fun K hl9 hD9 X => ?_)
  subst hl9
  subst hD9
  unfold f_X3_characterSize at h
  refine x_iload_n X dX3_characterSize_0 rfl 0 rfl ?_
  refine x_iconst (v := 1) X dX3_characterSize_1 (by decide) ?_
  refine x_icmp_lt (tgt := 13) X dX3_characterSize_2 (by decide) (fun c1 => ?_) (fun c1 => ?_)
  · replace h := if_t c1 h
    exact w_X3_characterSize_j13 ret X p0 u h
  · replace h := if_f c1 h
    refine x_iload_n X dX3_characterSize_5 rfl 0 rfl ?_
    refine x_bipush (v := 127) X dX3_characterSize_6 (by decide) ?_
    refine x_icmp_gt (tgt := 13) X dX3_characterSize_8 (by decide) (fun c6 => ?_) (fun c6 => ?_)
    · replace h := if_t c6 h
      exact w_X3_characterSize_j13 ret X p0 u h
    · replace h := if_f c6 h
      refine x_iconst (v := 1) X dX3_characterSize_11 (by decide) ?_
      exact x_iret X (roE (Option.some.inj h)) dX3_characterSize_12
