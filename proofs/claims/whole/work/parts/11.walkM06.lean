set_option maxRecDepth 100000 in
set_option maxHeartbeats 4000000 in
theorem w_X7_header_j56 {K : Cx} {g : Gw} (ret : St) (X : XC K g cX7_header 2 RX7 none rm_X7_header) (u : St) (h : f_X7_header_j56 u = some ret) : XW K 0 0 2 (QV K g (wdM g) ret) (wdM g) u 56 [] [] := by
  unfold f_X7_header_j56 at h
  exact x_vret X (Option.some.inj h) dX7_header_56
set_option maxRecDepth 100000 in
set_option maxHeartbeats 4000000 in
theorem w_X7_header_j48 {K : Cx} {g : Gw} (ret : St) (X : XC K g cX7_header 2 RX7 none rm_X7_header) (u : St) (h : f_X7_header_j48 u = some ret) : XW K 0 0 2 (QV K g (wdM g) ret) (wdM g) u 48 [(0, .ref (g.1 0))] [] := by
  unfold f_X7_header_j48 at h
  refine x_aload_n X dX7_header_48 rfl 0 rfl ?_
  refine x_iconst (v := 3) X dX7_header_49 (by decide) ?_
  refine x_bipush (v := 6) X dX7_header_50 (by decide) ?_
  obtain ⟨q7, e7, h⟩ := bd h
  refine x_callI X [.int 3, .int 6] [] (c_X7_fail K.l K.D g 3 6 u q7 e7) ok_X7_fail m_X7_89 0 rfl rfl rfl rfl (Nat.le_of_ble_eq_true rfl) ⟨Nat.zero_le _, Nat.zero_le _⟩ ⟨rfl, rfl, by decide, by decide⟩ dX7_header_52 ?_
  refine x_pop X dX7_header_55 rfl ?_
  refine x_sub [] rfl ?_
  exact w_X7_header_j56 ret X q7.2 h
set_option maxRecDepth 100000 in
set_option maxHeartbeats 4000000 in
theorem w_X7_header_j19 {K : Cx} {g : Gw} (ret : St) (X : XC K g cX7_header 2 RX7 none rm_X7_header) (u : St) (h : f_X7_header_j19 u = some ret) : XW K 0 0 2 (QV K g (wdM g) ret) (wdM g) u 19 [(0, .ref (g.1 0))] [] := by
  unfold f_X7_header_j19 at h
  refine x_aload_n X dX7_header_19 rfl 0 rfl ?_
  obtain ⟨q3, e3, h⟩ := bd h
  refine x_callI X [] [] (c_X7_u2 K.l K.D g u q3 e3) ok_X7_u2 m_X7_130 0 rfl rfl rfl rfl (Nat.le_of_ble_eq_true rfl) ⟨Nat.zero_le _, Nat.zero_le _⟩ ⟨rfl, rfl, by decide, by decide⟩ dX7_header_20 ?_
  refine x_pop X dX7_header_23 rfl ?_
  refine x_aload_n X dX7_header_24 rfl 0 rfl ?_
  obtain ⟨q4, e4, h⟩ := bd h
  refine x_callI X [] [] (c_X7_u2 K.l K.D g q3.2 q4 e4) ok_X7_u2 m_X7_130 0 rfl rfl rfl rfl (Nat.le_of_ble_eq_true rfl) ⟨Nat.zero_le _, Nat.zero_le _⟩ ⟨rfl, rfl, by decide, by decide⟩ dX7_header_25 ?_
  refine x_istore_n (lv2 := [(1, .int q4.1), (0, .ref (g.1 0))]) X dX7_header_28 rfl (by decide) rfl ?_
  refine x_aload_n X dX7_header_29 rfl 1 rfl ?_
  refine x_get (v := .int (q4.2 7 0)) X 0 9 in_X7 rfl rfl (by decide) m_X7_71 rfl dX7_header_30 ?_
  refine x_if_ne (tgt := 56) X dX7_header_33 (by decide) (fun c5 => ?_) (fun c5 => ?_)
  · replace h := if_f c5 h
    refine x_sub [] rfl ?_
    exact w_X7_header_j56 ret X q4.2 h
  · replace h := if_t c5 h
    refine x_iload_n X dX7_header_36 rfl 0 rfl ?_
    refine x_bipush (v := 45) X dX7_header_37 (by decide) ?_
    refine x_icmp_lt (tgt := 48) X dX7_header_39 (by decide) (fun c6 => ?_) (fun c6 => ?_)
    · replace h := if_t c6 h
      refine x_sub [1] rfl ?_
      exact w_X7_header_j48 ret X q4.2 h
    · replace h := if_f c6 h
      refine x_iload_n X dX7_header_42 rfl 0 rfl ?_
      refine x_bipush (v := 69) X dX7_header_43 (by decide) ?_
      refine x_icmp_le (tgt := 56) X dX7_header_45 (by decide) (fun c8 => ?_) (fun c8 => ?_)
      · replace h := if_t c8 h
        refine x_sub [] rfl ?_
        exact w_X7_header_j56 ret X q4.2 h
      · replace h := if_f c8 h
        refine x_sub [1] rfl ?_
        exact w_X7_header_j48 ret X q4.2 h
set_option maxRecDepth 100000 in
set_option maxHeartbeats 4000000 in
theorem c_X7_header (l : Launch) (D : va_G) (g : Gw) (u : St) (ret : St) (h : f_X7_header u = some ret) : metV l D g (wdM g) yX7_header cX7_header 2 rm_X7_header [.ref (g.1 0)] u ret := by
  refine metV_of (own := RX7) (lv := [(0, .ref (g.1 0))]) (by decide) rfl rfl (Nat.le_of_ble_eq_true rfl) (fun K hl9 hD9 X => ?_)
  subst hl9
  subst hD9
  unfold f_X7_header at h
  refine x_aload_n X dX7_header_0 rfl 0 rfl ?_
  refine x_iconst (v := 4) X dX7_header_1 (by decide) ?_
  obtain ⟨q1, e1, h⟩ := bd h
  refine x_callL X [.int 4] [] (c_X7_u K.l K.D g 4 u q1 e1) ok_X7_u m_X7_94 0 rfl rfl rfl rfl (Nat.le_of_ble_eq_true rfl) ⟨Nat.zero_le _, Nat.zero_le _⟩ ⟨rfl, rfl, by decide, by decide⟩ dX7_header_2 ?_
  refine x_ldc2 (v := 3405691582) X m_X7_154 dX7_header_5 ?_
  refine x_lcmp X dX7_header_8 ?_
  refine x_if_eq (tgt := 19) X dX7_header_9 (by decide) (fun c2 => ?_) (fun c2 => ?_)
  · replace h := if_t c2 h
    exact w_X7_header_j19 ret X q1.2 h
  · replace h := if_f c2 h
    refine x_aload_n X dX7_header_12 rfl 0 rfl ?_
    refine x_iconst (v := 2) X dX7_header_13 (by decide) ?_
    refine x_iconst (v := 0) X dX7_header_14 (by decide) ?_
    obtain ⟨q9, e9, h⟩ := bd h
    refine x_callI X [.int 2, .int 0] [] (c_X7_fail K.l K.D g 2 0 q1.2 q9 e9) ok_X7_fail m_X7_89 0 rfl rfl rfl rfl (Nat.le_of_ble_eq_true rfl) ⟨Nat.zero_le _, Nat.zero_le _⟩ ⟨rfl, rfl, by decide, by decide⟩ dX7_header_15 ?_
    refine x_pop X dX7_header_18 rfl ?_
    exact w_X7_header_j19 ret X q9.2 h
set_option maxRecDepth 100000 in
set_option maxHeartbeats 4000000 in
theorem w_X7_top_j73 {K : Cx} {g : Gw} (ret : St) (X : XC K g cX7_top 4 RX7 none rm_X7_top) (u : St) (h : f_X7_top_j73 u = some ret) : XW K 0 0 4 (QV K g (wdM g) ret) (wdM g) u 73 [(0, .ref (g.1 0))] [] := by
  unfold f_X7_top_j73 at h
  refine x_aload_n X dX7_top_73 rfl 0 rfl ?_
  obtain ⟨q5, e5, h⟩ := bd h
  refine x_callV X [] [] (c_X7_classAt K.l K.D g u q5 e5) ok_X7_classAt m_X7_156 0 rfl rfl rfl rfl (Nat.le_of_ble_eq_true rfl) ⟨Nat.zero_le _, Nat.zero_le _⟩ ⟨rfl, rfl, by decide, by decide⟩ dX7_top_74 ?_
  refine x_aload_n X dX7_top_77 rfl 0 rfl ?_
  obtain ⟨q6, e6, h⟩ := bd h
  refine x_callV X [] [] (c_X7_classAt K.l K.D g q5 q6 e6) ok_X7_classAt m_X7_156 0 rfl rfl rfl rfl (Nat.le_of_ble_eq_true rfl) ⟨Nat.zero_le _, Nat.zero_le _⟩ ⟨rfl, rfl, by decide, by decide⟩ dX7_top_78 ?_
  refine x_aload_n X dX7_top_81 rfl 0 rfl ?_
  obtain ⟨q7, e7, h⟩ := bd h
  refine x_callV X [] [] (c_X7_interfaces K.l K.D g q6 q7 e7) ok_X7_interfaces m_X7_159 0 rfl rfl rfl rfl (Nat.le_of_ble_eq_true rfl) ⟨Nat.zero_le _, Nat.zero_le _⟩ ⟨rfl, rfl, by decide, by decide⟩ dX7_top_82 ?_
  exact x_vret X (Option.some.inj h) dX7_top_85
set_option maxRecDepth 100000 in
set_option maxHeartbeats 4000000 in
theorem w_X7_top_j53 {K : Cx} {g : Gw} (ret : St) (X : XC K g cX7_top 4 RX7 none rm_X7_top) (x1 : Int32) (z0 : Int32) (u : St) (h : f_X7_top_j53 x1 z0 u = some ret) : XW K 0 0 4 (QV K g (wdM g) ret) (wdM g) u 53 [(0, .ref (g.1 0)), (1, .int x1)] [.int z0] := by
  unfold f_X7_top_j53 at h
  refine x_istore_n (lv2 := [(3, .int z0), (0, .ref (g.1 0)), (1, .int x1)]) X dX7_top_53 rfl (by decide) rfl ?_
  refine x_aload_n X dX7_top_54 rfl 1 rfl ?_
  refine x_get (v := .int (u 7 0)) X 0 9 in_X7 rfl rfl (by decide) m_X7_71 rfl dX7_top_55 ?_
  refine x_if_ne (tgt := 73) X dX7_top_58 (by decide) (fun c4 => ?_) (fun c4 => ?_)
  · replace h := if_f c4 h
    refine x_sub [1] rfl ?_
    exact w_X7_top_j73 ret X u h
  · replace h := if_t c4 h
    refine x_iload_n X dX7_top_61 rfl 0 rfl ?_
    refine x_if_eq (tgt := 73) X dX7_top_62 (by decide) (fun c8 => ?_) (fun c8 => ?_)
    · replace h := if_t c8 h
      refine x_sub [1] rfl ?_
      exact w_X7_top_j73 ret X u h
    · replace h := if_f c8 h
      refine x_aload_n X dX7_top_65 rfl 1 rfl ?_
      refine x_bipush (v := 11) X dX7_top_66 (by decide) ?_
      refine x_iload_n X dX7_top_68 rfl 2 rfl ?_
      obtain ⟨q9, e9, h⟩ := bd h
      refine x_callI X [.int 11, .int x1] [] (c_X7_fail K.l K.D g 11 x1 u q9 e9) ok_X7_fail m_X7_89 0 rfl rfl rfl rfl (Nat.le_of_ble_eq_true rfl) ⟨Nat.zero_le _, Nat.zero_le _⟩ ⟨rfl, rfl, by decide, by decide⟩ dX7_top_69 ?_
      refine x_pop X dX7_top_72 rfl ?_
      refine x_sub [1] rfl ?_
      exact w_X7_top_j73 ret X q9.2 h
set_option maxRecDepth 100000 in
set_option maxHeartbeats 4000000 in
theorem w_X7_top_j52 {K : Cx} {g : Gw} (ret : St) (X : XC K g cX7_top 4 RX7 none rm_X7_top) (x1 : Int32) (u : St) (h : f_X7_top_j52 x1 u = some ret) : XW K 0 0 4 (QV K g (wdM g) ret) (wdM g) u 52 [(0, .ref (g.1 0)), (1, .int x1)] [] := by
  unfold f_X7_top_j52 at h
  refine x_iconst (v := 0) X dX7_top_52 (by decide) ?_
  exact w_X7_top_j53 ret X x1 0 u h
set_option maxRecDepth 100000 in
set_option maxHeartbeats 4000000 in
theorem w_X7_top_j48 {K : Cx} {g : Gw} (ret : St) (X : XC K g cX7_top 4 RX7 none rm_X7_top) (x1 : Int32) (u : St) (h : f_X7_top_j48 x1 u = some ret) : XW K 0 0 4 (QV K g (wdM g) ret) (wdM g) u 48 [(0, .ref (g.1 0)), (1, .int x1)] [] := by
  unfold f_X7_top_j48 at h
  refine x_iconst (v := 1) X dX7_top_48 (by decide) ?_
  refine x_goto (tgt := 53) X dX7_top_49 (by decide) ?_
  exact w_X7_top_j53 ret X x1 1 u h
set_option maxRecDepth 100000 in
set_option maxHeartbeats 4000000 in
theorem w_X7_top_j33 {K : Cx} {g : Gw} (ret : St) (X : XC K g cX7_top 4 RX7 none rm_X7_top) (x1 : Int32) (x2 : Int32) (u : St) (h : f_X7_top_j33 x1 x2 u = some ret) : XW K 0 0 4 (QV K g (wdM g) ret) (wdM g) u 33 [(0, .ref (g.1 0)), (1, .int x1), (2, .int x2)] [] := by
  unfold f_X7_top_j33 at h
  refine x_iload_n X dX7_top_33 rfl 2 rfl ?_
  refine x_sipush (v := 1024) X dX7_top_34 (by decide) ?_
  refine x_iand X dX7_top_37 ?_
  refine x_if_eq (tgt := 52) X dX7_top_38 (by decide) (fun c3 => ?_) (fun c3 => ?_)
  · replace h := if_t c3 h
    refine x_sub [0, 1] rfl ?_
    exact w_X7_top_j52 ret X x1 u h
  · replace h := if_f c3 h
    refine x_iload_n X dX7_top_41 rfl 2 rfl ?_
    refine x_bipush (v := 16) X dX7_top_42 (by decide) ?_
    refine x_iand X dX7_top_44 ?_
    refine x_if_eq (tgt := 52) X dX7_top_45 (by decide) (fun c10 => ?_) (fun c10 => ?_)
    · replace h := if_t c10 h
      refine x_sub [0, 1] rfl ?_
      exact w_X7_top_j52 ret X x1 u h
    · replace h := if_f c10 h
      refine x_sub [0, 1] rfl ?_
      exact w_X7_top_j48 ret X x1 u h
set_option maxRecDepth 100000 in
set_option maxHeartbeats 4000000 in
theorem c_X7_top (l : Launch) (D : va_G) (g : Gw) (u : St) (ret : St) (h : f_X7_top u = some ret) : metV l D g (wdM g) yX7_top cX7_top 4 rm_X7_top [.ref (g.1 0)] u ret := by
  refine metV_of (own := RX7) (lv := [(0, .ref (g.1 0))]) (by decide) rfl rfl (Nat.le_of_ble_eq_true rfl) (fun K hl9 hD9 X => ?_)
  subst hl9
  subst hD9
  unfold f_X7_top at h
  refine x_aload_n X dX7_top_0 rfl 0 rfl ?_
  refine x_get (v := .int (u 3 0)) X 0 5 in_X7 rfl rfl (by decide) m_X7_77 rfl dX7_top_1 ?_
  refine x_istore_n (lv2 := [(1, .int (u 3 0)), (0, .ref (g.1 0))]) X dX7_top_4 rfl (by decide) rfl ?_
  refine x_aload_n X dX7_top_5 rfl 1 rfl ?_
  obtain ⟨q1, e1, h⟩ := bd h
  refine x_callI X [] [] (c_X7_u2 K.l K.D g u q1 e1) ok_X7_u2 m_X7_130 0 rfl rfl rfl rfl (Nat.le_of_ble_eq_true rfl) ⟨Nat.zero_le _, Nat.zero_le _⟩ ⟨rfl, rfl, by decide, by decide⟩ dX7_top_6 ?_
  refine x_istore_n (lv2 := [(2, .int q1.1), (1, .int (u 3 0)), (0, .ref (g.1 0))]) X dX7_top_9 rfl (by decide) rfl ?_
  refine x_iload_n X dX7_top_10 rfl 0 rfl ?_
  refine x_sipush (v := 512) X dX7_top_11 (by decide) ?_
  refine x_iand X dX7_top_14 ?_
  refine x_if_eq (tgt := 33) X dX7_top_15 (by decide) (fun c2 => ?_) (fun c2 => ?_)
  · replace h := if_t c2 h
    refine x_sub [2, 1, 0] rfl ?_
    exact w_X7_top_j33 ret X (u 3 0) q1.1 q1.2 h
  · replace h := if_f c2 h
    refine x_iload_n X dX7_top_18 rfl 0 rfl ?_
    refine x_sipush (v := 1024) X dX7_top_19 (by decide) ?_
    refine x_iand X dX7_top_22 ?_
    refine x_if_eq (tgt := 48) X dX7_top_23 (by decide) (fun c11 => ?_) (fun c11 => ?_)
    · replace h := if_t c11 h
      refine x_sub [2, 1] rfl ?_
      exact w_X7_top_j48 ret X (u 3 0) q1.2 h
    · replace h := if_f c11 h
      refine x_iload_n X dX7_top_26 rfl 0 rfl ?_
      refine x_bipush (v := 16) X dX7_top_27 (by decide) ?_
      refine x_iand X dX7_top_29 ?_
      refine x_if_ne (tgt := 48) X dX7_top_30 (by decide) (fun c12 => ?_) (fun c12 => ?_)
      · replace h := if_f c12 h
        refine x_sub [2, 1] rfl ?_
        exact w_X7_top_j48 ret X (u 3 0) q1.2 h
      · replace h := if_t c12 h
        refine x_sub [2, 1, 0] rfl ?_
        exact w_X7_top_j33 ret X (u 3 0) q1.1 q1.2 h
abbrev H_X7_member_253 (x1 : Int32) (x3 : Int32) (x6 : Int32) (x7 : Int32) (x9 : Int32) (K : Cx) (g : Gw) (ret : Int32 × St) (a : Int32 × St) : Prop := XW K 0 0 11 (QI K g (wdM g) ret) (wdM g) a.2 253 [(0, .ref (g.1 0)), (1, .int x1), (3, .int x3), (6, .int x6), (7, .int x7), (9, .int x9), (10, .int a.1)] []
abbrev E_X7_member_253 (x1 : Int32) (x3 : Int32) (x6 : Int32) (x7 : Int32) (x9 : Int32) (K : Cx) (g : Gw) (ret : Int32 × St) (q : (Int32 × St) ⊕ (St)) : Prop := Sum.elim (fun q => q = ret) (fun q => XW K 0 0 11 (QI K g (wdM g) ret) (wdM g) q 313 [(0, .ref (g.1 0)), (1, .int x1), (3, .int x3), (7, .int x7), (9, .int x9)] []) q
set_option maxRecDepth 100000 in
set_option maxHeartbeats 4000000 in
theorem w_X7_member_j307_253 {K : Cx} {g : Gw} (ret : Int32 × St) (X : XC K g cX7_member 11 RX7 (some .int) rm_X7_member) (x1 : Int32) (x3 : Int32) (x6 : Int32) (x7 : Int32) (x9 : Int32) (x10 : Int32) (u : St) (r : ((Int32 × St) ⊕ (St)) ⊕ (Int32 × St)) (h : f_X7_member_j307_253 x1 x3 x6 x7 x9 x10 u = some r) (k0 : ∀ q, r = .inl q → E_X7_member_253 x1 x3 x6 x7 x9 K g ret q) (k1 : ∀ q, r = .inr q → H_X7_member_253 x1 x3 x6 x7 x9 K g ret q) : XW K 0 0 11 (QI K g (wdM g) ret) (wdM g) u 307 [(0, .ref (g.1 0)), (1, .int x1), (3, .int x3), (6, .int x6), (7, .int x7), (9, .int x9), (10, .int x10)] [] := by
  unfold f_X7_member_j307_253 at h
  refine x_iinc (v := (x10 + 1)) (lv2 := [(10, .int (x10 + 1)), (0, .ref (g.1 0)), (1, .int x1), (3, .int x3), (6, .int x6), (7, .int x7), (9, .int x9)]) X dX7_member_307 6 rfl rfl (by decide) rfl ?_
  refine x_goto (tgt := 253) X dX7_member_310 (by decide) ?_
  refine x_sub [1, 2, 3, 4, 5, 6, 0] rfl ?_
  have h9 := k1 _ (Option.some.inj h).symm
  exact h9
set_option maxRecDepth 100000 in
set_option maxHeartbeats 4000000 in
theorem w_X7_member_b253 {K : Cx} {g : Gw} (x1 : Int32) (x3 : Int32) (x6 : Int32) (x7 : Int32) (x9 : Int32) (ret : Int32 × St) (X : XC K g cX7_member 11 RX7 (some .int) rm_X7_member) (a : Int32 × St) (r : ((Int32 × St) ⊕ (St)) ⊕ (Int32 × St)) (h : f_X7_member_b253 x1 x3 x6 x7 x9 a = some r) (k0 : ∀ q, r = .inl q → E_X7_member_253 x1 x3 x6 x7 x9 K g ret q) (k1 : ∀ q, r = .inr q → H_X7_member_253 x1 x3 x6 x7 x9 K g ret q) : H_X7_member_253 x1 x3 x6 x7 x9 K g ret a := by
  unfold f_X7_member_b253 at h
  show XW K 0 0 11 (QI K g (wdM g) ret) (wdM g) a.2 253 [(0, .ref (g.1 0)), (1, .int x1), (3, .int x3), (6, .int x6), (7, .int x7), (9, .int x9), (10, .int a.1)] []
  refine x_iload X dX7_member_253 6 rfl ?_
  refine x_iload_n X dX7_member_255 rfl 1 rfl ?_
  refine x_icmp_ge (tgt := 313) X dX7_member_256 (by decide) (fun c11 => ?_) (fun c11 => ?_)
  · replace h := if_t c11 h
    refine x_sub [0, 1, 2, 4, 5] rfl ?_
    have h9 := k0 _ (Option.some.inj h).symm
    exact h9
  · replace h := if_f c11 h
    refine x_aload_n X dX7_member_259 rfl 0 rfl ?_
    refine x_get (v := .int (a.2 7 0)) X 0 9 in_X7 rfl rfl (by decide) m_X7_71 rfl dX7_member_260 ?_
    refine x_if_ne (tgt := 313) X dX7_member_263 (by decide) (fun c12 => ?_) (fun c12 => ?_)
    · replace h := if_f c12 h
      refine x_sub [0, 1, 2, 4, 5] rfl ?_
      have h9 := k0 _ (Option.some.inj h).symm
      exact h9
    · replace h := if_t c12 h
      refine x_aload_n X dX7_member_266 rfl 0 rfl ?_
      refine x_aload_n X dX7_member_267 rfl 0 rfl ?_
      refine x_get (v := .ref (g.1 9)) X 0 18 in_X7 rfl rfl (by decide) m_X7_34 rfl dX7_member_268 ?_
      refine x_iload X dX7_member_271 6 rfl ?_
      obtain ⟨i13, h⟩ := chk_some h
      refine x_iald (f := (a.2 38)) X 9 0 rfl rfl i13 dX7_member_273 ?_
      refine x_iload X dX7_member_274 4 rfl ?_
      obtain ⟨q14, e14, h⟩ := bd h
      refine x_callR X [.int ((a.2 38) (Int32.toNatClampNeg a.1)), .int x7] [] (c_X7_equal K.l K.D g ((a.2 38) (Int32.toNatClampNeg a.1)) x7 a.2 q14 e14) ok_X7_equal m_X7_168 0 rfl rfl rfl rfl (Nat.le_of_ble_eq_true rfl) ⟨Nat.zero_le _, Nat.zero_le _⟩ ⟨rfl, rfl, by decide, by decide⟩ dX7_member_276 ?_
      refine x_if_eq (tgt := 307) X dX7_member_279 (by decide) (fun c15 => ?_) (fun c15 => ?_)
      · replace h := if_t c15 h
        exact w_X7_member_j307_253 ret X x1 x3 x6 x7 x9 a.1 a.2 r h k0 k1
      · replace h := if_f c15 h
        refine x_aload_n X dX7_member_282 rfl 0 rfl ?_
        refine x_aload_n X dX7_member_283 rfl 0 rfl ?_
        refine x_get (v := .ref (g.1 10)) X 0 19 in_X7 rfl rfl (by decide) m_X7_37 rfl dX7_member_284 ?_
        refine x_iload X dX7_member_287 6 rfl ?_
        obtain ⟨i16, h⟩ := chk_some h
        refine x_iald (f := (a.2 39)) X 10 0 rfl rfl i16 dX7_member_289 ?_
        refine x_iload X dX7_member_290 5 rfl ?_
        obtain ⟨q17, e17, h⟩ := bd h
        refine x_callR X [.int ((a.2 39) (Int32.toNatClampNeg a.1)), .int x9] [] (c_X7_equal K.l K.D g ((a.2 39) (Int32.toNatClampNeg a.1)) x9 a.2 q17 e17) ok_X7_equal m_X7_168 0 rfl rfl rfl rfl (Nat.le_of_ble_eq_true rfl) ⟨Nat.zero_le _, Nat.zero_le _⟩ ⟨rfl, rfl, by decide, by decide⟩ dX7_member_292 ?_
        refine x_if_eq (tgt := 307) X dX7_member_295 (by decide) (fun c18 => ?_) (fun c18 => ?_)
        · replace h := if_t c18 h
          exact w_X7_member_j307_253 ret X x1 x3 x6 x7 x9 a.1 a.2 r h k0 k1
        · replace h := if_f c18 h
          refine x_aload_n X dX7_member_298 rfl 0 rfl ?_
          refine x_bipush (v := 17) X dX7_member_299 (by decide) ?_
          refine x_iload X dX7_member_301 3 rfl ?_
          obtain ⟨q19, e19, h⟩ := bd h
          refine x_callI X [.int 17, .int x6] [] (c_X7_fail K.l K.D g 17 x6 a.2 q19 e19) ok_X7_fail m_X7_89 0 rfl rfl rfl rfl (Nat.le_of_ble_eq_true rfl) ⟨Nat.zero_le _, Nat.zero_le _⟩ ⟨rfl, rfl, by decide, by decide⟩ dX7_member_303 ?_
          refine x_pop X dX7_member_306 rfl ?_
          exact w_X7_member_j307_253 ret X x1 x3 x6 x7 x9 a.1 q19.2 r h k0 k1
set_option maxRecDepth 100000 in
set_option maxHeartbeats 4000000 in
theorem w_X7_member_j335 {K : Cx} {g : Gw} (ret : Int32 × St) (X : XC K g cX7_member 11 RX7 (some .int) rm_X7_member) (x3 : Int32) (u : St) (h : f_X7_member_j335 x3 u = some ret) : XW K 0 0 11 (QI K g (wdM g) ret) (wdM g) u 335 [(3, .int x3)] [] := by
  unfold f_X7_member_j335 at h
  refine x_iload_n X dX7_member_335 rfl 0 rfl ?_
  exact x_iret X (Option.some.inj h) dX7_member_336
set_option maxRecDepth 100000 in
set_option maxHeartbeats 4000000 in
theorem w_X7_member_j313 {K : Cx} {g : Gw} (ret : Int32 × St) (X : XC K g cX7_member 11 RX7 (some .int) rm_X7_member) (x1 : Int32) (x3 : Int32) (x7 : Int32) (x9 : Int32) (u : St) (h : f_X7_member_j313 x1 x3 x7 x9 u = some ret) : XW K 0 0 11 (QI K g (wdM g) ret) (wdM g) u 313 [(0, .ref (g.1 0)), (1, .int x1), (3, .int x3), (7, .int x7), (9, .int x9)] [] := by
  unfold f_X7_member_j313 at h
  refine x_iload_n X dX7_member_313 rfl 1 rfl ?_
  refine x_bipush (v := 60) X dX7_member_314 (by decide) ?_
  refine x_icmp_ge (tgt := 335) X dX7_member_316 (by decide) (fun c21 => ?_) (fun c21 => ?_)
  · replace h := if_t c21 h
    refine x_sub [2] rfl ?_
    exact w_X7_member_j335 ret X x3 u h
  · replace h := if_f c21 h
    refine x_aload_n X dX7_member_319 rfl 0 rfl ?_
    refine x_get (v := .ref (g.1 9)) X 0 18 in_X7 rfl rfl (by decide) m_X7_34 rfl dX7_member_320 ?_
    refine x_iload_n X dX7_member_323 rfl 1 rfl ?_
    refine x_iload X dX7_member_324 3 rfl ?_
    obtain ⟨i22, h⟩ := chk_some h
    refine x_iast (f := (u 38)) (u2 := (up u 38 (Int32.toNatClampNeg x1) x7)) X 9 0 rfl rfl i22 (wdM_38 g u (Int32.toNatClampNeg x1) x7) dX7_member_326 ?_
    refine x_aload_n X dX7_member_327 rfl 0 rfl ?_
    refine x_get (v := .ref (g.1 10)) X 0 19 in_X7 rfl rfl (by decide) m_X7_37 rfl dX7_member_328 ?_
    refine x_iload_n X dX7_member_331 rfl 1 rfl ?_
    refine x_iload X dX7_member_332 4 rfl ?_
    obtain ⟨i23, h⟩ := chk_some h
    refine x_iast (f := (u 39)) (u2 := (up (up u 38 (Int32.toNatClampNeg x1) x7) 39 (Int32.toNatClampNeg x1) x9)) X 10 0 rfl rfl i23 (wdM_39 g (up u 38 (Int32.toNatClampNeg x1) x7) (Int32.toNatClampNeg x1) x9) dX7_member_334 ?_
    refine x_sub [2] rfl ?_
    exact w_X7_member_j335 ret X x3 (up (up u 38 (Int32.toNatClampNeg x1) x7) 39 (Int32.toNatClampNeg x1) x9) h
set_option maxRecDepth 100000 in
set_option maxHeartbeats 4000000 in
theorem w_X7_member_j250 {K : Cx} {g : Gw} (ret : Int32 × St) (X : XC K g cX7_member 11 RX7 (some .int) rm_X7_member) (x1 : Int32) (x3 : Int32) (x6 : Int32) (x7 : Int32) (x9 : Int32) (u : St) (h : f_X7_member_j250 x1 x3 x6 x7 x9 u = some ret) : XW K 0 0 11 (QI K g (wdM g) ret) (wdM g) u 250 [(0, .ref (g.1 0)), (1, .int x1), (3, .int x3), (6, .int x6), (7, .int x7), (9, .int x9)] [] := by
  unfold f_X7_member_j250 at h
  refine x_iconst (v := 0) X dX7_member_250 (by decide) ?_
  refine x_istore (lv2 := [(10, .int 0), (0, .ref (g.1 0)), (1, .int x1), (3, .int x3), (6, .int x6), (7, .int x7), (9, .int x9)]) X dX7_member_251 (by decide) rfl ?_
  refine x_sub [1, 2, 3, 4, 5, 6, 0] rfl ?_
  obtain ⟨q200, e20, h⟩ := bd h
  refine loopF_w (WH := H_X7_member_253 x1 x3 x6 x7 x9 K g ret) (KB := E_X7_member_253 x1 x3 x6 x7 x9 K g ret) (fun a9 r9 h9 k8 k7 => w_X7_member_b253 x1 x3 x6 x7 x9 ret X a9 r9 h9 k8 k7) FU (0, u) q200 e20 ?_
  rcases q200 with q20 | q20
  · replace h := sl h
    exact (Option.some.inj h)
  · replace h := sr h
    show XW K 0 0 11 (QI K g (wdM g) ret) (wdM g) q20 313 [(0, .ref (g.1 0)), (1, .int x1), (3, .int x3), (7, .int x7), (9, .int x9)] []
    exact w_X7_member_j313 ret X x1 x3 x7 x9 q20 h
set_option maxRecDepth 100000 in
set_option maxHeartbeats 4000000 in
theorem w_X7_member_j206 {K : Cx} {g : Gw} (ret : Int32 × St) (X : XC K g cX7_member 11 RX7 (some .int) rm_X7_member) (x1 : Int32) (x2 : Int32) (x3 : Int32) (x6 : Int32) (x7 : Int32) (x9 : Int32) (u : St) (h : f_X7_member_j206 x1 x2 x3 x6 x7 x9 u = some ret) : XW K 0 0 11 (QI K g (wdM g) ret) (wdM g) u 206 [(0, .ref (g.1 0)), (1, .int x1), (2, .int x2), (3, .int x3), (6, .int x6), (7, .int x7), (9, .int x9)] [] := by
  unfold f_X7_member_j206 at h
  refine x_aload_n X dX7_member_206 rfl 0 rfl ?_
  refine x_get (v := .int (u 7 0)) X 0 9 in_X7 rfl rfl (by decide) m_X7_71 rfl dX7_member_207 ?_
  refine x_if_eq (tgt := 215) X dX7_member_210 (by decide) (fun c9 => ?_) (fun c9 => ?_)
  · replace h := if_t c9 h
    refine x_iload_n X dX7_member_215 rfl 2 rfl ?_
    refine x_if_ne (tgt := 250) X dX7_member_216 (by decide) (fun c10 => ?_) (fun c10 => ?_)
    · replace h := if_f c10 h
      refine x_sub [0, 1, 3, 4, 5, 6] rfl ?_
      exact w_X7_member_j250 ret X x1 x3 x6 x7 x9 u h
    · replace h := if_t c10 h
      refine x_aload_n X dX7_member_219 rfl 0 rfl ?_
      refine x_iload X dX7_member_220 6 rfl ?_
      refine x_iconst (v := 0) X dX7_member_222 (by decide) ?_
      obtain ⟨q24, e24, h⟩ := bd h
      refine x_callR X [.int x9, .int 0] [] (c_X7_brackets K.l K.D g x9 0 u q24 e24) ok_X7_brackets m_X7_113 0 rfl rfl rfl rfl (Nat.le_of_ble_eq_true rfl) ⟨Nat.zero_le _, Nat.zero_le _⟩ ⟨rfl, rfl, by decide, by decide⟩ dX7_member_223 ?_
      refine x_aload_n X dX7_member_226 rfl 0 rfl ?_
      refine x_get (v := .ref (g.1 3)) X 0 11 in_X7 rfl rfl (by decide) m_X7_16 rfl dX7_member_227 ?_
      refine x_bipush (v := 6) X dX7_member_230 (by decide) ?_
      obtain ⟨i25, h⟩ := chk_some h
      refine x_iald (f := (u 32)) X 3 0 rfl rfl i25 dX7_member_232 ?_
      refine x_icmp_le (tgt := 250) X dX7_member_233 (by decide) (fun c26 => ?_) (fun c26 => ?_)
      · replace h := if_t c26 h
        refine x_sub [0, 1, 3, 4, 5, 6] rfl ?_
        exact w_X7_member_j250 ret X x1 x3 x6 x7 x9 u h
      · replace h := if_f c26 h
        refine x_aload_n X dX7_member_236 rfl 0 rfl ?_
        refine x_get (v := .ref (g.1 3)) X 0 11 in_X7 rfl rfl (by decide) m_X7_16 rfl dX7_member_237 ?_
        refine x_bipush (v := 6) X dX7_member_240 (by decide) ?_
        refine x_aload_n X dX7_member_242 rfl 0 rfl ?_
        refine x_iload X dX7_member_243 6 rfl ?_
        refine x_iconst (v := 0) X dX7_member_245 (by decide) ?_
        obtain ⟨q27, e27, h⟩ := bd h
        refine x_callR X [.int x9, .int 0] [.int 6, .ref (g.1 3)] (c_X7_brackets K.l K.D g x9 0 u q27 e27) ok_X7_brackets m_X7_113 0 rfl rfl rfl rfl (Nat.le_of_ble_eq_true rfl) ⟨Nat.zero_le _, Nat.zero_le _⟩ ⟨rfl, rfl, by decide, by decide⟩ dX7_member_246 ?_
        obtain ⟨i28, h⟩ := chk_some h
        refine x_iast (f := (u 32)) (u2 := (up u 32 (Int32.toNatClampNeg 6) q27)) X 3 0 rfl rfl i28 (wdM_32 g u (Int32.toNatClampNeg 6) q27) dX7_member_249 ?_
        refine x_sub [0, 1, 3, 4, 5, 6] rfl ?_
        exact w_X7_member_j250 ret X x1 x3 x6 x7 x9 (up u 32 (Int32.toNatClampNeg 6) q27) h
  · replace h := if_f c9 h
    refine x_iload_n X dX7_member_213 rfl 3 rfl ?_
    exact x_iret X (Option.some.inj h) dX7_member_214
set_option maxRecDepth 100000 in
set_option maxHeartbeats 4000000 in
theorem w_X7_member_j197 {K : Cx} {g : Gw} (ret : Int32 × St) (X : XC K g cX7_member 11 RX7 (some .int) rm_X7_member) (x1 : Int32) (x2 : Int32) (x3 : Int32) (x6 : Int32) (x7 : Int32) (x8 : Int32) (x9 : Int32) (u : St) (h : f_X7_member_j197 x1 x2 x3 x6 x7 x8 x9 u = some ret) : XW K 0 0 11 (QI K g (wdM g) ret) (wdM g) u 197 [(0, .ref (g.1 0)), (1, .int x1), (2, .int x2), (3, .int x3), (6, .int x6), (7, .int x7), (8, .int x8), (9, .int x9)] [] := by
  unfold f_X7_member_j197 at h
  refine x_aload_n X dX7_member_197 rfl 0 rfl ?_
  refine x_bipush (v := 16) X dX7_member_198 (by decide) ?_
  refine x_iload X dX7_member_200 6 rfl ?_
  obtain ⟨q31, e31, h⟩ := bd h
  refine x_callI X [.int 16, .int x8] [] (c_X7_fail K.l K.D g 16 x8 u q31 e31) ok_X7_fail m_X7_89 0 rfl rfl rfl rfl (Nat.le_of_ble_eq_true rfl) ⟨Nat.zero_le _, Nat.zero_le _⟩ ⟨rfl, rfl, by decide, by decide⟩ dX7_member_202 ?_
  refine x_pop X dX7_member_205 rfl ?_
  refine x_sub [0, 1, 2, 3, 4, 5, 7] rfl ?_
  exact w_X7_member_j206 ret X x1 x2 x3 x6 x7 x9 q31.2 h
set_option maxRecDepth 100000 in
set_option maxHeartbeats 4000000 in
theorem w_X7_member_j143 {K : Cx} {g : Gw} (ret : Int32 × St) (X : XC K g cX7_member 11 RX7 (some .int) rm_X7_member) (x1 : Int32) (x2 : Int32) (x3 : Int32) (x6 : Int32) (x7 : Int32) (u : St) (h : f_X7_member_j143 x1 x2 x3 x6 x7 u = some ret) : XW K 0 0 11 (QI K g (wdM g) ret) (wdM g) u 143 [(0, .ref (g.1 0)), (1, .int x1), (2, .int x2), (3, .int x3), (6, .int x6), (7, .int x7)] [] := by
  unfold f_X7_member_j143 at h
  refine x_aload_n X dX7_member_143 rfl 0 rfl ?_
  refine x_get (v := .int (u 3 0)) X 0 5 in_X7 rfl rfl (by decide) m_X7_77 rfl dX7_member_144 ?_
  refine x_istore (lv2 := [(8, .int (u 3 0)), (0, .ref (g.1 0)), (1, .int x1), (2, .int x2), (3, .int x3), (6, .int x6), (7, .int x7)]) X dX7_member_147 (by decide) rfl ?_
  refine x_aload_n X dX7_member_149 rfl 1 rfl ?_
  obtain ⟨q7, e7, h⟩ := bd h
  refine x_callI X [] [] (c_X7_u2 K.l K.D g u q7 e7) ok_X7_u2 m_X7_130 0 rfl rfl rfl rfl (Nat.le_of_ble_eq_true rfl) ⟨Nat.zero_le _, Nat.zero_le _⟩ ⟨rfl, rfl, by decide, by decide⟩ dX7_member_150 ?_
  refine x_istore (lv2 := [(9, .int q7.1), (8, .int (u 3 0)), (0, .ref (g.1 0)), (1, .int x1), (2, .int x2), (3, .int x3), (6, .int x6), (7, .int x7)]) X dX7_member_153 (by decide) rfl ?_
  refine x_aload_n X dX7_member_155 rfl 2 rfl ?_
  refine x_get (v := .int (q7.2 7 0)) X 0 9 in_X7 rfl rfl (by decide) m_X7_71 rfl dX7_member_156 ?_
  refine x_if_ne (tgt := 206) X dX7_member_159 (by decide) (fun c8 => ?_) (fun c8 => ?_)
  · replace h := if_f c8 h
    refine x_sub [2, 3, 4, 5, 6, 7, 0] rfl ?_
    exact w_X7_member_j206 ret X x1 x2 x3 x6 x7 q7.1 q7.2 h
  · replace h := if_t c8 h
    refine x_aload_n X dX7_member_162 rfl 2 rfl ?_
    refine x_iload X dX7_member_163 0 rfl ?_
    refine x_iconst (v := 1) X dX7_member_165 (by decide) ?_
    obtain ⟨q29, e29, h⟩ := bd h
    refine x_callR X [.int q7.1, .int 1] [] (c_X7_is K.l K.D g q7.1 1 q7.2 q29 e29) ok_X7_is m_X7_143 0 rfl rfl rfl rfl (Nat.le_of_ble_eq_true rfl) ⟨Nat.zero_le _, Nat.zero_le _⟩ ⟨rfl, rfl, by decide, by decide⟩ dX7_member_166 ?_
    refine x_if_eq (tgt := 197) X dX7_member_169 (by decide) (fun c30 => ?_) (fun c30 => ?_)
    · replace h := if_t c30 h
      refine x_sub [2, 3, 4, 5, 6, 7, 1, 0] rfl ?_
      exact w_X7_member_j197 ret X x1 x2 x3 x6 x7 (u 3 0) q7.1 q7.2 h
    · replace h := if_f c30 h
      refine x_iload_n X dX7_member_172 rfl 4 rfl ?_
      refine x_if_eq (tgt := 188) X dX7_member_173 (by decide) (fun c32 => ?_) (fun c32 => ?_)
      · replace h := if_t c32 h
        refine x_aload_n X dX7_member_188 rfl 2 rfl ?_
        refine x_iload X dX7_member_189 0 rfl ?_
        obtain ⟨q33, e33, h⟩ := bd h
        refine x_callR X [.int q7.1] [] (c_X7_fieldType K.l K.D g q7.1 q7.2 q33 e33) ok_X7_fieldType m_X7_165 0 rfl rfl rfl rfl (Nat.le_of_ble_eq_true rfl) ⟨Nat.zero_le _, Nat.zero_le _⟩ ⟨rfl, rfl, by decide, by decide⟩ dX7_member_191 ?_
        refine x_if_ne (tgt := 206) X dX7_member_194 (by decide) (fun c34 => ?_) (fun c34 => ?_)
        · replace h := if_f c34 h
          refine x_sub [2, 3, 4, 5, 6, 7, 0] rfl ?_
          exact w_X7_member_j206 ret X x1 x2 x3 x6 x7 q7.1 q7.2 h
        · replace h := if_t c34 h
          refine x_sub [2, 3, 4, 5, 6, 7, 1, 0] rfl ?_
          exact w_X7_member_j197 ret X x1 x2 x3 x6 x7 (u 3 0) q7.1 q7.2 h
      · replace h := if_f c32 h
        refine x_aload_n X dX7_member_176 rfl 2 rfl ?_
        refine x_iload X dX7_member_177 0 rfl ?_
        obtain ⟨q35, e35, h⟩ := bd h
        refine x_callR X [.int q7.1] [] (c_X7_methodType K.l K.D g q7.1 q7.2 q35 e35) ok_X7_methodType m_X7_151 0 rfl rfl rfl rfl (Nat.le_of_ble_eq_true rfl) ⟨Nat.zero_le _, Nat.zero_le _⟩ ⟨rfl, rfl, by decide, by decide⟩ dX7_member_179 ?_
        refine x_if_eq (tgt := 197) X dX7_member_182 (by decide) (fun c36 => ?_) (fun c36 => ?_)
        · replace h := if_t c36 h
          refine x_sub [2, 3, 4, 5, 6, 7, 1, 0] rfl ?_
          exact w_X7_member_j197 ret X x1 x2 x3 x6 x7 (u 3 0) q7.1 q7.2 h
        · replace h := if_f c36 h
          refine x_goto (tgt := 206) X dX7_member_185 (by decide) ?_
          refine x_sub [2, 3, 4, 5, 6, 7, 0] rfl ?_
          exact w_X7_member_j206 ret X x1 x2 x3 x6 x7 q7.1 q7.2 h
set_option maxRecDepth 100000 in
set_option maxHeartbeats 4000000 in
theorem w_X7_member_j134 {K : Cx} {g : Gw} (ret : Int32 × St) (X : XC K g cX7_member 11 RX7 (some .int) rm_X7_member) (x1 : Int32) (x2 : Int32) (x3 : Int32) (x6 : Int32) (x7 : Int32) (u : St) (h : f_X7_member_j134 x1 x2 x3 x6 x7 u = some ret) : XW K 0 0 11 (QI K g (wdM g) ret) (wdM g) u 134 [(0, .ref (g.1 0)), (1, .int x1), (2, .int x2), (3, .int x3), (6, .int x6), (7, .int x7)] [] := by
  unfold f_X7_member_j134 at h
  refine x_aload_n X dX7_member_134 rfl 0 rfl ?_
  refine x_bipush (v := 15) X dX7_member_135 (by decide) ?_
  refine x_iload X dX7_member_137 4 rfl ?_
  obtain ⟨q39, e39, h⟩ := bd h
  refine x_callI X [.int 15, .int x6] [] (c_X7_fail K.l K.D g 15 x6 u q39 e39) ok_X7_fail m_X7_89 0 rfl rfl rfl rfl (Nat.le_of_ble_eq_true rfl) ⟨Nat.zero_le _, Nat.zero_le _⟩ ⟨rfl, rfl, by decide, by decide⟩ dX7_member_139 ?_
  refine x_pop X dX7_member_142 rfl ?_
  exact w_X7_member_j143 ret X x1 x2 x3 x6 x7 q39.2 h
set_option maxRecDepth 100000 in
set_option maxHeartbeats 4000000 in
theorem w_X7_member_j80 {K : Cx} {g : Gw} (ret : Int32 × St) (X : XC K g cX7_member 11 RX7 (some .int) rm_X7_member) (x1 : Int32) (x2 : Int32) (x3 : Int32) (u : St) (h : f_X7_member_j80 x1 x2 x3 u = some ret) : XW K 0 0 11 (QI K g (wdM g) ret) (wdM g) u 80 [(0, .ref (g.1 0)), (1, .int x1), (2, .int x2), (3, .int x3)] [] := by
  unfold f_X7_member_j80 at h
  refine x_aload_n X dX7_member_80 rfl 0 rfl ?_
  refine x_get (v := .int (u 3 0)) X 0 5 in_X7 rfl rfl (by decide) m_X7_77 rfl dX7_member_81 ?_
  refine x_istore (lv2 := [(6, .int (u 3 0)), (0, .ref (g.1 0)), (1, .int x1), (2, .int x2), (3, .int x3)]) X dX7_member_84 (by decide) rfl ?_
  refine x_aload_n X dX7_member_86 rfl 1 rfl ?_
  obtain ⟨q5, e5, h⟩ := bd h
  refine x_callI X [] [] (c_X7_u2 K.l K.D g u q5 e5) ok_X7_u2 m_X7_130 0 rfl rfl rfl rfl (Nat.le_of_ble_eq_true rfl) ⟨Nat.zero_le _, Nat.zero_le _⟩ ⟨rfl, rfl, by decide, by decide⟩ dX7_member_87 ?_
  refine x_istore (lv2 := [(7, .int q5.1), (6, .int (u 3 0)), (0, .ref (g.1 0)), (1, .int x1), (2, .int x2), (3, .int x3)]) X dX7_member_90 (by decide) rfl ?_
  refine x_aload_n X dX7_member_92 rfl 2 rfl ?_
  refine x_get (v := .int (q5.2 7 0)) X 0 9 in_X7 rfl rfl (by decide) m_X7_71 rfl dX7_member_93 ?_
  refine x_if_ne (tgt := 143) X dX7_member_96 (by decide) (fun c6 => ?_) (fun c6 => ?_)
  · replace h := if_f c6 h
    refine x_sub [2, 3, 4, 5, 1, 0] rfl ?_
    exact w_X7_member_j143 ret X x1 x2 x3 (u 3 0) q5.1 q5.2 h
  · replace h := if_t c6 h
    refine x_aload_n X dX7_member_99 rfl 2 rfl ?_
    refine x_iload X dX7_member_100 0 rfl ?_
    refine x_iconst (v := 1) X dX7_member_102 (by decide) ?_
    obtain ⟨q37, e37, h⟩ := bd h
    refine x_callR X [.int q5.1, .int 1] [] (c_X7_is K.l K.D g q5.1 1 q5.2 q37 e37) ok_X7_is m_X7_143 0 rfl rfl rfl rfl (Nat.le_of_ble_eq_true rfl) ⟨Nat.zero_le _, Nat.zero_le _⟩ ⟨rfl, rfl, by decide, by decide⟩ dX7_member_103 ?_
    refine x_if_eq (tgt := 134) X dX7_member_106 (by decide) (fun c38 => ?_) (fun c38 => ?_)
    · replace h := if_t c38 h
      refine x_sub [2, 3, 4, 5, 1, 0] rfl ?_
      exact w_X7_member_j134 ret X x1 x2 x3 (u 3 0) q5.1 q5.2 h
    · replace h := if_f c38 h
      refine x_iload_n X dX7_member_109 rfl 4 rfl ?_
      refine x_if_eq (tgt := 125) X dX7_member_110 (by decide) (fun c40 => ?_) (fun c40 => ?_)
      · replace h := if_t c40 h
        refine x_aload_n X dX7_member_125 rfl 2 rfl ?_
        refine x_iload X dX7_member_126 0 rfl ?_
        obtain ⟨q41, e41, h⟩ := bd h
        refine x_callR X [.int q5.1] [] (c_X7_fieldName K.l K.D g q5.1 q5.2 q41 e41) ok_X7_fieldName m_X7_109 0 rfl rfl rfl rfl (Nat.le_of_ble_eq_true rfl) ⟨Nat.zero_le _, Nat.zero_le _⟩ ⟨rfl, rfl, by decide, by decide⟩ dX7_member_128 ?_
        refine x_if_ne (tgt := 143) X dX7_member_131 (by decide) (fun c42 => ?_) (fun c42 => ?_)
        · replace h := if_f c42 h
          refine x_sub [2, 3, 4, 5, 1, 0] rfl ?_
          exact w_X7_member_j143 ret X x1 x2 x3 (u 3 0) q5.1 q5.2 h
        · replace h := if_t c42 h
          refine x_sub [2, 3, 4, 5, 1, 0] rfl ?_
          exact w_X7_member_j134 ret X x1 x2 x3 (u 3 0) q5.1 q5.2 h
      · replace h := if_f c40 h
        refine x_aload_n X dX7_member_113 rfl 2 rfl ?_
        refine x_iload X dX7_member_114 0 rfl ?_
        obtain ⟨q43, e43, h⟩ := bd h
        refine x_callR X [.int q5.1] [] (c_X7_memberName K.l K.D g q5.1 q5.2 q43 e43) ok_X7_memberName m_X7_148 0 rfl rfl rfl rfl (Nat.le_of_ble_eq_true rfl) ⟨Nat.zero_le _, Nat.zero_le _⟩ ⟨rfl, rfl, by decide, by decide⟩ dX7_member_116 ?_
        refine x_if_eq (tgt := 134) X dX7_member_119 (by decide) (fun c44 => ?_) (fun c44 => ?_)
        · replace h := if_t c44 h
          refine x_sub [2, 3, 4, 5, 1, 0] rfl ?_
          exact w_X7_member_j134 ret X x1 x2 x3 (u 3 0) q5.1 q5.2 h
        · replace h := if_f c44 h
          refine x_goto (tgt := 143) X dX7_member_122 (by decide) ?_
          refine x_sub [2, 3, 4, 5, 1, 0] rfl ?_
          exact w_X7_member_j143 ret X x1 x2 x3 (u 3 0) q5.1 q5.2 h
set_option maxRecDepth 100000 in
set_option maxHeartbeats 4000000 in
theorem w_X7_member_j58 {K : Cx} {g : Gw} (ret : Int32 × St) (X : XC K g cX7_member 11 RX7 (some .int) rm_X7_member) (x1 : Int32) (x2 : Int32) (x3 : Int32) (z0 : Int32) (u : St) (h : f_X7_member_j58 x1 x2 x3 z0 u = some ret) : XW K 0 0 11 (QI K g (wdM g) ret) (wdM g) u 58 [(0, .ref (g.1 0)), (1, .int x1), (2, .int x2), (3, .int x3)] [.int z0] := by
  unfold f_X7_member_j58 at h
  refine x_istore (lv2 := [(5, .int z0), (0, .ref (g.1 0)), (1, .int x1), (2, .int x2), (3, .int x3)]) X dX7_member_58 (by decide) rfl ?_
  refine x_aload_n X dX7_member_60 rfl 1 rfl ?_
  refine x_get (v := .int (u 7 0)) X 0 9 in_X7 rfl rfl (by decide) m_X7_71 rfl dX7_member_61 ?_
  refine x_if_ne (tgt := 80) X dX7_member_64 (by decide) (fun c4 => ?_) (fun c4 => ?_)
  · replace h := if_f c4 h
    refine x_sub [1, 2, 3, 4] rfl ?_
    exact w_X7_member_j80 ret X x1 x2 x3 u h
  · replace h := if_t c4 h
    refine x_iload X dX7_member_67 0 rfl ?_
    refine x_if_eq (tgt := 80) X dX7_member_69 (by decide) (fun c45 => ?_) (fun c45 => ?_)
    · replace h := if_t c45 h
      refine x_sub [1, 2, 3, 4] rfl ?_
      exact w_X7_member_j80 ret X x1 x2 x3 u h
    · replace h := if_f c45 h
      refine x_aload_n X dX7_member_72 rfl 1 rfl ?_
      refine x_bipush (v := 14) X dX7_member_73 (by decide) ?_
      refine x_iload_n X dX7_member_75 rfl 4 rfl ?_
      obtain ⟨q46, e46, h⟩ := bd h
      refine x_callI X [.int 14, .int x3] [] (c_X7_fail K.l K.D g 14 x3 u q46 e46) ok_X7_fail m_X7_89 0 rfl rfl rfl rfl (Nat.le_of_ble_eq_true rfl) ⟨Nat.zero_le _, Nat.zero_le _⟩ ⟨rfl, rfl, by decide, by decide⟩ dX7_member_76 ?_
      refine x_pop X dX7_member_79 rfl ?_
      refine x_sub [1, 2, 3, 4] rfl ?_
      exact w_X7_member_j80 ret X x1 x2 x3 q46.2 h
set_option maxRecDepth 100000 in
set_option maxHeartbeats 4000000 in
theorem w_X7_member_j53 {K : Cx} {g : Gw} (ret : Int32 × St) (X : XC K g cX7_member 11 RX7 (some .int) rm_X7_member) (x1 : Int32) (x2 : Int32) (x3 : Int32) (u : St) (h : f_X7_member_j53 x1 x2 x3 u = some ret) : XW K 0 0 11 (QI K g (wdM g) ret) (wdM g) u 53 [(0, .ref (g.1 0)), (1, .int x1), (2, .int x2), (3, .int x3)] [] := by
  unfold f_X7_member_j53 at h
  refine x_iconst (v := 1) X dX7_member_53 (by decide) ?_
  refine x_goto (tgt := 58) X dX7_member_54 (by decide) ?_
  exact w_X7_member_j58 ret X x1 x2 x3 1 u h
set_option maxRecDepth 100000 in
set_option maxHeartbeats 4000000 in
theorem w_X7_member_j57 {K : Cx} {g : Gw} (ret : Int32 × St) (X : XC K g cX7_member 11 RX7 (some .int) rm_X7_member) (x1 : Int32) (x2 : Int32) (x3 : Int32) (u : St) (h : f_X7_member_j57 x1 x2 x3 u = some ret) : XW K 0 0 11 (QI K g (wdM g) ret) (wdM g) u 57 [(0, .ref (g.1 0)), (1, .int x1), (2, .int x2), (3, .int x3)] [] := by
  unfold f_X7_member_j57 at h
  refine x_iconst (v := 0) X dX7_member_57 (by decide) ?_
  exact w_X7_member_j58 ret X x1 x2 x3 0 u h
set_option maxRecDepth 100000 in
set_option maxHeartbeats 4000000 in
theorem c_X7_member (l : Launch) (D : va_G) (g : Gw) (p0 : Int32) (p1 : Int32) (u : St) (ret : Int32 × St) (h : f_X7_member p0 p1 u = some ret) : metI l D g (wdM g) yX7_member cX7_member 11 .int rm_X7_member [.ref (g.1 0), .int p0, .int p1] u ret := by
  refine metI_of (own := RX7) (lv := [(0, .ref (g.1 0)), (1, .int p0), (2, .int p1)]) (by decide) rfl rfl (Nat.le_of_ble_eq_true rfl) (fun K hl9 hD9 X => ?_)
  subst hl9
  subst hD9
  unfold f_X7_member at h
  refine x_aload_n X dX7_member_0 rfl 0 rfl ?_
  refine x_get (v := .int (u 3 0)) X 0 5 in_X7 rfl rfl (by decide) m_X7_77 rfl dX7_member_1 ?_
  refine x_istore_n (lv2 := [(3, .int (u 3 0)), (0, .ref (g.1 0)), (1, .int p0), (2, .int p1)]) X dX7_member_4 rfl (by decide) rfl ?_
  refine x_aload_n X dX7_member_5 rfl 1 rfl ?_
  obtain ⟨q1, e1, h⟩ := bd h
  refine x_callI X [] [] (c_X7_u2 K.l K.D g u q1 e1) ok_X7_u2 m_X7_130 0 rfl rfl rfl rfl (Nat.le_of_ble_eq_true rfl) ⟨Nat.zero_le _, Nat.zero_le _⟩ ⟨rfl, rfl, by decide, by decide⟩ dX7_member_6 ?_
  refine x_istore (lv2 := [(4, .int q1.1), (3, .int (u 3 0)), (0, .ref (g.1 0)), (1, .int p0), (2, .int p1)]) X dX7_member_9 (by decide) rfl ?_
  refine x_iload X dX7_member_11 0 rfl ?_
  obtain ⟨q2, e2, h⟩ := bd h
  refine x_scallR X [.int q1.1] [] (c_X7_several K.l K.D g q1.1 q1.2 q2 e2) ok_X7_several m_X7_162 rfl rfl (Nat.le_of_ble_eq_true rfl) ⟨Nat.zero_le _, Nat.zero_le _⟩ ⟨rfl, rfl, by decide, by decide⟩ dX7_member_13 ?_
  refine x_if_ne (tgt := 53) X dX7_member_16 (by decide) (fun c3 => ?_) (fun c3 => ?_)
  · replace h := if_f c3 h
    refine x_sub [2, 3, 4, 1] rfl ?_
    exact w_X7_member_j53 ret X p0 p1 (u 3 0) q1.2 h
  · replace h := if_t c3 h
    refine x_iload_n X dX7_member_19 rfl 4 rfl ?_
    refine x_if_eq (tgt := 43) X dX7_member_20 (by decide) (fun c47 => ?_) (fun c47 => ?_)
    · replace h := if_t c47 h
      refine x_iload X dX7_member_43 0 rfl ?_
      refine x_bipush (v := 80) X dX7_member_45 (by decide) ?_
      refine x_iand X dX7_member_47 ?_
      refine x_bipush (v := 80) X dX7_member_48 (by decide) ?_
      refine x_icmp_ne (tgt := 57) X dX7_member_50 (by decide) (fun c48 => ?_) (fun c48 => ?_)
      · replace h := if_f c48 h
        refine x_sub [2, 3, 4, 1] rfl ?_
        exact w_X7_member_j57 ret X p0 p1 (u 3 0) q1.2 h
      · replace h := if_t c48 h
        refine x_sub [2, 3, 4, 1] rfl ?_
        exact w_X7_member_j53 ret X p0 p1 (u 3 0) q1.2 h
    · replace h := if_f c47 h
      refine x_iload X dX7_member_23 0 rfl ?_
      refine x_sipush (v := 1024) X dX7_member_25 (by decide) ?_
      refine x_iand X dX7_member_28 ?_
      refine x_if_eq (tgt := 57) X dX7_member_29 (by decide) (fun c49 => ?_) (fun c49 => ?_)
      · replace h := if_t c49 h
        refine x_sub [2, 3, 4, 1] rfl ?_
        exact w_X7_member_j57 ret X p0 p1 (u 3 0) q1.2 h
      · replace h := if_f c49 h
        refine x_iload X dX7_member_32 0 rfl ?_
        refine x_bipush (v := 26) X dX7_member_34 (by decide) ?_
        refine x_iand X dX7_member_36 ?_
        refine x_if_eq (tgt := 57) X dX7_member_37 (by decide) (fun c50 => ?_) (fun c50 => ?_)
        · replace h := if_t c50 h
          refine x_sub [2, 3, 4, 1] rfl ?_
          exact w_X7_member_j57 ret X p0 p1 (u 3 0) q1.2 h
        · replace h := if_f c50 h
          refine x_goto (tgt := 53) X dX7_member_40 (by decide) ?_
          refine x_sub [2, 3, 4, 1] rfl ?_
          exact w_X7_member_j53 ret X p0 p1 (u 3 0) q1.2 h
