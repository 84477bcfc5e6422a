abbrev H_X7_fields_7 (x1 : Int32) (K : Cx) (g : Gw) (ret : St) (a : Int32 × St) : Prop := XW K 0 0 3 (QV K g (wdM g) ret) (wdM g) a.2 7 [(0, .ref (g.1 0)), (1, .int x1), (2, .int a.1)] []
abbrev E_X7_fields_7 (x1 : Int32) (K : Cx) (g : Gw) (ret : St) (q : (St) ⊕ (St)) : Prop := Sum.elim (fun q => q = ret) (fun q => XW K 0 0 3 (QV K g (wdM g) ret) (wdM g) q 66 [] []) q
set_option maxRecDepth 100000 in
set_option maxHeartbeats 4000000 in
theorem w_X7_fields_j60_7 {K : Cx} {g : Gw} (ret : St) (X : XC K g cX7_fields 3 RX7 none rm_X7_fields) (x1 : Int32) (x2 : Int32) (u : St) (r : ((St) ⊕ (St)) ⊕ (Int32 × St)) (h : f_X7_fields_j60_7 x1 x2 u = some r) (k0 : ∀ q, r = .inl q → E_X7_fields_7 x1 K g ret q) (k1 : ∀ q, r = .inr q → H_X7_fields_7 x1 K g ret q) : XW K 0 0 3 (QV K g (wdM g) ret) (wdM g) u 60 [(0, .ref (g.1 0)), (1, .int x1), (2, .int x2)] [] := by
  unfold f_X7_fields_j60_7 at h
  refine x_iinc (v := (x2 + 1)) (lv2 := [(2, .int (x2 + 1)), (0, .ref (g.1 0)), (1, .int x1)]) X dX7_fields_60 2 rfl rfl (by decide) rfl ?_
  refine x_goto (tgt := 7) X dX7_fields_63 (by decide) ?_
  refine x_sub [1, 2, 0] rfl ?_
  have h9 := k1 _ (Option.some.inj h).symm
  exact h9
set_option maxRecDepth 100000 in
set_option maxHeartbeats 4000000 in
theorem w_X7_fields_j43_7 {K : Cx} {g : Gw} (ret : St) (X : XC K g cX7_fields 3 RX7 none rm_X7_fields) (x1 : Int32) (x2 : Int32) (u : St) (r : ((St) ⊕ (St)) ⊕ (Int32 × St)) (h : f_X7_fields_j43_7 x1 x2 u = some r) (k0 : ∀ q, r = .inl q → E_X7_fields_7 x1 K g ret q) (k1 : ∀ q, r = .inr q → H_X7_fields_7 x1 K g ret q) : XW K 0 0 3 (QV K g (wdM g) ret) (wdM g) u 43 [(0, .ref (g.1 0)), (1, .int x1), (2, .int x2)] [] := by
  unfold f_X7_fields_j43_7 at h
  refine x_aload_n X dX7_fields_43 rfl 0 rfl ?_
  refine x_get (v := .int (u 7 0)) X 0 9 in_X7 rfl rfl (by decide) m_X7_71 rfl dX7_fields_44 ?_
  refine x_if_ne (tgt := 60) X dX7_fields_47 (by decide) (fun c6 => ?_) (fun c6 => ?_)
  · replace h := if_f c6 h
    exact w_X7_fields_j60_7 ret X x1 x2 u r h k0 k1
  · replace h := if_t c6 h
    refine x_aload_n X dX7_fields_50 rfl 0 rfl ?_
    refine x_get (v := .ref (g.1 3)) X 0 11 in_X7 rfl rfl (by decide) m_X7_16 rfl dX7_fields_51 ?_
    refine x_iconst (v := 1) X dX7_fields_54 (by decide) ?_
    refine x_dup2 X dX7_fields_55 rfl rfl ?_
    obtain ⟨i7, h⟩ := chk_some h
    refine x_iald (f := (u 32)) X 3 0 rfl rfl i7 dX7_fields_56 ?_
    refine x_iconst (v := 1) X dX7_fields_57 (by decide) ?_
    refine x_iadd X dX7_fields_58 ?_
    obtain ⟨i8, h⟩ := chk_some h
    refine x_iast (f := (u 32)) (u2 := (up u 32 (Int32.toNatClampNeg 1) (((u 32) (Int32.toNatClampNeg 1)) + 1))) X 3 0 rfl rfl i8 (wdM_32 g u (Int32.toNatClampNeg 1) (((u 32) (Int32.toNatClampNeg 1)) + 1)) dX7_fields_59 ?_
    exact w_X7_fields_j60_7 ret X x1 x2 (up u 32 (Int32.toNatClampNeg 1) (((u 32) (Int32.toNatClampNeg 1)) + 1)) r h k0 k1
set_option maxRecDepth 100000 in
set_option maxHeartbeats 4000000 in
theorem w_X7_fields_b7 {K : Cx} {g : Gw} (x1 : Int32) (ret : St) (X : XC K g cX7_fields 3 RX7 none rm_X7_fields) (a : Int32 × St) (r : ((St) ⊕ (St)) ⊕ (Int32 × St)) (h : f_X7_fields_b7 x1 a = some r) (k0 : ∀ q, r = .inl q → E_X7_fields_7 x1 K g ret q) (k1 : ∀ q, r = .inr q → H_X7_fields_7 x1 K g ret q) : H_X7_fields_7 x1 K g ret a := by
  unfold f_X7_fields_b7 at h
  show XW K 0 0 3 (QV K g (wdM g) ret) (wdM g) a.2 7 [(0, .ref (g.1 0)), (1, .int x1), (2, .int a.1)] []
  refine x_iload_n X dX7_fields_7 rfl 2 rfl ?_
  refine x_iload_n X dX7_fields_8 rfl 1 rfl ?_
  refine x_icmp_ge (tgt := 66) X dX7_fields_9 (by decide) (fun c2 => ?_) (fun c2 => ?_)
  · replace h := if_t c2 h
    refine x_sub [] rfl ?_
    have h9 := k0 _ (Option.some.inj h).symm
    exact h9
  · replace h := if_f c2 h
    refine x_aload_n X dX7_fields_12 rfl 0 rfl ?_
    refine x_get (v := .int (a.2 7 0)) X 0 9 in_X7 rfl rfl (by decide) m_X7_71 rfl dX7_fields_13 ?_
    refine x_if_ne (tgt := 66) X dX7_fields_16 (by decide) (fun c3 => ?_) (fun c3 => ?_)
    · replace h := if_f c3 h
      refine x_sub [] rfl ?_
      have h9 := k0 _ (Option.some.inj h).symm
      exact h9
    · replace h := if_t c3 h
      refine x_aload_n X dX7_fields_19 rfl 0 rfl ?_
      refine x_iload_n X dX7_fields_20 rfl 2 rfl ?_
      refine x_iconst (v := 0) X dX7_fields_21 (by decide) ?_
      obtain ⟨q4, e4, h⟩ := bd h
      refine x_callI X [.int a.1, .int 0] [] (c_X7_member K.l K.D g a.1 0 a.2 q4 e4) ok_X7_member m_X7_185 0 rfl rfl rfl rfl (Nat.le_of_ble_eq_true rfl) ⟨Nat.zero_le _, Nat.zero_le _⟩ ⟨rfl, rfl, by decide, by decide⟩ dX7_fields_22 ?_
      refine x_pop X dX7_fields_25 rfl ?_
      refine x_aload_n X dX7_fields_26 rfl 0 rfl ?_
      refine x_get (v := .int (q4.2 7 0)) X 0 9 in_X7 rfl rfl (by decide) m_X7_71 rfl dX7_fields_27 ?_
      refine x_if_ne (tgt := 43) X dX7_fields_30 (by decide) (fun c5 => ?_) (fun c5 => ?_)
      · replace h := if_f c5 h
        exact w_X7_fields_j43_7 ret X x1 a.1 q4.2 r h k0 k1
      · replace h := if_t c5 h
        refine x_aload_n X dX7_fields_33 rfl 0 rfl ?_
        refine x_aload_n X dX7_fields_34 rfl 0 rfl ?_
        refine x_get (v := .ref (g.1 10)) X 0 19 in_X7 rfl rfl (by decide) m_X7_37 rfl dX7_fields_35 ?_
        refine x_iload_n X dX7_fields_38 rfl 2 rfl ?_
        obtain ⟨i9, h⟩ := chk_some h
        refine x_iald (f := (q4.2 39)) X 10 0 rfl rfl i9 dX7_fields_39 ?_
        obtain ⟨q10, e10, h⟩ := bd h
        refine x_callV X [.int ((q4.2 39) (Int32.toNatClampNeg a.1))] [] (c_X7_fieldAttributes K.l K.D g ((q4.2 39) (Int32.toNatClampNeg a.1)) q4.2 q10 e10) ok_X7_fieldAttributes m_X7_189 0 rfl rfl rfl rfl (Nat.le_of_ble_eq_true rfl) ⟨Nat.zero_le _, Nat.zero_le _⟩ ⟨rfl, rfl, by decide, by decide⟩ dX7_fields_40 ?_
        exact w_X7_fields_j43_7 ret X x1 a.1 q10 r h k0 k1
set_option maxRecDepth 100000 in
set_option maxHeartbeats 4000000 in
theorem w_X7_fields_j66 {K : Cx} {g : Gw} (ret : St) (X : XC K g cX7_fields 3 RX7 none rm_X7_fields) (u : St) (h : f_X7_fields_j66 u = some ret) : XW K 0 0 3 (QV K g (wdM g) ret) (wdM g) u 66 [] [] := by
  unfold f_X7_fields_j66 at h
  exact x_vret X (Option.some.inj h) dX7_fields_66
set_option maxRecDepth 100000 in
set_option maxHeartbeats 4000000 in
theorem c_X7_fields (l : Launch) (D : va_G) (g : Gw) (u : St) (ret : St) (h : f_X7_fields u = some ret) : metV l D g (wdM g) yX7_fields cX7_fields 3 rm_X7_fields [.ref (g.1 0)] u ret := by
  refine metV_of (own := RX7) (lv := [(0, .ref (g.1 0))]) (by decide) rfl rfl (Nat.le_of_ble_eq_true rfl) (fun K hl9 hD9 X => ?_)
  subst hl9
  subst hD9
  unfold f_X7_fields at h
  refine x_aload_n X dX7_fields_0 rfl 0 rfl ?_
  obtain ⟨q1, e1, h⟩ := bd h
  refine x_callI X [] [] (c_X7_u2 K.l K.D g u q1 e1) ok_X7_u2 m_X7_130 0 rfl rfl rfl rfl (Nat.le_of_ble_eq_true rfl) ⟨Nat.zero_le _, Nat.zero_le _⟩ ⟨rfl, rfl, by decide, by decide⟩ dX7_fields_1 ?_
  refine x_istore_n (lv2 := [(1, .int q1.1), (0, .ref (g.1 0))]) X dX7_fields_4 rfl (by decide) rfl ?_
  refine x_iconst (v := 0) X dX7_fields_5 (by decide) ?_
  refine x_istore_n (lv2 := [(2, .int 0), (1, .int q1.1), (0, .ref (g.1 0))]) X dX7_fields_6 rfl (by decide) rfl ?_
  refine x_sub [2, 1, 0] rfl ?_
  obtain ⟨q110, e11, h⟩ := bd h
  refine loopF_w (WH := H_X7_fields_7 q1.1 K g ret) (KB := E_X7_fields_7 q1.1 K g ret) (fun a9 r9 h9 k8 k7 => w_X7_fields_b7 q1.1 ret X a9 r9 h9 k8 k7) FU (0, q1.2) q110 e11 ?_
  rcases q110 with q11 | q11
  · replace h := sl h
    exact (Option.some.inj h)
  · replace h := sr h
    show XW K 0 0 3 (QV K g (wdM g) ret) (wdM g) q11 66 [] []
    exact w_X7_fields_j66 ret X q11 h
set_option maxRecDepth 100000 in
set_option maxHeartbeats 4000000 in
theorem w_X7_byteAt_j23 {K : Cx} {g : Gw} (ret : Int32) (X : XC K g cX7_byteAt 2 RX7 (some .int) rm_X7_byteAt) (z0 : Int32) (u : St) (h : f_X7_byteAt_j23 z0 u = some ret) : XW K 0 0 2 (QI K g (wdM g) (ret, u)) (wdM g) u 23 [] [.int z0] := by
  unfold f_X7_byteAt_j23 at h
  exact x_iret X (roE (Option.some.inj h)) dX7_byteAt_23
set_option maxRecDepth 100000 in
set_option maxHeartbeats 4000000 in
theorem c_X7_byteAt (l : Launch) (D : va_G) (g : Gw) (p0 : Int32) (u : St) (ret : Int32) (h : f_X7_byteAt p0 u = some ret) : metI l D g (wdM g) yX7_byteAt cX7_byteAt 2 .int rm_X7_byteAt [.ref (g.1 0), .int p0] u (ret, u) := by
  refine metI_of (own := RX7) (lv := [(0, .ref (g.1 0)), (1, .int p0)]) (by decide) rfl rfl (Nat.le_of_ble_eq_true rfl) (fun K hl9 hD9 X => ?_)
  subst hl9
  subst hD9
  unfold f_X7_byteAt at h
  refine x_iload_n X dX7_byteAt_0 rfl 1 rfl ?_
  refine x_aload_n X dX7_byteAt_1 rfl 0 rfl ?_
  refine x_get (v := .int (u 11 0)) X 0 22 in_X7 rfl rfl (by decide) m_X7_206 rfl dX7_byteAt_2 ?_
  refine x_icmp_ge (tgt := 22) X dX7_byteAt_5 (by decide) (fun c1 => ?_) (fun c1 => ?_)
  · replace h := if_t c1 h
    refine x_iconst (v := 0) X dX7_byteAt_22 (by decide) ?_
    refine x_sub [] rfl ?_
    exact w_X7_byteAt_j23 ret X 0 u h
  · replace h := if_f c1 h
    refine x_aload_n X dX7_byteAt_8 rfl 0 rfl ?_
    refine x_get (v := .ref (g.1 1)) X 0 0 in_X7 rfl rfl (by decide) m_X7_7 rfl dX7_byteAt_9 ?_
    refine x_aload_n X dX7_byteAt_12 rfl 0 rfl ?_
    refine x_get (v := .int (u 10 0)) X 0 21 in_X7 rfl rfl (by decide) m_X7_209 rfl dX7_byteAt_13 ?_
    refine x_iload_n X dX7_byteAt_16 rfl 1 rfl ?_
    refine x_iadd X dX7_byteAt_17 ?_
    obtain ⟨i2, h⟩ := chk_some h
    refine x_iald (f := (u 30)) X 1 0 rfl rfl i2 dX7_byteAt_18 ?_
    refine x_goto (tgt := 23) X dX7_byteAt_19 (by decide) ?_
    refine x_sub [] rfl ?_
    exact w_X7_byteAt_j23 ret X ((u 30) (Int32.toNatClampNeg ((u 10 0) + p0))) u h
set_option maxRecDepth 100000 in
set_option maxHeartbeats 4000000 in
theorem c_X7_tableAt (l : Launch) (D : va_G) (g : Gw) (p0 : Int32) (u : St) (ret : Int32) (h : f_X7_tableAt p0 u = some ret) : metI l D g (wdM g) yX7_tableAt cX7_tableAt 1 .int rm_X7_tableAt [.int p0] u (ret, u) := by
  refine metI_of (own := RX7) (lv := [(0, .int p0)]) (by decide) rfl rfl (Nat.le_of_ble_eq_true rfl) (fun K hl9 hD9 X => ?_)
  subst hl9
  subst hD9
  unfold f_X7_tableAt at h
  refine x_iload_n X dX7_tableAt_0 rfl 0 rfl ?_
  refine x_iconst (v := 4) X dX7_tableAt_1 (by decide) ?_
  refine x_iadd X dX7_tableAt_2 ?_
  refine x_iload_n X dX7_tableAt_3 rfl 0 rfl ?_
  refine x_iconst (v := 4) X dX7_tableAt_4 (by decide) ?_
  refine x_irem X dX7_tableAt_5 (by decide) ?_
  refine x_isub X dX7_tableAt_6 ?_
  exact x_iret X (roE (Option.some.inj h)) dX7_tableAt_7
set_option maxRecDepth 100000 in
set_option maxHeartbeats 4000000 in
theorem c_X7_shortAt (l : Launch) (D : va_G) (g : Gw) (p0 : Int32) (u : St) (ret : Int32) (h : f_X7_shortAt p0 u = some ret) : metI l D g (wdM g) yX7_shortAt cX7_shortAt 2 .int rm_X7_shortAt [.ref (g.1 0), .int p0] u (ret, u) := by
  refine metI_of (own := RX7) (lv := [(0, .ref (g.1 0)), (1, .int p0)]) (by decide) rfl rfl (Nat.le_of_ble_eq_true rfl) (fun K hl9 hD9 X => ?_)
  subst hl9
  subst hD9
  unfold f_X7_shortAt at h
  refine x_sipush (v := 256) X dX7_shortAt_0 (by decide) ?_
  refine x_aload_n X dX7_shortAt_3 rfl 0 rfl ?_
  refine x_iload_n X dX7_shortAt_4 rfl 1 rfl ?_
  obtain ⟨q1, e1, h⟩ := bd h
  refine x_callR X [.int p0] [.int 256] (c_X7_byteAt K.l K.D g p0 u q1 e1) ok_X7_byteAt m_X7_229 0 rfl rfl rfl rfl (Nat.le_of_ble_eq_true rfl) ⟨Nat.zero_le _, Nat.zero_le _⟩ ⟨rfl, rfl, by decide, by decide⟩ dX7_shortAt_5 ?_
  refine x_imul X dX7_shortAt_8 ?_
  refine x_aload_n X dX7_shortAt_9 rfl 0 rfl ?_
  refine x_iload_n X dX7_shortAt_10 rfl 1 rfl ?_
  refine x_iconst (v := 1) X dX7_shortAt_11 (by decide) ?_
  refine x_iadd X dX7_shortAt_12 ?_
  obtain ⟨q2, e2, h⟩ := bd h
  refine x_callR X [.int (p0 + 1)] [.int (256 * q1)] (c_X7_byteAt K.l K.D g (p0 + 1) u q2 e2) ok_X7_byteAt m_X7_229 0 rfl rfl rfl rfl (Nat.le_of_ble_eq_true rfl) ⟨Nat.zero_le _, Nat.zero_le _⟩ ⟨rfl, rfl, by decide, by decide⟩ dX7_shortAt_13 ?_
  refine x_iadd X dX7_shortAt_16 ?_
  exact x_iret X (roE (Option.some.inj h)) dX7_shortAt_17
set_option maxRecDepth 100000 in
set_option maxHeartbeats 4000000 in
theorem c_X7_wordAt (l : Launch) (D : va_G) (g : Gw) (p0 : Int32) (u : St) (ret : Int32) (h : f_X7_wordAt p0 u = some ret) : metI l D g (wdM g) yX7_wordAt cX7_wordAt 2 .int rm_X7_wordAt [.ref (g.1 0), .int p0] u (ret, u) := by
  refine metI_of (own := RX7) (lv := [(0, .ref (g.1 0)), (1, .int p0)]) (by decide) rfl rfl (Nat.le_of_ble_eq_true rfl) (fun K hl9 hD9 X => ?_)
  subst hl9
  subst hD9
  unfold f_X7_wordAt at h
  refine x_aload_n X dX7_wordAt_0 rfl 0 rfl ?_
  refine x_iload_n X dX7_wordAt_1 rfl 1 rfl ?_
  obtain ⟨q1, e1, h⟩ := bd h
  refine x_callR X [.int p0] [] (c_X7_shortAt K.l K.D g p0 u q1 e1) ok_X7_shortAt m_X7_233 0 rfl rfl rfl rfl (Nat.le_of_ble_eq_true rfl) ⟨Nat.zero_le _, Nat.zero_le _⟩ ⟨rfl, rfl, by decide, by decide⟩ dX7_wordAt_2 ?_
  refine x_bipush (v := 16) X dX7_wordAt_5 (by decide) ?_
  refine x_ishl X dX7_wordAt_7 ?_
  refine x_aload_n X dX7_wordAt_8 rfl 0 rfl ?_
  refine x_iload_n X dX7_wordAt_9 rfl 1 rfl ?_
  refine x_iconst (v := 2) X dX7_wordAt_10 (by decide) ?_
  refine x_iadd X dX7_wordAt_11 ?_
  obtain ⟨q2, e2, h⟩ := bd h
  refine x_callR X [.int (p0 + 2)] [.int (q1 <<< ((16 : Int32) &&& 31))] (c_X7_shortAt K.l K.D g (p0 + 2) u q2 e2) ok_X7_shortAt m_X7_233 0 rfl rfl rfl rfl (Nat.le_of_ble_eq_true rfl) ⟨Nat.zero_le _, Nat.zero_le _⟩ ⟨rfl, rfl, by decide, by decide⟩ dX7_wordAt_12 ?_
  refine x_ior X dX7_wordAt_15 ?_
  exact x_iret X (roE (Option.some.inj h)) dX7_wordAt_16
set_option maxRecDepth 100000 in
set_option maxHeartbeats 4000000 in
theorem w_X7_size_j304 {K : Cx} {g : Gw} (ret : Int32) (X : XC K g cX7_size 8 RX7 (some .int) rm_X7_size) (z0 : Int32) (u : St) (h : f_X7_size_j304 z0 u = some ret) : XW K 0 0 8 (QI K g (wdM g) (ret, u)) (wdM g) u 304 [] [.int z0] := by
  unfold f_X7_size_j304 at h
  exact x_iret X (roE (Option.some.inj h)) dX7_size_304
set_option maxRecDepth 100000 in
set_option maxHeartbeats 4000000 in
theorem w_X7_size_j283 {K : Cx} {g : Gw} (ret : Int32) (X : XC K g cX7_size 8 RX7 (some .int) rm_X7_size) (u : St) (h : f_X7_size_j283 u = some ret) : XW K 0 0 8 (QI K g (wdM g) (ret, u)) (wdM g) u 283 [] [] := by
  unfold f_X7_size_j283 at h
  refine x_iconst (v := (-1)) X dX7_size_283 (by decide) ?_
  refine x_goto (tgt := 304) X dX7_size_284 (by decide) ?_
  exact w_X7_size_j304 ret X (-1) u h
set_option maxRecDepth 100000 in
set_option maxHeartbeats 4000000 in
theorem w_X7_size_j223 {K : Cx} {g : Gw} (ret : Int32) (X : XC K g cX7_size 8 RX7 (some .int) rm_X7_size) (z0 : Int32) (u : St) (h : f_X7_size_j223 z0 u = some ret) : XW K 0 0 8 (QI K g (wdM g) (ret, u)) (wdM g) u 223 [] [.int z0] := by
  unfold f_X7_size_j223 at h
  exact x_iret X (roE (Option.some.inj h)) dX7_size_223
set_option maxRecDepth 100000 in
set_option maxHeartbeats 4000000 in
theorem w_X7_size_j206 {K : Cx} {g : Gw} (ret : Int32) (X : XC K g cX7_size 8 RX7 (some .int) rm_X7_size) (u : St) (h : f_X7_size_j206 u = some ret) : XW K 0 0 8 (QI K g (wdM g) (ret, u)) (wdM g) u 206 [] [] := by
  unfold f_X7_size_j206 at h
  refine x_iconst (v := 4) X dX7_size_206 (by decide) ?_
  refine x_goto (tgt := 223) X dX7_size_207 (by decide) ?_
  exact w_X7_size_j223 ret X 4 u h
set_option maxRecDepth 100000 in
set_option maxHeartbeats 4000000 in
theorem c_X7_size (l : Launch) (D : va_G) (g : Gw) (p0 : Int32) (u : St) (ret : Int32) (h : f_X7_size p0 u = some ret) : metI l D g (wdM g) yX7_size cX7_size 8 .int rm_X7_size [.ref (g.1 0), .int p0] u (ret, u) := by
  refine metI_of (own := RX7) (lv := [(0, .ref (g.1 0)), (1, .int p0)]) (by decide) rfl rfl (Nat.le_of_ble_eq_true rfl) (fun K hl9 hD9 X => ?_)
  subst hl9
  subst hD9
  unfold f_X7_size at h
  refine x_aload_n X dX7_size_0 rfl 0 rfl ?_
  refine x_iload_n X dX7_size_1 rfl 1 rfl ?_
  obtain ⟨q1, e1, h⟩ := bd h
  refine x_callR X [.int p0] [] (c_X7_byteAt K.l K.D g p0 u q1 e1) ok_X7_byteAt m_X7_229 0 rfl rfl rfl rfl (Nat.le_of_ble_eq_true rfl) ⟨Nat.zero_le _, Nat.zero_le _⟩ ⟨rfl, rfl, by decide, by decide⟩ dX7_size_2 ?_
  by_cases c2_0 : q1 = 0 ∨ q1 = 1 ∨ q1 = 3 ∨ q1 = 87 ∨ q1 = 96 ∨ q1 = 172 ∨ q1 = 177 ∨ q1 = 191
  · replace h := if_t c2_0 h
    have k9 : XW K 0 0 8 (QI K g (wdM g) (ret, u)) (wdM g) u 168 [(0, .ref (g.1 0)), (1, .int p0)] [] := by
      refine x_iconst (v := 1) X dX7_size_168 (by decide) ?_
      exact x_iret X (roE (Option.some.inj h)) dX7_size_169
    rcases c2_0 with c2_0 | c2_0 | c2_0 | c2_0 | c2_0 | c2_0 | c2_0 | c2_0 <;> exact x_lookup (off := 163) (tgt := 168) X dX7_size_5 (by decide) (by rw [c2_0]; decide) (by decide) k9
  replace h := if_f c2_0 h
  by_cases c2_1 : q1 = 16 ∨ q1 = 18 ∨ q1 = 21 ∨ q1 = 54
  · replace h := if_t c2_1 h
    have k9 : XW K 0 0 8 (QI K g (wdM g) (ret, u)) (wdM g) u 170 [(0, .ref (g.1 0)), (1, .int p0)] [] := by
      refine x_iconst (v := 2) X dX7_size_170 (by decide) ?_
      exact x_iret X (roE (Option.some.inj h)) dX7_size_171
    rcases c2_1 with c2_1 | c2_1 | c2_1 | c2_1 <;> exact x_lookup (off := 165) (tgt := 170) X dX7_size_5 (by decide) (by rw [c2_1]; decide) (by decide) k9
  replace h := if_f c2_1 h
  by_cases c2_2 : q1 = 17 ∨ q1 = 132 ∨ q1 = 153 ∨ q1 = 167 ∨ q1 = 184
  · replace h := if_t c2_2 h
    have k9 : XW K 0 0 8 (QI K g (wdM g) (ret, u)) (wdM g) u 172 [(0, .ref (g.1 0)), (1, .int p0)] [] := by
      refine x_iconst (v := 3) X dX7_size_172 (by decide) ?_
      exact x_iret X (roE (Option.some.inj h)) dX7_size_173
    rcases c2_2 with c2_2 | c2_2 | c2_2 | c2_2 | c2_2 <;> exact x_lookup (off := 167) (tgt := 172) X dX7_size_5 (by decide) (by rw [c2_2]; decide) (by decide) k9
  replace h := if_f c2_2 h
  by_cases c2_3 : q1 = 170
  · replace h := if_t c2_3 h
    have k9 : XW K 0 0 8 (QI K g (wdM g) (ret, u)) (wdM g) u 224 [(0, .ref (g.1 0)), (1, .int p0)] [] := by
      refine x_iload_n X dX7_size_224 rfl 1 rfl ?_
      obtain ⟨q3, e3, h⟩ := bd h
      refine x_scallR X [.int p0] [] (c_X7_tableAt K.l K.D g p0 u q3 e3) ok_X7_tableAt m_X7_236 rfl rfl (Nat.le_of_ble_eq_true rfl) ⟨Nat.zero_le _, Nat.zero_le _⟩ ⟨rfl, rfl, by decide, by decide⟩ dX7_size_225 ?_
      refine x_istore_n (lv2 := [(3, .int q3), (0, .ref (g.1 0)), (1, .int p0)]) X dX7_size_228 rfl (by decide) rfl ?_
      refine x_iload_n X dX7_size_229 rfl 0 rfl ?_
      refine x_bipush (v := 12) X dX7_size_230 (by decide) ?_
      refine x_iadd X dX7_size_232 ?_
      refine x_aload_n X dX7_size_233 rfl 1 rfl ?_
      refine x_get (v := .int (u 11 0)) X 0 22 in_X7 rfl rfl (by decide) m_X7_206 rfl dX7_size_234 ?_
      refine x_icmp_le (tgt := 242) X dX7_size_237 (by decide) (fun c4 => ?_) (fun c4 => ?_)
      · replace h := if_t c4 h
        refine x_aload_n X dX7_size_242 rfl 1 rfl ?_
        refine x_iload_n X dX7_size_243 rfl 0 rfl ?_
        refine x_iconst (v := 4) X dX7_size_244 (by decide) ?_
        refine x_iadd X dX7_size_245 ?_
        obtain ⟨q5, e5, h⟩ := bd h
        refine x_callR X [.int (q3 + 4)] [] (c_X7_wordAt K.l K.D g (q3 + 4) u q5 e5) ok_X7_wordAt m_X7_239 0 rfl rfl rfl rfl (Nat.le_of_ble_eq_true rfl) ⟨Nat.zero_le _, Nat.zero_le _⟩ ⟨rfl, rfl, by decide, by decide⟩ dX7_size_246 ?_
        refine x_i2l X dX7_size_249 ?_
        refine x_lstore (lv2 := [(4, .long (q5.toInt64)), (3, .int q3), (0, .ref (g.1 0)), (1, .int p0)]) X dX7_size_250 (by decide) rfl ?_
        refine x_aload_n X dX7_size_252 rfl 2 rfl ?_
        refine x_iload_n X dX7_size_253 rfl 1 rfl ?_
        refine x_bipush (v := 8) X dX7_size_254 (by decide) ?_
        refine x_iadd X dX7_size_256 ?_
        obtain ⟨q6, e6, h⟩ := bd h
        refine x_callR X [.int (q3 + 8)] [] (c_X7_wordAt K.l K.D g (q3 + 8) u q6 e6) ok_X7_wordAt m_X7_239 0 rfl rfl rfl rfl (Nat.le_of_ble_eq_true rfl) ⟨Nat.zero_le _, Nat.zero_le _⟩ ⟨rfl, rfl, by decide, by decide⟩ dX7_size_257 ?_
        refine x_i2l X dX7_size_260 ?_
        refine x_lstore (lv2 := [(6, .long (q6.toInt64)), (4, .long (q5.toInt64)), (3, .int q3), (0, .ref (g.1 0)), (1, .int p0)]) X dX7_size_261 (by decide) rfl ?_
        refine x_lload X dX7_size_263 1 rfl ?_
        refine x_lload X dX7_size_265 0 rfl ?_
        refine x_lcmp X dX7_size_267 ?_
        refine x_if_gt (tgt := 283) X dX7_size_268 (by decide) (fun c7 => ?_) (fun c7 => ?_)
        · replace h := if_t c7 h
          refine x_sub [] rfl ?_
          exact w_X7_size_j283 ret X u h
        · replace h := if_f c7 h
          refine x_lload X dX7_size_271 0 rfl ?_
          refine x_lload X dX7_size_273 1 rfl ?_
          refine x_lsub X dX7_size_275 ?_
          refine x_ldc2 (v := 7) X m_X7_242 dX7_size_276 ?_
          refine x_lcmp X dX7_size_279 ?_
          refine x_if_le (tgt := 287) X dX7_size_280 (by decide) (fun c8 => ?_) (fun c8 => ?_)
          · replace h := if_t c8 h
            refine x_iload_n X dX7_size_287 rfl 2 rfl ?_
            refine x_bipush (v := 12) X dX7_size_288 (by decide) ?_
            refine x_iadd X dX7_size_290 ?_
            refine x_iconst (v := 4) X dX7_size_291 (by decide) ?_
            refine x_lload X dX7_size_292 0 rfl ?_
            refine x_lload X dX7_size_294 1 rfl ?_
            refine x_lsub X dX7_size_296 ?_
            refine x_lconst (v := 1) X dX7_size_297 (by decide) ?_
            refine x_ladd X dX7_size_298 ?_
            refine x_l2i X dX7_size_299 ?_
            refine x_imul X dX7_size_300 ?_
            refine x_iadd X dX7_size_301 ?_
            refine x_iload_n X dX7_size_302 rfl 4 rfl ?_
            refine x_isub X dX7_size_303 ?_
            refine x_sub [] rfl ?_
            exact w_X7_size_j304 ret X (((q3 + 12) + (4 * ((((q6.toInt64) - (q5.toInt64)) + 1).toInt32))) - p0) u h
          · replace h := if_f c8 h
            refine x_sub [] rfl ?_
            exact w_X7_size_j283 ret X u h
      · replace h := if_f c4 h
        refine x_iconst (v := (-1)) X dX7_size_240 (by decide) ?_
        exact x_iret X (roE (Option.some.inj h)) dX7_size_241
    exact x_lookup (off := 219) (tgt := 224) X dX7_size_5 (by decide) (by rw [c2_3]; decide) (by decide) k9
  replace h := if_f c2_3 h
  by_cases c2_4 : q1 = 196
  · replace h := if_t c2_4 h
    have k9 : XW K 0 0 8 (QI K g (wdM g) (ret, u)) (wdM g) u 174 [(0, .ref (g.1 0)), (1, .int p0)] [] := by
      refine x_aload_n X dX7_size_174 rfl 0 rfl ?_
      refine x_iload_n X dX7_size_175 rfl 1 rfl ?_
      refine x_iconst (v := 1) X dX7_size_176 (by decide) ?_
      refine x_iadd X dX7_size_177 ?_
      obtain ⟨q9, e9, h⟩ := bd h
      refine x_callR X [.int (p0 + 1)] [] (c_X7_byteAt K.l K.D g (p0 + 1) u q9 e9) ok_X7_byteAt m_X7_229 0 rfl rfl rfl rfl (Nat.le_of_ble_eq_true rfl) ⟨Nat.zero_le _, Nat.zero_le _⟩ ⟨rfl, rfl, by decide, by decide⟩ dX7_size_178 ?_
      refine x_istore_n (lv2 := [(2, .int q9), (0, .ref (g.1 0)), (1, .int p0)]) X dX7_size_181 rfl (by decide) rfl ?_
      refine x_iload_n X dX7_size_182 rfl 2 rfl ?_
      refine x_iconst (v := 1) X dX7_size_183 (by decide) ?_
      refine x_iadd X dX7_size_184 ?_
      refine x_aload_n X dX7_size_185 rfl 1 rfl ?_
      refine x_get (v := .int (u 11 0)) X 0 22 in_X7 rfl rfl (by decide) m_X7_206 rfl dX7_size_186 ?_
      refine x_icmp_lt (tgt := 194) X dX7_size_189 (by decide) (fun c10 => ?_) (fun c10 => ?_)
      · replace h := if_t c10 h
        refine x_iload_n X dX7_size_194 rfl 0 rfl ?_
        refine x_bipush (v := 21) X dX7_size_195 (by decide) ?_
        refine x_icmp_eq (tgt := 206) X dX7_size_197 (by decide) (fun c11 => ?_) (fun c11 => ?_)
        · replace h := if_t c11 h
          refine x_sub [] rfl ?_
          exact w_X7_size_j206 ret X u h
        · replace h := if_f c11 h
          refine x_iload_n X dX7_size_200 rfl 0 rfl ?_
          refine x_bipush (v := 54) X dX7_size_201 (by decide) ?_
          refine x_icmp_ne (tgt := 210) X dX7_size_203 (by decide) (fun c12 => ?_) (fun c12 => ?_)
          · replace h := if_f c12 h
            refine x_iload_n X dX7_size_210 rfl 0 rfl ?_
            refine x_sipush (v := 132) X dX7_size_211 (by decide) ?_
            refine x_icmp_ne (tgt := 222) X dX7_size_214 (by decide) (fun c13 => ?_) (fun c13 => ?_)
            · replace h := if_f c13 h
              refine x_iconst (v := (-1)) X dX7_size_222 (by decide) ?_
              refine x_sub [] rfl ?_
              exact w_X7_size_j223 ret X (-1) u h
            · replace h := if_t c13 h
              refine x_bipush (v := 6) X dX7_size_217 (by decide) ?_
              refine x_goto (tgt := 223) X dX7_size_219 (by decide) ?_
              refine x_sub [] rfl ?_
              exact w_X7_size_j223 ret X 6 u h
          · replace h := if_t c12 h
            refine x_sub [] rfl ?_
            exact w_X7_size_j206 ret X u h
      · replace h := if_f c10 h
        refine x_iconst (v := (-1)) X dX7_size_192 (by decide) ?_
        exact x_iret X (roE (Option.some.inj h)) dX7_size_193
    exact x_lookup (off := 169) (tgt := 174) X dX7_size_5 (by decide) (by rw [c2_4]; decide) (by decide) k9
  replace h := if_f c2_4 h
  refine x_lookup (off := 300) (tgt := 305) X dX7_size_5 (by decide) ((lv_osw (fun q9 => c2_0 (.inl q9)) (by decide)).trans ((lv_osw (fun q9 => c2_0 (.inr (.inl q9))) (by decide)).trans ((lv_osw (fun q9 => c2_0 (.inr (.inr (.inl q9)))) (by decide)).trans ((lv_osw (fun q9 => c2_1 (.inl q9)) (by decide)).trans ((lv_osw (fun q9 => c2_2 (.inl q9)) (by decide)).trans ((lv_osw (fun q9 => c2_1 (.inr (.inl q9))) (by decide)).trans ((lv_osw (fun q9 => c2_1 (.inr (.inr (.inl q9)))) (by decide)).trans ((lv_osw (fun q9 => c2_1 (.inr (.inr (.inr q9)))) (by decide)).trans ((lv_osw (fun q9 => c2_0 (.inr (.inr (.inr (.inl q9))))) (by decide)).trans ((lv_osw (fun q9 => c2_0 (.inr (.inr (.inr (.inr (.inl q9)))))) (by decide)).trans ((lv_osw (fun q9 => c2_2 (.inr (.inl q9))) (by decide)).trans ((lv_osw (fun q9 => c2_2 (.inr (.inr (.inl q9)))) (by decide)).trans ((lv_osw (fun q9 => c2_2 (.inr (.inr (.inr (.inl q9))))) (by decide)).trans ((lv_osw c2_3 (by decide)).trans ((lv_osw (fun q9 => c2_0 (.inr (.inr (.inr (.inr (.inr (.inl q9))))))) (by decide)).trans ((lv_osw (fun q9 => c2_0 (.inr (.inr (.inr (.inr (.inr (.inr (.inl q9)))))))) (by decide)).trans ((lv_osw (fun q9 => c2_2 (.inr (.inr (.inr (.inr q9))))) (by decide)).trans ((lv_osw (fun q9 => c2_0 (.inr (.inr (.inr (.inr (.inr (.inr (.inr q9)))))))) (by decide)).trans ((lv_osw c2_4 (by decide)).trans rfl))))))))))))))))))) (by decide) ?_
  refine x_iconst (v := (-1)) X dX7_size_305 (by decide) ?_
  exact x_iret X (roE (Option.some.inj h)) dX7_size_306
set_option maxRecDepth 100000 in
set_option maxHeartbeats 4000000 in
theorem w_X7_operandFits_j100 {K : Cx} {g : Gw} (ret : Int32) (X : XC K g cX7_operandFits 3 RX7 (some .boolean) rm_X7_operandFits) (z0 : Int32) (u : St) (h : f_X7_operandFits_j100 z0 u = some ret) : XW K 0 0 3 (QI K g (wdM g) (ret, u)) (wdM g) u 100 [] [.int z0] := by
  unfold f_X7_operandFits_j100 at h
  obtain ⟨b6, h⟩ := bchk_some h
  exact x_zret X b6 (roE (Option.some.inj h)) dX7_operandFits_100
set_option maxRecDepth 100000 in
set_option maxHeartbeats 4000000 in
theorem w_X7_operandFits_j95 {K : Cx} {g : Gw} (ret : Int32) (X : XC K g cX7_operandFits 3 RX7 (some .boolean) rm_X7_operandFits) (u : St) (h : f_X7_operandFits_j95 u = some ret) : XW K 0 0 3 (QI K g (wdM g) (ret, u)) (wdM g) u 95 [] [] := by
  unfold f_X7_operandFits_j95 at h
  refine x_iconst (v := 1) X dX7_operandFits_95 (by decide) ?_
  refine x_goto (tgt := 100) X dX7_operandFits_96 (by decide) ?_
  exact w_X7_operandFits_j100 ret X 1 u h
set_option maxRecDepth 100000 in
set_option maxHeartbeats 4000000 in
theorem w_X7_operandFits_j120 {K : Cx} {g : Gw} (ret : Int32) (X : XC K g cX7_operandFits 3 RX7 (some .boolean) rm_X7_operandFits) (z0 : Int32) (u : St) (h : f_X7_operandFits_j120 z0 u = some ret) : XW K 0 0 3 (QI K g (wdM g) (ret, u)) (wdM g) u 120 [] [.int z0] := by
  unfold f_X7_operandFits_j120 at h
  obtain ⟨b12, h⟩ := bchk_some h
  exact x_zret X b12 (roE (Option.some.inj h)) dX7_operandFits_120
set_option maxRecDepth 100000 in
set_option maxHeartbeats 4000000 in
theorem w_X7_operandFits_j154 {K : Cx} {g : Gw} (ret : Int32) (X : XC K g cX7_operandFits 3 RX7 (some .boolean) rm_X7_operandFits) (z0 : Int32) (u : St) (h : f_X7_operandFits_j154 z0 u = some ret) : XW K 0 0 3 (QI K g (wdM g) (ret, u)) (wdM g) u 154 [] [.int z0] := by
  unfold f_X7_operandFits_j154 at h
  obtain ⟨b18, h⟩ := bchk_some h
  exact x_zret X b18 (roE (Option.some.inj h)) dX7_operandFits_154
set_option maxRecDepth 100000 in
set_option maxHeartbeats 4000000 in
theorem c_X7_operandFits (l : Launch) (D : va_G) (g : Gw) (p0 : Int32) (u : St) (ret : Int32) (h : f_X7_operandFits p0 u = some ret) : metI l D g (wdM g) yX7_operandFits cX7_operandFits 3 .boolean rm_X7_operandFits [.ref (g.1 0), .int p0] u (ret, u) := by
  refine metI_of (own := RX7) (lv := [(0, .ref (g.1 0)), (1, .int p0)]) (by decide) rfl rfl (Nat.le_of_ble_eq_true rfl) (fun K hl9 hD9 X => ?_)
  subst hl9
  subst hD9
  unfold f_X7_operandFits at h
  refine x_aload_n X dX7_operandFits_0 rfl 0 rfl ?_
  refine x_iload_n X dX7_operandFits_1 rfl 1 rfl ?_
  obtain ⟨q1, e1, h⟩ := bd h
  refine x_callR X [.int p0] [] (c_X7_byteAt K.l K.D g p0 u q1 e1) ok_X7_byteAt m_X7_229 0 rfl rfl rfl rfl (Nat.le_of_ble_eq_true rfl) ⟨Nat.zero_le _, Nat.zero_le _⟩ ⟨rfl, rfl, by decide, by decide⟩ dX7_operandFits_2 ?_
  refine x_istore_n (lv2 := [(2, .int q1), (0, .ref (g.1 0)), (1, .int p0)]) X dX7_operandFits_5 rfl (by decide) rfl ?_
  refine x_iload_n X dX7_operandFits_6 rfl 0 rfl ?_
  by_cases c2_0 : q1 = 18
  · replace h := if_t c2_0 h
    have k9 : XW K 0 0 3 (QI K g (wdM g) (ret, u)) (wdM g) u 64 [(2, .int q1), (0, .ref (g.1 0)), (1, .int p0)] [] := by
      refine x_aload_n X dX7_operandFits_64 rfl 1 rfl ?_
      refine x_aload_n X dX7_operandFits_65 rfl 1 rfl ?_
      refine x_iload_n X dX7_operandFits_66 rfl 2 rfl ?_
      refine x_iconst (v := 1) X dX7_operandFits_67 (by decide) ?_
      refine x_iadd X dX7_operandFits_68 ?_
      obtain ⟨q3, e3, h⟩ := bd h
      refine x_callR X [.int (p0 + 1)] [.ref (g.1 0)] (c_X7_byteAt K.l K.D g (p0 + 1) u q3 e3) ok_X7_byteAt m_X7_229 0 rfl rfl rfl rfl (Nat.le_of_ble_eq_true rfl) ⟨Nat.zero_le _, Nat.zero_le _⟩ ⟨rfl, rfl, by decide, by decide⟩ dX7_operandFits_69 ?_
      refine x_iconst (v := 3) X dX7_operandFits_72 (by decide) ?_
      obtain ⟨q4, e4, h⟩ := bd h
      refine x_callR X [.int q3, .int 3] [] (c_X7_is K.l K.D g q3 3 u q4 e4) ok_X7_is m_X7_143 0 rfl rfl rfl rfl (Nat.le_of_ble_eq_true rfl) ⟨Nat.zero_le _, Nat.zero_le _⟩ ⟨rfl, rfl, by decide, by decide⟩ dX7_operandFits_73 ?_
      refine x_if_ne (tgt := 95) X dX7_operandFits_76 (by decide) (fun c5 => ?_) (fun c5 => ?_)
      · replace h := if_f c5 h
        refine x_sub [] rfl ?_
        exact w_X7_operandFits_j95 ret X u h
      · replace h := if_t c5 h
        refine x_aload_n X dX7_operandFits_79 rfl 1 rfl ?_
        refine x_aload_n X dX7_operandFits_80 rfl 1 rfl ?_
        refine x_iload_n X dX7_operandFits_81 rfl 2 rfl ?_
        refine x_iconst (v := 1) X dX7_operandFits_82 (by decide) ?_
        refine x_iadd X dX7_operandFits_83 ?_
        obtain ⟨q7, e7, h⟩ := bd h
        refine x_callR X [.int (p0 + 1)] [.ref (g.1 0)] (c_X7_byteAt K.l K.D g (p0 + 1) u q7 e7) ok_X7_byteAt m_X7_229 0 rfl rfl rfl rfl (Nat.le_of_ble_eq_true rfl) ⟨Nat.zero_le _, Nat.zero_le _⟩ ⟨rfl, rfl, by decide, by decide⟩ dX7_operandFits_84 ?_
        refine x_bipush (v := 8) X dX7_operandFits_87 (by decide) ?_
        obtain ⟨q8, e8, h⟩ := bd h
        refine x_callR X [.int q7, .int 8] [] (c_X7_is K.l K.D g q7 8 u q8 e8) ok_X7_is m_X7_143 0 rfl rfl rfl rfl (Nat.le_of_ble_eq_true rfl) ⟨Nat.zero_le _, Nat.zero_le _⟩ ⟨rfl, rfl, by decide, by decide⟩ dX7_operandFits_89 ?_
        refine x_if_eq (tgt := 99) X dX7_operandFits_92 (by decide) (fun c9 => ?_) (fun c9 => ?_)
        · replace h := if_t c9 h
          refine x_iconst (v := 0) X dX7_operandFits_99 (by decide) ?_
          refine x_sub [] rfl ?_
          exact w_X7_operandFits_j100 ret X 0 u h
        · replace h := if_f c9 h
          refine x_sub [] rfl ?_
          exact w_X7_operandFits_j95 ret X u h
    exact x_lookup (off := 57) (tgt := 64) X dX7_operandFits_7 (by decide) (by rw [c2_0]; decide) (by decide) k9
  replace h := if_f c2_0 h
  by_cases c2_1 : q1 = 21 ∨ q1 = 54 ∨ q1 = 132
  · replace h := if_t c2_1 h
    have k9 : XW K 0 0 3 (QI K g (wdM g) (ret, u)) (wdM g) u 101 [(2, .int q1), (0, .ref (g.1 0)), (1, .int p0)] [] := by
      refine x_aload_n X dX7_operandFits_101 rfl 1 rfl ?_
      refine x_iload_n X dX7_operandFits_102 rfl 2 rfl ?_
      refine x_iconst (v := 1) X dX7_operandFits_103 (by decide) ?_
      refine x_iadd X dX7_operandFits_104 ?_
      obtain ⟨q10, e10, h⟩ := bd h
      refine x_callR X [.int (p0 + 1)] [] (c_X7_byteAt K.l K.D g (p0 + 1) u q10 e10) ok_X7_byteAt m_X7_229 0 rfl rfl rfl rfl (Nat.le_of_ble_eq_true rfl) ⟨Nat.zero_le _, Nat.zero_le _⟩ ⟨rfl, rfl, by decide, by decide⟩ dX7_operandFits_105 ?_
      refine x_aload_n X dX7_operandFits_108 rfl 1 rfl ?_
      refine x_get (v := .int (u 12 0)) X 0 23 in_X7 rfl rfl (by decide) m_X7_201 rfl dX7_operandFits_109 ?_
      refine x_icmp_ge (tgt := 119) X dX7_operandFits_112 (by decide) (fun c11 => ?_) (fun c11 => ?_)
      · replace h := if_t c11 h
        refine x_iconst (v := 0) X dX7_operandFits_119 (by decide) ?_
        refine x_sub [] rfl ?_
        exact w_X7_operandFits_j120 ret X 0 u h
      · replace h := if_f c11 h
        refine x_iconst (v := 1) X dX7_operandFits_115 (by decide) ?_
        refine x_goto (tgt := 120) X dX7_operandFits_116 (by decide) ?_
        refine x_sub [] rfl ?_
        exact w_X7_operandFits_j120 ret X 1 u h
    rcases c2_1 with c2_1 | c2_1 | c2_1 <;> exact x_lookup (off := 94) (tgt := 101) X dX7_operandFits_7 (by decide) (by rw [c2_1]; decide) (by decide) k9
  replace h := if_f c2_1 h
  by_cases c2_2 : q1 = 184
  · replace h := if_t c2_2 h
    have k9 : XW K 0 0 3 (QI K g (wdM g) (ret, u)) (wdM g) u 121 [(2, .int q1), (0, .ref (g.1 0)), (1, .int p0)] [] := by
      refine x_aload_n X dX7_operandFits_121 rfl 1 rfl ?_
      refine x_aload_n X dX7_operandFits_122 rfl 1 rfl ?_
      refine x_iload_n X dX7_operandFits_123 rfl 2 rfl ?_
      refine x_iconst (v := 1) X dX7_operandFits_124 (by decide) ?_
      refine x_iadd X dX7_operandFits_125 ?_
      obtain ⟨q13, e13, h⟩ := bd h
      refine x_callR X [.int (p0 + 1)] [.ref (g.1 0)] (c_X7_shortAt K.l K.D g (p0 + 1) u q13 e13) ok_X7_shortAt m_X7_233 0 rfl rfl rfl rfl (Nat.le_of_ble_eq_true rfl) ⟨Nat.zero_le _, Nat.zero_le _⟩ ⟨rfl, rfl, by decide, by decide⟩ dX7_operandFits_126 ?_
      refine x_bipush (v := 10) X dX7_operandFits_129 (by decide) ?_
      obtain ⟨q14, e14, h⟩ := bd h
      refine x_callR X [.int q13, .int 10] [] (c_X7_is K.l K.D g q13 10 u q14 e14) ok_X7_is m_X7_143 0 rfl rfl rfl rfl (Nat.le_of_ble_eq_true rfl) ⟨Nat.zero_le _, Nat.zero_le _⟩ ⟨rfl, rfl, by decide, by decide⟩ dX7_operandFits_131 ?_
      obtain ⟨b15, h⟩ := bchk_some h
      exact x_zret X b15 (roE (Option.some.inj h)) dX7_operandFits_134
    exact x_lookup (off := 114) (tgt := 121) X dX7_operandFits_7 (by decide) (by rw [c2_2]; decide) (by decide) k9
  replace h := if_f c2_2 h
  by_cases c2_3 : q1 = 196
  · replace h := if_t c2_3 h
    have k9 : XW K 0 0 3 (QI K g (wdM g) (ret, u)) (wdM g) u 135 [(2, .int q1), (0, .ref (g.1 0)), (1, .int p0)] [] := by
      refine x_aload_n X dX7_operandFits_135 rfl 1 rfl ?_
      refine x_iload_n X dX7_operandFits_136 rfl 2 rfl ?_
      refine x_iconst (v := 2) X dX7_operandFits_137 (by decide) ?_
      refine x_iadd X dX7_operandFits_138 ?_
      obtain ⟨q16, e16, h⟩ := bd h
      refine x_callR X [.int (p0 + 2)] [] (c_X7_shortAt K.l K.D g (p0 + 2) u q16 e16) ok_X7_shortAt m_X7_233 0 rfl rfl rfl rfl (Nat.le_of_ble_eq_true rfl) ⟨Nat.zero_le _, Nat.zero_le _⟩ ⟨rfl, rfl, by decide, by decide⟩ dX7_operandFits_139 ?_
      refine x_aload_n X dX7_operandFits_142 rfl 1 rfl ?_
      refine x_get (v := .int (u 12 0)) X 0 23 in_X7 rfl rfl (by decide) m_X7_201 rfl dX7_operandFits_143 ?_
      refine x_icmp_ge (tgt := 153) X dX7_operandFits_146 (by decide) (fun c17 => ?_) (fun c17 => ?_)
      · replace h := if_t c17 h
        refine x_iconst (v := 0) X dX7_operandFits_153 (by decide) ?_
        refine x_sub [] rfl ?_
        exact w_X7_operandFits_j154 ret X 0 u h
      · replace h := if_f c17 h
        refine x_iconst (v := 1) X dX7_operandFits_149 (by decide) ?_
        refine x_goto (tgt := 154) X dX7_operandFits_150 (by decide) ?_
        refine x_sub [] rfl ?_
        exact w_X7_operandFits_j154 ret X 1 u h
    exact x_lookup (off := 128) (tgt := 135) X dX7_operandFits_7 (by decide) (by rw [c2_3]; decide) (by decide) k9
  replace h := if_f c2_3 h
  refine x_lookup (off := 148) (tgt := 155) X dX7_operandFits_7 (by decide) ((lv_osw c2_0 (by decide)).trans ((lv_osw (fun q9 => c2_1 (.inl q9)) (by decide)).trans ((lv_osw (fun q9 => c2_1 (.inr (.inl q9))) (by decide)).trans ((lv_osw (fun q9 => c2_1 (.inr (.inr q9))) (by decide)).trans ((lv_osw c2_2 (by decide)).trans ((lv_osw c2_3 (by decide)).trans rfl)))))) (by decide) ?_
  refine x_iconst (v := 1) X dX7_operandFits_155 (by decide) ?_
  exact x_zret X rfl (roE (Option.some.inj h)) dX7_operandFits_156
