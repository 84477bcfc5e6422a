abbrev H_X7_count_30 (K : Cx) (g : Gw) (u : St) (ret : Int32) (a : Int32 × Int32) : Prop := XW K 0 0 4 (QI K g (wdM g) (ret, u)) (wdM g) u 30 [(0, .ref (g.1 0)), (2, .int a.1), (3, .int a.2)] []
abbrev E_X7_count_30 (K : Cx) (g : Gw) (u : St) (ret : Int32) (q : (Int32) ⊕ (Int32)) : Prop := Sum.elim (fun q => q = ret) (fun q => XW K 0 0 4 (QI K g (wdM g) (ret, u)) (wdM g) u 54 [(2, .int q)] []) q
set_option maxRecDepth 100000 in
set_option maxHeartbeats 4000000 in
theorem w_X7_count_j48_30 {K : Cx} {g : Gw} (ret : Int32) (X : XC K g cX7_count 4 RX7 (some .int) rm_X7_count) (x2 : Int32) (x3 : Int32) (u : St) (r : ((Int32) ⊕ (Int32)) ⊕ (Int32 × Int32)) (h : f_X7_count_j48_30 x2 x3 u = some r) (k0 : ∀ q, r = .inl q → E_X7_count_30 K g u ret q) (k1 : ∀ q, r = .inr q → H_X7_count_30 K g u ret q) : XW K 0 0 4 (QI K g (wdM g) (ret, u)) (wdM g) u 48 [(0, .ref (g.1 0)), (2, .int x2), (3, .int x3)] [] := by
  unfold f_X7_count_j48_30 at h
  refine x_iinc (v := (x3 + 1)) (lv2 := [(3, .int (x3 + 1)), (0, .ref (g.1 0)), (2, .int x2)]) X dX7_count_48 2 rfl rfl (by decide) rfl ?_
  refine x_goto (tgt := 30) X dX7_count_51 (by decide) ?_
  refine x_sub [1, 2, 0] rfl ?_
  have h9 := k1 _ (Option.some.inj h).symm
  exact h9
set_option maxRecDepth 100000 in
set_option maxHeartbeats 4000000 in
theorem w_X7_count_b30 {K : Cx} {g : Gw} (u : St) (ret : Int32) (X : XC K g cX7_count 4 RX7 (some .int) rm_X7_count) (a : Int32 × Int32) (r : ((Int32) ⊕ (Int32)) ⊕ (Int32 × Int32)) (h : f_X7_count_b30 u a = some r) (k0 : ∀ q, r = .inl q → E_X7_count_30 K g u ret q) (k1 : ∀ q, r = .inr q → H_X7_count_30 K g u ret q) : H_X7_count_30 K g u ret a := by
  unfold f_X7_count_b30 at h
  show XW K 0 0 4 (QI K g (wdM g) (ret, u)) (wdM g) u 30 [(0, .ref (g.1 0)), (2, .int a.1), (3, .int a.2)] []
  refine x_iload_n X dX7_count_30 rfl 2 rfl ?_
  refine x_bipush (v := 29) X dX7_count_31 (by decide) ?_
  refine x_icmp_ge (tgt := 54) X dX7_count_33 (by decide) (fun c4 => ?_) (fun c4 => ?_)
  · replace h := if_t c4 h
    refine x_sub [1] rfl ?_
    have h9 := k0 _ (Option.some.inj h).symm
    exact h9
  · replace h := if_f c4 h
    refine x_aload_n X dX7_count_36 rfl 0 rfl ?_
    refine x_get (v := .ref (g.1 2)) X 0 2 in_X7 rfl rfl (by decide) m_X7_13 rfl dX7_count_37 ?_
    refine x_iload_n X dX7_count_40 rfl 2 rfl ?_
    obtain ⟨i5, h⟩ := chk_some h
    refine x_iald (f := (u 31)) X 2 0 rfl rfl i5 dX7_count_41 ?_
    refine x_if_le (tgt := 48) X dX7_count_42 (by decide) (fun c6 => ?_) (fun c6 => ?_)
    · replace h := if_t c6 h
      exact w_X7_count_j48_30 ret X a.1 a.2 u r h k0 k1
    · replace h := if_f c6 h
      refine x_iinc (v := (a.1 + 1)) (lv2 := [(2, .int (a.1 + 1)), (0, .ref (g.1 0)), (3, .int a.2)]) X dX7_count_45 1 rfl rfl (by decide) rfl ?_
      refine x_sub [1, 0, 2] rfl ?_
      exact w_X7_count_j48_30 ret X (a.1 + 1) a.2 u r h k0 k1
set_option maxRecDepth 100000 in
set_option maxHeartbeats 4000000 in
theorem c_X7_count (l : Launch) (D : va_G) (g : Gw) (p0 : Int32) (u : St) (ret : Int32) (h : f_X7_count p0 u = some ret) : metI l D g (wdM g) yX7_count cX7_count 4 .int rm_X7_count [.ref (g.1 0), .int p0] u (ret, u) := by
  refine metI_of (own := RX7) (lv := [(0, .ref (g.1 0)), (1, .int p0)]) (by decide) rfl rfl (Nat.le_of_ble_eq_true rfl) (fun K hl9 hD9 X => ?_)
  subst hl9
  subst hD9
  unfold f_X7_count at h
  refine x_iload_n X dX7_count_0 rfl 1 rfl ?_
  refine x_if_ne (tgt := 9) X dX7_count_1 (by decide) (fun c1 => ?_) (fun c1 => ?_)
  · replace h := if_f c1 h
    refine x_iload_n X dX7_count_9 rfl 1 rfl ?_
    refine x_iconst (v := 2) X dX7_count_10 (by decide) ?_
    refine x_icmp_ne (tgt := 19) X dX7_count_11 (by decide) (fun c2 => ?_) (fun c2 => ?_)
    · replace h := if_f c2 h
      refine x_iload_n X dX7_count_19 rfl 1 rfl ?_
      refine x_iconst (v := 1) X dX7_count_20 (by decide) ?_
      refine x_icmp_eq (tgt := 26) X dX7_count_21 (by decide) (fun c3 => ?_) (fun c3 => ?_)
      · replace h := if_t c3 h
        refine x_iconst (v := 0) X dX7_count_26 (by decide) ?_
        refine x_istore_n (lv2 := [(2, .int 0), (0, .ref (g.1 0)), (1, .int p0)]) X dX7_count_27 rfl (by decide) rfl ?_
        refine x_iconst (v := 1) X dX7_count_28 (by decide) ?_
        refine x_istore_n (lv2 := [(3, .int 1), (2, .int 0), (0, .ref (g.1 0)), (1, .int p0)]) X dX7_count_29 rfl (by decide) rfl ?_
        refine x_sub [2, 1, 0] rfl ?_
        obtain ⟨q70, e7, h⟩ := bd h
        refine loopF_w (WH := H_X7_count_30 K g u ret) (KB := E_X7_count_30 K g u ret) (fun a9 r9 h9 k8 k7 => w_X7_count_b30 u ret X a9 r9 h9 k8 k7) FU (0, 1) q70 e7 ?_
        rcases q70 with q7 | q7
        · replace h := sl h
          exact (Option.some.inj h)
        · replace h := sr h
          show XW K 0 0 4 (QI K g (wdM g) (ret, u)) (wdM g) u 54 [(2, .int q7)] []
          refine x_iload_n X dX7_count_54 rfl 0 rfl ?_
          exact x_iret X (roE (Option.some.inj h)) dX7_count_55
      · replace h := if_f c3 h
        refine x_iconst (v := (-1)) X dX7_count_24 (by decide) ?_
        exact x_iret X (roE (Option.some.inj h)) dX7_count_25
    · replace h := if_t c2 h
      refine x_aload_n X dX7_count_14 rfl 0 rfl ?_
      refine x_get (v := .int (u 1 0)) X 0 3 in_X7 rfl rfl (by decide) m_X7_291 rfl dX7_count_15 ?_
      exact x_iret X (roE (Option.some.inj h)) dX7_count_18
  · replace h := if_t c1 h
    refine x_aload_n X dX7_count_4 rfl 0 rfl ?_
    refine x_get (v := .int (u 0 0)) X 0 1 in_X7 rfl rfl (by decide) m_X7_59 rfl dX7_count_5 ?_
    exact x_iret X (roE (Option.some.inj h)) dX7_count_8
