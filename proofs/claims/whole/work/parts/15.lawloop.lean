/-- what the pure part owes: related states give the same answers and related states -/
def OPS (RR : St → St → Prop) : Prop := ∀ u v, RR u v →
  (∀ (a0 : Int32) (a1 : Int32), ∃ r u2 v2, f_X6_put a0 a1 u = some (r, u2) ∧ f_X7_put a0 a1 v = some (r, v2) ∧ RR u2 v2) ∧
  (∀ (a0 : Int32) (a1 : Int64), ∃ r u2 v2, f_X6_text a0 a1 u = some (r, u2) ∧ f_X7_text a0 a1 v = some (r, v2) ∧ RR u2 v2) ∧
  (∀ (a0 : Int32) (a1 : Int32), ∃ r u2 v2, f_X6_patch a0 a1 u = some (r, u2) ∧ f_X7_patch a0 a1 v = some (r, v2) ∧ RR u2 v2) ∧
  (∀ (a0 : Int32) (a1 : Int32), ∃ r u2 v2, f_X6_cut a0 a1 u = some (r, u2) ∧ f_X7_cut a0 a1 v = some (r, v2) ∧ RR u2 v2) ∧
  (∀ (a0 : Int32) (a1 : Int32), ∃ r u2 v2, f_X6_twice a0 a1 u = some (r, u2) ∧ f_X7_twice a0 a1 v = some (r, v2) ∧ RR u2 v2) ∧
  (∃ r u2 v2, f_X6_clear u = some (r, u2) ∧ f_X7_clear v = some (r, v2) ∧ RR u2 v2) ∧
  (∃ r u2 v2, f_X6_judge u = some (r, u2) ∧ f_X7_judge v = some (r, v2) ∧ RR u2 v2) ∧
  (∃ r, f_X6_place u = some r ∧ f_X7_place v = some r) ∧
  (∃ r u2 v2, f_X6_shrink u = some (r, u2) ∧ f_X7_shrink v = some (r, v2) ∧ RR u2 v2) ∧
  (∀ (a0 : Int32), ∃ r, f_X6_at a0 u = some r ∧ f_X7_at a0 v = some r) ∧
  (∀ (a0 : Int32), ∃ r, f_X6_read a0 u = some r ∧ f_X7_read a0 v = some r) ∧
  (∀ (a0 : Int32), ∃ r, f_X6_found a0 u = some r ∧ f_X7_found a0 v = some r) ∧
  (∀ (a0 : Int32), ∃ r, f_X6_count a0 u = some r ∧ f_X7_count a0 v = some r)
theorem law_gt {k L : Nat} (h : L + 4 ≤ k + 0) (hk : k ≤ L + 4) (hL : L ≤ 2048) : Int32.ofNat L - 4 < nI k := by
  have h1 := pk_sub_toInt (a := L) (b := 4) (by omega) (by omega)
  rw [Int32.lt_iff_toInt_lt, nI_toInt (by omega)]
  show (nI L - nI 4).toInt < _
  rw [h1]
  omega
theorem law_le {k L : Nat} (hk : k ≤ L + 4) (hL : L ≤ 2048) (h : ¬ Int32.ofNat L - 4 < nI k) : k + 4 ≤ L := by
  have h1 := pk_sub_toInt (a := L) (b := 4) (by omega) (by omega)
  rw [Int32.lt_iff_toInt_lt, nI_toInt (by omega)] at h
  have h2 : ¬ (nI L - nI 4).toInt < (k : Int) := h
  rw [h1] at h2
  omega
theorem law_end {K : Cx} {g : Gw} {b : Nat} {w : St × St} {lv : List (Nat × Value)} (X : XC K g code 4 R_law ret room_1) (hargs : K.args = #[Value.ref b]) (hKA : K.A = fun q => K.s.heap.size ≤ q) : XW K 32 3550 4 (lw_Z K.below #[Value.ref b] K.s) (wdL g) w 445 lv [] := by
  refine x_iconst (v := 1) X dL_445 (by decide) ?_
  intro H locs ls hl hP hD hS
  have hf : ∀ q ∈ locs, K.s.heap.size ≤ q.base := fun q hq => by have := hS.2.2 q hq; rw [hKA] at this; exact this
  have hR : K.R = room_1 := X.2.2.2.2.2.2
  have z := lw_ret (p := K.p) (l := K.l) (e := K.e) (s := K.s) (m := K.m) (below := K.below) (meth := K.meth) (c := K.c) (b := b) (H := H) (ls := ls) X.1.1 X.1.2.1 X.2.2.2.2.1 X.2.2.2.2.2.1 dL_446
  rw [hR, hargs]
  exact va_forget hf z
set_option maxRecDepth 100000 in
set_option maxHeartbeats 8000000 in
theorem law_loop {K : Cx} {g : Gw} {b L : Nat} {xs : Nat → Int32} {RR : St → St → Prop} (ops : OPS RR) (hL : L ≤ 2048) (X : XC K g code 4 R_law ret room_1) (hargs : K.args = #[Value.ref b]) (hKA : K.A = fun q => K.s.heap.size ≤ q) (hX : va_X b L xs K.s K.s.heap) (hbl : b < K.s.heap.size) : ∀ (n k : Nat) (w : St × St), L + 4 ≤ k + n → k ≤ L + 4 → RR w.1 w.2 → XW K 32 3550 4 (lw_Z K.below #[Value.ref b] K.s) (wdL g) w 18 [(0, .ref b), (1, .ref (g.1 0)), (2, .ref (g.1 50)), (3, .int (nI k))] [] := by
  have hbA : ¬ K.A b := by rw [hKA]; exact Nat.not_le.mpr hbl
  intro n
  induction n with
  | zero =>
    intro k w h1 h2 hR
    refine x_iload_n X dL_18 rfl 3 rfl ?_
    refine x_aload_n X dL_19 rfl 0 rfl ?_
    refine x_slen X hX hbl hbA dL_20 ?_
    refine x_iconst (v := 4) X dL_21 (by decide) ?_
    refine x_isub X dL_22 ?_
    refine x_icmp_gt (tgt := 445) X dL_23 (by decide) (fun c1 => ?_) (fun c1 => absurd (law_gt (by omega) (by omega) (by omega)) c1)
    exact law_end X hargs hKA
  | succ n ih =>
    intro k w h1 h2 hR
    refine x_iload_n X dL_18 rfl 3 rfl ?_
    refine x_aload_n X dL_19 rfl 0 rfl ?_
    refine x_slen X hX hbl hbA dL_20 ?_
    refine x_iconst (v := 4) X dL_21 (by decide) ?_
    refine x_isub X dL_22 ?_
    refine x_icmp_gt (tgt := 445) X dL_23 (by decide) (fun c1 => law_end X hargs hKA) (fun c1 => ?_)
    have hk : k + 4 ≤ L := law_le (by omega) (by omega) c1
    have i0 : vp_in (nI k) L := vp_in_nI (by omega) (by omega)
    have i1 : vp_in (nI k + 1) L := by rw [nI_1]; exact vp_in_nI (by omega) (by omega)
    have i2 : vp_in (nI k + 2) L := by rw [show (2 : Int32) = nI 2 from rfl, nI_add]; exact vp_in_nI (by omega) (by omega)
    have i3 : vp_in (nI k + 3) L := by rw [show (3 : Int32) = nI 3 from rfl, nI_add]; exact vp_in_nI (by omega) (by omega)
    have fin : ∀ w2 : St × St, RR w2.1 w2.2 → XW K 32 3550 4 (lw_Z K.below #[Value.ref b] K.s) (wdL g) w2 439 [(0, .ref b), (1, .ref (g.1 0)), (2, .ref (g.1 50)), (3, .int (nI k))] [] := by
      intro w2 hR2
      refine x_iinc (v := nI k + 4) (lv2 := [(3, .int (nI k + 4)), (0, .ref b), (1, .ref (g.1 0)), (2, .ref (g.1 50))]) X dL_439 3 rfl rfl (by decide) rfl ?_
      refine x_goto (tgt := 18) X dL_442 (by decide) ?_
      rw [show (4 : Int32) = nI 4 from rfl, nI_add]
      refine x_sub [1, 2, 3, 0] rfl ?_
      exact ih (k + 4) w2 (by omega) (by omega) hR2
    obtain ⟨o_put, o_text, o_patch, o_cut, o_twice, o_clear, o_judge, o_place, o_shrink, o_at, o_read, o_found, o_count⟩ := ops w.1 w.2 hR
    refine x_aload_n X dL_26 rfl 0 rfl ?_
    refine x_iload_n X dL_27 rfl 3 rfl ?_
    refine x_sld X hX hbl hbA i0 dL_28 ?_
    refine x_bipush (v := 15) X dL_29 (by decide) ?_
    refine x_iand X dL_31 ?_
    by_cases e0 : (xs (Int32.toNatClampNeg (nI k)) &&& 15) = 0
    · refine x_tableIn (off := 68) (tgt := 100) X dL_32 (by rw [e0]; decide) (by rw [e0]; decide) (by rw [e0]; decide) (by decide) ?_
      refine x_aload_n X dL_100 rfl 1 rfl ?_
      refine x_aload_n X dL_101 rfl 0 rfl ?_
      refine x_iload_n X dL_102 rfl 3 rfl ?_
      refine x_iconst (v := 1) X dL_103 (by decide) ?_
      refine x_iadd X dL_104 ?_
      refine x_sld X hX hbl hbA i1 dL_105 ?_
      refine x_aload_n X dL_106 rfl 0 rfl ?_
      refine x_iload_n X dL_107 rfl 3 rfl ?_
      refine x_iconst (v := 2) X dL_108 (by decide) ?_
      refine x_iadd X dL_109 ?_
      refine x_sld X hX hbl hbA i2 dL_110 ?_
      obtain ⟨r9, u9, v9, e1, e2, hR9⟩ := o_put (xs (Int32.toNatClampNeg ((nI k) + 1))) (xs (Int32.toNatClampNeg ((nI k) + 2)))
      refine l_callX (res := (r9, u9)) X [.int (xs (Int32.toNatClampNeg ((nI k) + 1))), .int (xs (Int32.toNatClampNeg ((nI k) + 2)))] [] (c_X6_put K.l K.D g (xs (Int32.toNatClampNeg ((nI k) + 1))) (xs (Int32.toNatClampNeg ((nI k) + 2))) w.1 (r9, u9) e1) ok_X6_put mL_13 0 rfl rfl rfl rfl (Nat.le_of_ble_eq_true rfl) ⟨by decide, by decide⟩ ⟨rfl, rfl, by decide, by decide⟩ dL_111 ?_
      show XW K 32 3550 4 (lw_Z K.below #[Value.ref b] K.s) (wdL g) (u9, w.2) 114 [(0, .ref b), (1, .ref (g.1 0)), (2, .ref (g.1 50)), (3, .int (nI k))] [.int r9]
      refine x_aload_n X dL_114 rfl 2 rfl ?_
      refine x_aload_n X dL_115 rfl 0 rfl ?_
      refine x_iload_n X dL_116 rfl 3 rfl ?_
      refine x_iconst (v := 1) X dL_117 (by decide) ?_
      refine x_iadd X dL_118 ?_
      refine x_sld X hX hbl hbA i1 dL_119 ?_
      refine x_aload_n X dL_120 rfl 0 rfl ?_
      refine x_iload_n X dL_121 rfl 3 rfl ?_
      refine x_iconst (v := 2) X dL_122 (by decide) ?_
      refine x_iadd X dL_123 ?_
      refine x_sld X hX hbl hbA i2 dL_124 ?_
      refine l_callM (res := (r9, v9)) X [.int (xs (Int32.toNatClampNeg ((nI k) + 1))), .int (xs (Int32.toNatClampNeg ((nI k) + 2)))] [.int r9] (c_X7_put K.l K.D (gM g) (xs (Int32.toNatClampNeg ((nI k) + 1))) (xs (Int32.toNatClampNeg ((nI k) + 2))) w.2 (r9, v9) e2) ok_X7_put mL_17 0 rfl rfl rfl rfl (Nat.le_of_ble_eq_true rfl) ⟨by decide, by decide⟩ ⟨rfl, rfl, by decide, by decide⟩ dL_125 ?_
      show XW K 32 3550 4 (lw_Z K.below #[Value.ref b] K.s) (wdL g) (u9, v9) 128 [(0, .ref b), (1, .ref (g.1 0)), (2, .ref (g.1 50)), (3, .int (nI k))] [.int r9, .int r9]
      refine x_icmp_eq (tgt := 439) X dL_128 (by decide) (fun _ => ?_) (fun c9 => absurd rfl c9)
      exact fin (u9, v9) hR9
    by_cases e1 : (xs (Int32.toNatClampNeg (nI k)) &&& 15) = 1
    · refine x_tableIn (off := 101) (tgt := 133) X dL_32 (by rw [e1]; decide) (by rw [e1]; decide) (by rw [e1]; decide) (by decide) ?_
      refine x_aload_n X dL_133 rfl 1 rfl ?_
      refine x_aload_n X dL_134 rfl 0 rfl ?_
      refine x_iload_n X dL_135 rfl 3 rfl ?_
      refine x_iconst (v := 1) X dL_136 (by decide) ?_
      refine x_iadd X dL_137 ?_
      refine x_sld X hX hbl hbA i1 dL_138 ?_
      refine x_aload_n X dL_139 rfl 0 rfl ?_
      refine x_iload_n X dL_140 rfl 3 rfl ?_
      refine x_iconst (v := 2) X dL_141 (by decide) ?_
      refine x_iadd X dL_142 ?_
      refine x_sld X hX hbl hbA i2 dL_143 ?_
      refine x_i2l X dL_144 ?_
      refine x_bipush (v := 32) X dL_145 (by decide) ?_
      refine x_lshl X dL_147 ?_
      refine x_aload_n X dL_148 rfl 0 rfl ?_
      refine x_iload_n X dL_149 rfl 3 rfl ?_
      refine x_iconst (v := 3) X dL_150 (by decide) ?_
      refine x_iadd X dL_151 ?_
      refine x_sld X hX hbl hbA i3 dL_152 ?_
      refine x_i2l X dL_153 ?_
      refine x_ldc2 (v := 4294967295) X mL_18 dL_154 ?_
      refine x_land X dL_157 ?_
      refine x_lor X dL_158 ?_
      obtain ⟨r9, u9, v9, e1, e2, hR9⟩ := o_text (xs (Int32.toNatClampNeg ((nI k) + 1))) (((Int32.toInt64 (xs (Int32.toNatClampNeg ((nI k) + 2)))) <<< ((Int32.toInt64 32) &&& 63)) ||| ((Int32.toInt64 (xs (Int32.toNatClampNeg ((nI k) + 3)))) &&& 4294967295))
      refine l_callX (res := (r9, u9)) X [.int (xs (Int32.toNatClampNeg ((nI k) + 1))), .long (((Int32.toInt64 (xs (Int32.toNatClampNeg ((nI k) + 2)))) <<< ((Int32.toInt64 32) &&& 63)) ||| ((Int32.toInt64 (xs (Int32.toNatClampNeg ((nI k) + 3)))) &&& 4294967295))] [] (c_X6_text K.l K.D g (xs (Int32.toNatClampNeg ((nI k) + 1))) (((Int32.toInt64 (xs (Int32.toNatClampNeg ((nI k) + 2)))) <<< ((Int32.toInt64 32) &&& 63)) ||| ((Int32.toInt64 (xs (Int32.toNatClampNeg ((nI k) + 3)))) &&& 4294967295)) w.1 (r9, u9) e1) ok_X6_text mL_20 0 rfl rfl rfl rfl (Nat.le_of_ble_eq_true rfl) ⟨by decide, by decide⟩ ⟨rfl, rfl, by decide, by decide⟩ dL_159 ?_
      show XW K 32 3550 4 (lw_Z K.below #[Value.ref b] K.s) (wdL g) (u9, w.2) 162 [(0, .ref b), (1, .ref (g.1 0)), (2, .ref (g.1 50)), (3, .int (nI k))] [.int r9]
      refine x_aload_n X dL_162 rfl 2 rfl ?_
      refine x_aload_n X dL_163 rfl 0 rfl ?_
      refine x_iload_n X dL_164 rfl 3 rfl ?_
      refine x_iconst (v := 1) X dL_165 (by decide) ?_
      refine x_iadd X dL_166 ?_
      refine x_sld X hX hbl hbA i1 dL_167 ?_
      refine x_aload_n X dL_168 rfl 0 rfl ?_
      refine x_iload_n X dL_169 rfl 3 rfl ?_
      refine x_iconst (v := 2) X dL_170 (by decide) ?_
      refine x_iadd X dL_171 ?_
      refine x_sld X hX hbl hbA i2 dL_172 ?_
      refine x_i2l X dL_173 ?_
      refine x_bipush (v := 32) X dL_174 (by decide) ?_
      refine x_lshl X dL_176 ?_
      refine x_aload_n X dL_177 rfl 0 rfl ?_
      refine x_iload_n X dL_178 rfl 3 rfl ?_
      refine x_iconst (v := 3) X dL_179 (by decide) ?_
      refine x_iadd X dL_180 ?_
      refine x_sld X hX hbl hbA i3 dL_181 ?_
      refine x_i2l X dL_182 ?_
      refine x_ldc2 (v := 4294967295) X mL_18 dL_183 ?_
      refine x_land X dL_186 ?_
      refine x_lor X dL_187 ?_
      refine l_callM (res := (r9, v9)) X [.int (xs (Int32.toNatClampNeg ((nI k) + 1))), .long (((Int32.toInt64 (xs (Int32.toNatClampNeg ((nI k) + 2)))) <<< ((Int32.toInt64 32) &&& 63)) ||| ((Int32.toInt64 (xs (Int32.toNatClampNeg ((nI k) + 3)))) &&& 4294967295))] [.int r9] (c_X7_text K.l K.D (gM g) (xs (Int32.toNatClampNeg ((nI k) + 1))) (((Int32.toInt64 (xs (Int32.toNatClampNeg ((nI k) + 2)))) <<< ((Int32.toInt64 32) &&& 63)) ||| ((Int32.toInt64 (xs (Int32.toNatClampNeg ((nI k) + 3)))) &&& 4294967295)) w.2 (r9, v9) e2) ok_X7_text mL_24 0 rfl rfl rfl rfl (Nat.le_of_ble_eq_true rfl) ⟨by decide, by decide⟩ ⟨rfl, rfl, by decide, by decide⟩ dL_188 ?_
      show XW K 32 3550 4 (lw_Z K.below #[Value.ref b] K.s) (wdL g) (u9, v9) 191 [(0, .ref b), (1, .ref (g.1 0)), (2, .ref (g.1 50)), (3, .int (nI k))] [.int r9, .int r9]
      refine x_icmp_eq (tgt := 439) X dL_191 (by decide) (fun _ => ?_) (fun c9 => absurd rfl c9)
      exact fin (u9, v9) hR9
    by_cases e2 : (xs (Int32.toNatClampNeg (nI k)) &&& 15) = 2
    · refine x_tableIn (off := 164) (tgt := 196) X dL_32 (by rw [e2]; decide) (by rw [e2]; decide) (by rw [e2]; decide) (by decide) ?_
      refine x_aload_n X dL_196 rfl 1 rfl ?_
      refine x_aload_n X dL_197 rfl 0 rfl ?_
      refine x_iload_n X dL_198 rfl 3 rfl ?_
      refine x_iconst (v := 1) X dL_199 (by decide) ?_
      refine x_iadd X dL_200 ?_
      refine x_sld X hX hbl hbA i1 dL_201 ?_
      refine x_aload_n X dL_202 rfl 0 rfl ?_
      refine x_iload_n X dL_203 rfl 3 rfl ?_
      refine x_iconst (v := 2) X dL_204 (by decide) ?_
      refine x_iadd X dL_205 ?_
      refine x_sld X hX hbl hbA i2 dL_206 ?_
      obtain ⟨r9, u9, v9, e1, e2, hR9⟩ := o_patch (xs (Int32.toNatClampNeg ((nI k) + 1))) (xs (Int32.toNatClampNeg ((nI k) + 2)))
      refine l_callX (res := (r9, u9)) X [.int (xs (Int32.toNatClampNeg ((nI k) + 1))), .int (xs (Int32.toNatClampNeg ((nI k) + 2)))] [] (c_X6_patch K.l K.D g (xs (Int32.toNatClampNeg ((nI k) + 1))) (xs (Int32.toNatClampNeg ((nI k) + 2))) w.1 (r9, u9) e1) ok_X6_patch mL_25 0 rfl rfl rfl rfl (Nat.le_of_ble_eq_true rfl) ⟨by decide, by decide⟩ ⟨rfl, rfl, by decide, by decide⟩ dL_207 ?_
      show XW K 32 3550 4 (lw_Z K.below #[Value.ref b] K.s) (wdL g) (u9, w.2) 210 [(0, .ref b), (1, .ref (g.1 0)), (2, .ref (g.1 50)), (3, .int (nI k))] [.int r9]
      refine x_aload_n X dL_210 rfl 2 rfl ?_
      refine x_aload_n X dL_211 rfl 0 rfl ?_
      refine x_iload_n X dL_212 rfl 3 rfl ?_
      refine x_iconst (v := 1) X dL_213 (by decide) ?_
      refine x_iadd X dL_214 ?_
      refine x_sld X hX hbl hbA i1 dL_215 ?_
      refine x_aload_n X dL_216 rfl 0 rfl ?_
      refine x_iload_n X dL_217 rfl 3 rfl ?_
      refine x_iconst (v := 2) X dL_218 (by decide) ?_
      refine x_iadd X dL_219 ?_
      refine x_sld X hX hbl hbA i2 dL_220 ?_
      refine l_callM (res := (r9, v9)) X [.int (xs (Int32.toNatClampNeg ((nI k) + 1))), .int (xs (Int32.toNatClampNeg ((nI k) + 2)))] [.int r9] (c_X7_patch K.l K.D (gM g) (xs (Int32.toNatClampNeg ((nI k) + 1))) (xs (Int32.toNatClampNeg ((nI k) + 2))) w.2 (r9, v9) e2) ok_X7_patch mL_28 0 rfl rfl rfl rfl (Nat.le_of_ble_eq_true rfl) ⟨by decide, by decide⟩ ⟨rfl, rfl, by decide, by decide⟩ dL_221 ?_
      show XW K 32 3550 4 (lw_Z K.below #[Value.ref b] K.s) (wdL g) (u9, v9) 224 [(0, .ref b), (1, .ref (g.1 0)), (2, .ref (g.1 50)), (3, .int (nI k))] [.int r9, .int r9]
      refine x_icmp_eq (tgt := 439) X dL_224 (by decide) (fun _ => ?_) (fun c9 => absurd rfl c9)
      exact fin (u9, v9) hR9
    by_cases e3 : (xs (Int32.toNatClampNeg (nI k)) &&& 15) = 3
    · refine x_tableIn (off := 197) (tgt := 229) X dL_32 (by rw [e3]; decide) (by rw [e3]; decide) (by rw [e3]; decide) (by decide) ?_
      refine x_aload_n X dL_229 rfl 1 rfl ?_
      refine x_aload_n X dL_230 rfl 0 rfl ?_
      refine x_iload_n X dL_231 rfl 3 rfl ?_
      refine x_iconst (v := 1) X dL_232 (by decide) ?_
      refine x_iadd X dL_233 ?_
      refine x_sld X hX hbl hbA i1 dL_234 ?_
      refine x_aload_n X dL_235 rfl 0 rfl ?_
      refine x_iload_n X dL_236 rfl 3 rfl ?_
      refine x_iconst (v := 2) X dL_237 (by decide) ?_
      refine x_iadd X dL_238 ?_
      refine x_sld X hX hbl hbA i2 dL_239 ?_
      obtain ⟨r9, u9, v9, e1, e2, hR9⟩ := o_cut (xs (Int32.toNatClampNeg ((nI k) + 1))) (xs (Int32.toNatClampNeg ((nI k) + 2)))
      refine l_callX (res := (r9, u9)) X [.int (xs (Int32.toNatClampNeg ((nI k) + 1))), .int (xs (Int32.toNatClampNeg ((nI k) + 2)))] [] (c_X6_cut K.l K.D g (xs (Int32.toNatClampNeg ((nI k) + 1))) (xs (Int32.toNatClampNeg ((nI k) + 2))) w.1 (r9, u9) e1) ok_X6_cut mL_29 0 rfl rfl rfl rfl (Nat.le_of_ble_eq_true rfl) ⟨by decide, by decide⟩ ⟨rfl, rfl, by decide, by decide⟩ dL_240 ?_
      show XW K 32 3550 4 (lw_Z K.below #[Value.ref b] K.s) (wdL g) (u9, w.2) 243 [(0, .ref b), (1, .ref (g.1 0)), (2, .ref (g.1 50)), (3, .int (nI k))] [.int r9]
      refine x_aload_n X dL_243 rfl 2 rfl ?_
      refine x_aload_n X dL_244 rfl 0 rfl ?_
      refine x_iload_n X dL_245 rfl 3 rfl ?_
      refine x_iconst (v := 1) X dL_246 (by decide) ?_
      refine x_iadd X dL_247 ?_
      refine x_sld X hX hbl hbA i1 dL_248 ?_
      refine x_aload_n X dL_249 rfl 0 rfl ?_
      refine x_iload_n X dL_250 rfl 3 rfl ?_
      refine x_iconst (v := 2) X dL_251 (by decide) ?_
      refine x_iadd X dL_252 ?_
      refine x_sld X hX hbl hbA i2 dL_253 ?_
      refine l_callM (res := (r9, v9)) X [.int (xs (Int32.toNatClampNeg ((nI k) + 1))), .int (xs (Int32.toNatClampNeg ((nI k) + 2)))] [.int r9] (c_X7_cut K.l K.D (gM g) (xs (Int32.toNatClampNeg ((nI k) + 1))) (xs (Int32.toNatClampNeg ((nI k) + 2))) w.2 (r9, v9) e2) ok_X7_cut mL_32 0 rfl rfl rfl rfl (Nat.le_of_ble_eq_true rfl) ⟨by decide, by decide⟩ ⟨rfl, rfl, by decide, by decide⟩ dL_254 ?_
      show XW K 32 3550 4 (lw_Z K.below #[Value.ref b] K.s) (wdL g) (u9, v9) 257 [(0, .ref b), (1, .ref (g.1 0)), (2, .ref (g.1 50)), (3, .int (nI k))] [.int r9, .int r9]
      refine x_icmp_eq (tgt := 439) X dL_257 (by decide) (fun _ => ?_) (fun c9 => absurd rfl c9)
      exact fin (u9, v9) hR9
    by_cases e4 : (xs (Int32.toNatClampNeg (nI k)) &&& 15) = 4
    · refine x_tableIn (off := 230) (tgt := 262) X dL_32 (by rw [e4]; decide) (by rw [e4]; decide) (by rw [e4]; decide) (by decide) ?_
      refine x_aload_n X dL_262 rfl 1 rfl ?_
      refine x_aload_n X dL_263 rfl 0 rfl ?_
      refine x_iload_n X dL_264 rfl 3 rfl ?_
      refine x_iconst (v := 1) X dL_265 (by decide) ?_
      refine x_iadd X dL_266 ?_
      refine x_sld X hX hbl hbA i1 dL_267 ?_
      refine x_aload_n X dL_268 rfl 0 rfl ?_
      refine x_iload_n X dL_269 rfl 3 rfl ?_
      refine x_iconst (v := 2) X dL_270 (by decide) ?_
      refine x_iadd X dL_271 ?_
      refine x_sld X hX hbl hbA i2 dL_272 ?_
      obtain ⟨r9, u9, v9, e1, e2, hR9⟩ := o_twice (xs (Int32.toNatClampNeg ((nI k) + 1))) (xs (Int32.toNatClampNeg ((nI k) + 2)))
      refine l_callX (res := (r9, u9)) X [.int (xs (Int32.toNatClampNeg ((nI k) + 1))), .int (xs (Int32.toNatClampNeg ((nI k) + 2)))] [] (c_X6_twice K.l K.D g (xs (Int32.toNatClampNeg ((nI k) + 1))) (xs (Int32.toNatClampNeg ((nI k) + 2))) w.1 (r9, u9) e1) ok_X6_twice mL_33 0 rfl rfl rfl rfl (Nat.le_of_ble_eq_true rfl) ⟨by decide, by decide⟩ ⟨rfl, rfl, by decide, by decide⟩ dL_273 ?_
      show XW K 32 3550 4 (lw_Z K.below #[Value.ref b] K.s) (wdL g) (u9, w.2) 276 [(0, .ref b), (1, .ref (g.1 0)), (2, .ref (g.1 50)), (3, .int (nI k))] [.int r9]
      refine x_aload_n X dL_276 rfl 2 rfl ?_
      refine x_aload_n X dL_277 rfl 0 rfl ?_
      refine x_iload_n X dL_278 rfl 3 rfl ?_
      refine x_iconst (v := 1) X dL_279 (by decide) ?_
      refine x_iadd X dL_280 ?_
      refine x_sld X hX hbl hbA i1 dL_281 ?_
      refine x_aload_n X dL_282 rfl 0 rfl ?_
      refine x_iload_n X dL_283 rfl 3 rfl ?_
      refine x_iconst (v := 2) X dL_284 (by decide) ?_
      refine x_iadd X dL_285 ?_
      refine x_sld X hX hbl hbA i2 dL_286 ?_
      refine l_callM (res := (r9, v9)) X [.int (xs (Int32.toNatClampNeg ((nI k) + 1))), .int (xs (Int32.toNatClampNeg ((nI k) + 2)))] [.int r9] (c_X7_twice K.l K.D (gM g) (xs (Int32.toNatClampNeg ((nI k) + 1))) (xs (Int32.toNatClampNeg ((nI k) + 2))) w.2 (r9, v9) e2) ok_X7_twice mL_36 0 rfl rfl rfl rfl (Nat.le_of_ble_eq_true rfl) ⟨by decide, by decide⟩ ⟨rfl, rfl, by decide, by decide⟩ dL_287 ?_
      show XW K 32 3550 4 (lw_Z K.below #[Value.ref b] K.s) (wdL g) (u9, v9) 290 [(0, .ref b), (1, .ref (g.1 0)), (2, .ref (g.1 50)), (3, .int (nI k))] [.int r9, .int r9]
      refine x_icmp_eq (tgt := 439) X dL_290 (by decide) (fun _ => ?_) (fun c9 => absurd rfl c9)
      exact fin (u9, v9) hR9
    by_cases e5 : (xs (Int32.toNatClampNeg (nI k)) &&& 15) = 5
    · refine x_tableIn (off := 263) (tgt := 295) X dL_32 (by rw [e5]; decide) (by rw [e5]; decide) (by rw [e5]; decide) (by decide) ?_
      refine x_aload_n X dL_295 rfl 1 rfl ?_
      obtain ⟨r9, u9, v9, e1, e2, hR9⟩ := o_clear
      refine l_callX (res := (r9, u9)) X [] [] (c_X6_clear K.l K.D g w.1 (r9, u9) e1) ok_X6_clear mL_37 0 rfl rfl rfl rfl (Nat.le_of_ble_eq_true rfl) ⟨by decide, by decide⟩ ⟨rfl, rfl, by decide, by decide⟩ dL_296 ?_
      show XW K 32 3550 4 (lw_Z K.below #[Value.ref b] K.s) (wdL g) (u9, w.2) 299 [(0, .ref b), (1, .ref (g.1 0)), (2, .ref (g.1 50)), (3, .int (nI k))] [.int r9]
      refine x_aload_n X dL_299 rfl 2 rfl ?_
      refine l_callM (res := (r9, v9)) X [] [.int r9] (c_X7_clear K.l K.D (gM g) w.2 (r9, v9) e2) ok_X7_clear mL_41 0 rfl rfl rfl rfl (Nat.le_of_ble_eq_true rfl) ⟨by decide, by decide⟩ ⟨rfl, rfl, by decide, by decide⟩ dL_300 ?_
      show XW K 32 3550 4 (lw_Z K.below #[Value.ref b] K.s) (wdL g) (u9, v9) 303 [(0, .ref b), (1, .ref (g.1 0)), (2, .ref (g.1 50)), (3, .int (nI k))] [.int r9, .int r9]
      refine x_icmp_eq (tgt := 439) X dL_303 (by decide) (fun _ => ?_) (fun c9 => absurd rfl c9)
      exact fin (u9, v9) hR9
    by_cases e6 : (xs (Int32.toNatClampNeg (nI k)) &&& 15) = 6
    · refine x_tableIn (off := 276) (tgt := 308) X dL_32 (by rw [e6]; decide) (by rw [e6]; decide) (by rw [e6]; decide) (by decide) ?_
      refine x_aload_n X dL_308 rfl 1 rfl ?_
      obtain ⟨r9, u9, v9, e1, e2, hR9⟩ := o_judge
      refine l_callX (res := (r9, u9)) X [] [] (c_X6_judge K.l K.D g w.1 (r9, u9) e1) ok_X6_judge mL_42 0 rfl rfl rfl rfl (Nat.le_of_ble_eq_true rfl) ⟨by decide, by decide⟩ ⟨rfl, rfl, by decide, by decide⟩ dL_309 ?_
      show XW K 32 3550 4 (lw_Z K.below #[Value.ref b] K.s) (wdL g) (u9, w.2) 312 [(0, .ref b), (1, .ref (g.1 0)), (2, .ref (g.1 50)), (3, .int (nI k))] [.int r9]
      refine x_aload_n X dL_312 rfl 2 rfl ?_
      refine l_callM (res := (r9, v9)) X [] [.int r9] (c_X7_judge K.l K.D (gM g) w.2 (r9, v9) e2) ok_X7_judge mL_45 0 rfl rfl rfl rfl (Nat.le_of_ble_eq_true rfl) ⟨by decide, by decide⟩ ⟨rfl, rfl, by decide, by decide⟩ dL_313 ?_
      show XW K 32 3550 4 (lw_Z K.below #[Value.ref b] K.s) (wdL g) (u9, v9) 316 [(0, .ref b), (1, .ref (g.1 0)), (2, .ref (g.1 50)), (3, .int (nI k))] [.int r9, .int r9]
      refine x_icmp_eq (tgt := 439) X dL_316 (by decide) (fun _ => ?_) (fun c9 => absurd rfl c9)
      exact fin (u9, v9) hR9
    by_cases e7 : (xs (Int32.toNatClampNeg (nI k)) &&& 15) = 7
    · refine x_tableIn (off := 289) (tgt := 321) X dL_32 (by rw [e7]; decide) (by rw [e7]; decide) (by rw [e7]; decide) (by decide) ?_
      refine x_aload_n X dL_321 rfl 1 rfl ?_
      obtain ⟨r9, e1, e2⟩ := o_place
      refine l_callX (res := (r9, w.1)) X [] [] (c_X6_place K.l K.D g w.1 r9 e1) ok_X6_place mL_46 0 rfl rfl rfl rfl (Nat.le_of_ble_eq_true rfl) ⟨by decide, by decide⟩ ⟨rfl, rfl, by decide, by decide⟩ dL_322 ?_
      show XW K 32 3550 4 (lw_Z K.below #[Value.ref b] K.s) (wdL g) w 325 [(0, .ref b), (1, .ref (g.1 0)), (2, .ref (g.1 50)), (3, .int (nI k))] [.int r9]
      refine x_aload_n X dL_325 rfl 2 rfl ?_
      refine l_callM (res := (r9, w.2)) X [] [.int r9] (c_X7_place K.l K.D (gM g) w.2 r9 e2) ok_X7_place mL_49 0 rfl rfl rfl rfl (Nat.le_of_ble_eq_true rfl) ⟨by decide, by decide⟩ ⟨rfl, rfl, by decide, by decide⟩ dL_326 ?_
      show XW K 32 3550 4 (lw_Z K.below #[Value.ref b] K.s) (wdL g) w 329 [(0, .ref b), (1, .ref (g.1 0)), (2, .ref (g.1 50)), (3, .int (nI k))] [.int r9, .int r9]
      refine x_icmp_eq (tgt := 439) X dL_329 (by decide) (fun _ => ?_) (fun c9 => absurd rfl c9)
      exact fin w hR
    by_cases e8 : (xs (Int32.toNatClampNeg (nI k)) &&& 15) = 8
    · refine x_tableIn (off := 302) (tgt := 334) X dL_32 (by rw [e8]; decide) (by rw [e8]; decide) (by rw [e8]; decide) (by decide) ?_
      refine x_aload_n X dL_334 rfl 1 rfl ?_
      obtain ⟨r9, u9, v9, e1, e2, hR9⟩ := o_shrink
      refine l_callX (res := (r9, u9)) X [] [] (c_X6_shrink K.l K.D g w.1 (r9, u9) e1) ok_X6_shrink mL_50 0 rfl rfl rfl rfl (Nat.le_of_ble_eq_true rfl) ⟨by decide, by decide⟩ ⟨rfl, rfl, by decide, by decide⟩ dL_335 ?_
      show XW K 32 3550 4 (lw_Z K.below #[Value.ref b] K.s) (wdL g) (u9, w.2) 338 [(0, .ref b), (1, .ref (g.1 0)), (2, .ref (g.1 50)), (3, .int (nI k))] [.int r9]
      refine x_aload_n X dL_338 rfl 2 rfl ?_
      refine l_callM (res := (r9, v9)) X [] [.int r9] (c_X7_shrink K.l K.D (gM g) w.2 (r9, v9) e2) ok_X7_shrink mL_53 0 rfl rfl rfl rfl (Nat.le_of_ble_eq_true rfl) ⟨by decide, by decide⟩ ⟨rfl, rfl, by decide, by decide⟩ dL_339 ?_
      show XW K 32 3550 4 (lw_Z K.below #[Value.ref b] K.s) (wdL g) (u9, v9) 342 [(0, .ref b), (1, .ref (g.1 0)), (2, .ref (g.1 50)), (3, .int (nI k))] [.int r9, .int r9]
      refine x_icmp_eq (tgt := 439) X dL_342 (by decide) (fun _ => ?_) (fun c9 => absurd rfl c9)
      exact fin (u9, v9) hR9
    by_cases e9 : (xs (Int32.toNatClampNeg (nI k)) &&& 15) = 9
    · refine x_tableIn (off := 315) (tgt := 347) X dL_32 (by rw [e9]; decide) (by rw [e9]; decide) (by rw [e9]; decide) (by decide) ?_
      refine x_aload_n X dL_347 rfl 1 rfl ?_
      refine x_aload_n X dL_348 rfl 0 rfl ?_
      refine x_iload_n X dL_349 rfl 3 rfl ?_
      refine x_iconst (v := 1) X dL_350 (by decide) ?_
      refine x_iadd X dL_351 ?_
      refine x_sld X hX hbl hbA i1 dL_352 ?_
      obtain ⟨r9, e1, e2⟩ := o_at (xs (Int32.toNatClampNeg ((nI k) + 1)))
      refine l_callX (res := (r9, w.1)) X [.int (xs (Int32.toNatClampNeg ((nI k) + 1)))] [] (c_X6_at K.l K.D g (xs (Int32.toNatClampNeg ((nI k) + 1))) w.1 r9 e1) ok_X6_at mL_54 0 rfl rfl rfl rfl (Nat.le_of_ble_eq_true rfl) ⟨by decide, by decide⟩ ⟨rfl, rfl, by decide, by decide⟩ dL_353 ?_
      show XW K 32 3550 4 (lw_Z K.below #[Value.ref b] K.s) (wdL g) w 356 [(0, .ref b), (1, .ref (g.1 0)), (2, .ref (g.1 50)), (3, .int (nI k))] [.int r9]
      refine x_aload_n X dL_356 rfl 2 rfl ?_
      refine x_aload_n X dL_357 rfl 0 rfl ?_
      refine x_iload_n X dL_358 rfl 3 rfl ?_
      refine x_iconst (v := 1) X dL_359 (by decide) ?_
      refine x_iadd X dL_360 ?_
      refine x_sld X hX hbl hbA i1 dL_361 ?_
      refine l_callM (res := (r9, w.2)) X [.int (xs (Int32.toNatClampNeg ((nI k) + 1)))] [.int r9] (c_X7_at K.l K.D (gM g) (xs (Int32.toNatClampNeg ((nI k) + 1))) w.2 r9 e2) ok_X7_at mL_58 0 rfl rfl rfl rfl (Nat.le_of_ble_eq_true rfl) ⟨by decide, by decide⟩ ⟨rfl, rfl, by decide, by decide⟩ dL_362 ?_
      show XW K 32 3550 4 (lw_Z K.below #[Value.ref b] K.s) (wdL g) w 365 [(0, .ref b), (1, .ref (g.1 0)), (2, .ref (g.1 50)), (3, .int (nI k))] [.int r9, .int r9]
      refine x_icmp_eq (tgt := 439) X dL_365 (by decide) (fun _ => ?_) (fun c9 => absurd rfl c9)
      exact fin w hR
    by_cases e10 : (xs (Int32.toNatClampNeg (nI k)) &&& 15) = 10
    · refine x_tableIn (off := 338) (tgt := 370) X dL_32 (by rw [e10]; decide) (by rw [e10]; decide) (by rw [e10]; decide) (by decide) ?_
      refine x_aload_n X dL_370 rfl 1 rfl ?_
      refine x_aload_n X dL_371 rfl 0 rfl ?_
      refine x_iload_n X dL_372 rfl 3 rfl ?_
      refine x_iconst (v := 1) X dL_373 (by decide) ?_
      refine x_iadd X dL_374 ?_
      refine x_sld X hX hbl hbA i1 dL_375 ?_
      obtain ⟨r9, e1, e2⟩ := o_read (xs (Int32.toNatClampNeg ((nI k) + 1)))
      refine l_callX (res := (r9, w.1)) X [.int (xs (Int32.toNatClampNeg ((nI k) + 1)))] [] (c_X6_read K.l K.D g (xs (Int32.toNatClampNeg ((nI k) + 1))) w.1 r9 e1) ok_X6_read mL_59 0 rfl rfl rfl rfl (Nat.le_of_ble_eq_true rfl) ⟨by decide, by decide⟩ ⟨rfl, rfl, by decide, by decide⟩ dL_376 ?_
      show XW K 32 3550 4 (lw_Z K.below #[Value.ref b] K.s) (wdL g) w 379 [(0, .ref b), (1, .ref (g.1 0)), (2, .ref (g.1 50)), (3, .int (nI k))] [.int r9]
      refine x_aload_n X dL_379 rfl 2 rfl ?_
      refine x_aload_n X dL_380 rfl 0 rfl ?_
      refine x_iload_n X dL_381 rfl 3 rfl ?_
      refine x_iconst (v := 1) X dL_382 (by decide) ?_
      refine x_iadd X dL_383 ?_
      refine x_sld X hX hbl hbA i1 dL_384 ?_
      refine l_callM (res := (r9, w.2)) X [.int (xs (Int32.toNatClampNeg ((nI k) + 1)))] [.int r9] (c_X7_read K.l K.D (gM g) (xs (Int32.toNatClampNeg ((nI k) + 1))) w.2 r9 e2) ok_X7_read mL_62 0 rfl rfl rfl rfl (Nat.le_of_ble_eq_true rfl) ⟨by decide, by decide⟩ ⟨rfl, rfl, by decide, by decide⟩ dL_385 ?_
      show XW K 32 3550 4 (lw_Z K.below #[Value.ref b] K.s) (wdL g) w 388 [(0, .ref b), (1, .ref (g.1 0)), (2, .ref (g.1 50)), (3, .int (nI k))] [.int r9, .int r9]
      refine x_icmp_eq (tgt := 439) X dL_388 (by decide) (fun _ => ?_) (fun c9 => absurd rfl c9)
      exact fin w hR
    by_cases e11 : (xs (Int32.toNatClampNeg (nI k)) &&& 15) = 11
    · refine x_tableIn (off := 361) (tgt := 393) X dL_32 (by rw [e11]; decide) (by rw [e11]; decide) (by rw [e11]; decide) (by decide) ?_
      refine x_aload_n X dL_393 rfl 1 rfl ?_
      refine x_aload_n X dL_394 rfl 0 rfl ?_
      refine x_iload_n X dL_395 rfl 3 rfl ?_
      refine x_iconst (v := 1) X dL_396 (by decide) ?_
      refine x_iadd X dL_397 ?_
      refine x_sld X hX hbl hbA i1 dL_398 ?_
      obtain ⟨r9, e1, e2⟩ := o_found (xs (Int32.toNatClampNeg ((nI k) + 1)))
      refine l_callX (res := (r9, w.1)) X [.int (xs (Int32.toNatClampNeg ((nI k) + 1)))] [] (c_X6_found K.l K.D g (xs (Int32.toNatClampNeg ((nI k) + 1))) w.1 r9 e1) ok_X6_found mL_63 0 rfl rfl rfl rfl (Nat.le_of_ble_eq_true rfl) ⟨by decide, by decide⟩ ⟨rfl, rfl, by decide, by decide⟩ dL_399 ?_
      show XW K 32 3550 4 (lw_Z K.below #[Value.ref b] K.s) (wdL g) w 402 [(0, .ref b), (1, .ref (g.1 0)), (2, .ref (g.1 50)), (3, .int (nI k))] [.int r9]
      refine x_aload_n X dL_402 rfl 2 rfl ?_
      refine x_aload_n X dL_403 rfl 0 rfl ?_
      refine x_iload_n X dL_404 rfl 3 rfl ?_
      refine x_iconst (v := 1) X dL_405 (by decide) ?_
      refine x_iadd X dL_406 ?_
      refine x_sld X hX hbl hbA i1 dL_407 ?_
      refine l_callM (res := (r9, w.2)) X [.int (xs (Int32.toNatClampNeg ((nI k) + 1)))] [.int r9] (c_X7_found K.l K.D (gM g) (xs (Int32.toNatClampNeg ((nI k) + 1))) w.2 r9 e2) ok_X7_found mL_66 0 rfl rfl rfl rfl (Nat.le_of_ble_eq_true rfl) ⟨by decide, by decide⟩ ⟨rfl, rfl, by decide, by decide⟩ dL_408 ?_
      show XW K 32 3550 4 (lw_Z K.below #[Value.ref b] K.s) (wdL g) w 411 [(0, .ref b), (1, .ref (g.1 0)), (2, .ref (g.1 50)), (3, .int (nI k))] [.int r9, .int r9]
      refine x_icmp_eq (tgt := 439) X dL_411 (by decide) (fun _ => ?_) (fun c9 => absurd rfl c9)
      exact fin w hR
    by_cases e12 : (xs (Int32.toNatClampNeg (nI k)) &&& 15) = 12
    · refine x_tableIn (off := 384) (tgt := 416) X dL_32 (by rw [e12]; decide) (by rw [e12]; decide) (by rw [e12]; decide) (by decide) ?_
      refine x_aload_n X dL_416 rfl 1 rfl ?_
      refine x_aload_n X dL_417 rfl 0 rfl ?_
      refine x_iload_n X dL_418 rfl 3 rfl ?_
      refine x_iconst (v := 1) X dL_419 (by decide) ?_
      refine x_iadd X dL_420 ?_
      refine x_sld X hX hbl hbA i1 dL_421 ?_
      obtain ⟨r9, e1, e2⟩ := o_count (xs (Int32.toNatClampNeg ((nI k) + 1)))
      refine l_callX (res := (r9, w.1)) X [.int (xs (Int32.toNatClampNeg ((nI k) + 1)))] [] (c_X6_count K.l K.D g (xs (Int32.toNatClampNeg ((nI k) + 1))) w.1 r9 e1) ok_X6_count mL_67 0 rfl rfl rfl rfl (Nat.le_of_ble_eq_true rfl) ⟨by decide, by decide⟩ ⟨rfl, rfl, by decide, by decide⟩ dL_422 ?_
      show XW K 32 3550 4 (lw_Z K.below #[Value.ref b] K.s) (wdL g) w 425 [(0, .ref b), (1, .ref (g.1 0)), (2, .ref (g.1 50)), (3, .int (nI k))] [.int r9]
      refine x_aload_n X dL_425 rfl 2 rfl ?_
      refine x_aload_n X dL_426 rfl 0 rfl ?_
      refine x_iload_n X dL_427 rfl 3 rfl ?_
      refine x_iconst (v := 1) X dL_428 (by decide) ?_
      refine x_iadd X dL_429 ?_
      refine x_sld X hX hbl hbA i1 dL_430 ?_
      refine l_callM (res := (r9, w.2)) X [.int (xs (Int32.toNatClampNeg ((nI k) + 1)))] [.int r9] (c_X7_count K.l K.D (gM g) (xs (Int32.toNatClampNeg ((nI k) + 1))) w.2 r9 e2) ok_X7_count mL_70 0 rfl rfl rfl rfl (Nat.le_of_ble_eq_true rfl) ⟨by decide, by decide⟩ ⟨rfl, rfl, by decide, by decide⟩ dL_431 ?_
      show XW K 32 3550 4 (lw_Z K.below #[Value.ref b] K.s) (wdL g) w 434 [(0, .ref b), (1, .ref (g.1 0)), (2, .ref (g.1 50)), (3, .int (nI k))] [.int r9, .int r9]
      refine x_icmp_eq (tgt := 439) X dL_434 (by decide) (fun _ => ?_) (fun c9 => absurd rfl c9)
      exact fin w hR
    have n0 := lv_neT (a := 0) e0 (by decide)
    have n1 := lv_neT (a := 1) e1 (by decide)
    have n2 := lv_neT (a := 2) e2 (by decide)
    have n3 := lv_neT (a := 3) e3 (by decide)
    have n4 := lv_neT (a := 4) e4 (by decide)
    have n5 := lv_neT (a := 5) e5 (by decide)
    have n6 := lv_neT (a := 6) e6 (by decide)
    have n7 := lv_neT (a := 7) e7 (by decide)
    have n8 := lv_neT (a := 8) e8 (by decide)
    have n9 := lv_neT (a := 9) e9 (by decide)
    have n10 := lv_neT (a := 10) e10 (by decide)
    have n11 := lv_neT (a := 11) e11 (by decide)
    have n12 := lv_neT (a := 12) e12 (by decide)
    exact x_tableOut (tgt := 439) X dL_32 (by omega) (by decide) (fin w hR)
