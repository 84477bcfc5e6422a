def RS0 : String := "java/lang/String"
def RS1 : String := "java/lang/StringLatin1"
def RS2 : String := "jdk/internal/util/Preconditions"
abbrev cS_length : ByteArray := prog_12_method_54_code
def yS_length : MethodName := ⟨RS0, "length", "()I"⟩
abbrev cS_coder : ByteArray := prog_12_method_152_code
def yS_coder : MethodName := ⟨RS0, "coder", "()B"⟩
abbrev cS_charAt : ByteArray := prog_12_method_56_code
def yS_charAt : MethodName := ⟨RS0, "charAt", "(I)C"⟩
abbrev cS_isLatin1 : ByteArray := prog_12_method_154_code
def yS_isLatin1 : MethodName := ⟨RS0, "isLatin1", "()Z"⟩
abbrev cS_checkIndex : ByteArray := prog_12_method_155_code
def yS_checkIndex : MethodName := ⟨RS0, "checkIndex", "(II)V"⟩
abbrev cS_l1charAt : ByteArray := prog_13_method_2_code
def yS_l1charAt : MethodName := ⟨RS1, "charAt", "([BI)C"⟩
abbrev cS_preIndex : ByteArray := prog_16_method_11_code
def yS_preIndex : MethodName := ⟨RS2, "checkIndex", "(IILjava/util/function/BiFunction;)I"⟩
theorem dS_length_0 : decode cS_length 0 = .ok (.aload_n 0, 1) := by decide +kernel
theorem dS_length_1 : decode cS_length 1 = .ok (.getfield 9, 3) := by decide +kernel
theorem dS_length_4 : decode cS_length 4 = .ok (.arraylength, 1) := by decide +kernel
theorem dS_length_5 : decode cS_length 5 = .ok (.aload_n 0, 1) := by decide +kernel
theorem dS_length_6 : decode cS_length 6 = .ok (.invokevirtual 335, 3) := by decide +kernel
theorem dS_length_9 : decode cS_length 9 = .ok (.ishr, 1) := by decide +kernel
theorem dS_length_10 : decode cS_length 10 = .ok (.ireturn, 1) := by decide +kernel
theorem dS_coder_0 : decode cS_coder 0 = .ok (.getstatic 38, 3) := by decide +kernel
theorem dS_coder_3 : decode cS_coder 3 = .ok (.ifCond .eq 10, 3) := by decide +kernel
theorem dS_coder_6 : decode cS_coder 6 = .ok (.aload_n 0, 1) := by decide +kernel
theorem dS_coder_7 : decode cS_coder 7 = .ok (.getfield 15, 3) := by decide +kernel
theorem dS_coder_10 : decode cS_coder 10 = .ok (.goto 4, 3) := by decide +kernel
theorem dS_coder_14 : decode cS_coder 14 = .ok (.ireturn, 1) := by decide +kernel
theorem dS_isLatin1_0 : decode cS_isLatin1 0 = .ok (.getstatic 38, 3) := by decide +kernel
theorem dS_isLatin1_3 : decode cS_isLatin1 3 = .ok (.ifCond .eq 14, 3) := by decide +kernel
theorem dS_isLatin1_6 : decode cS_isLatin1 6 = .ok (.aload_n 0, 1) := by decide +kernel
theorem dS_isLatin1_7 : decode cS_isLatin1 7 = .ok (.getfield 15, 3) := by decide +kernel
theorem dS_isLatin1_10 : decode cS_isLatin1 10 = .ok (.ifCond .ne 7, 3) := by decide +kernel
theorem dS_isLatin1_13 : decode cS_isLatin1 13 = .ok (.iconst 1, 1) := by decide +kernel
theorem dS_isLatin1_14 : decode cS_isLatin1 14 = .ok (.goto 4, 3) := by decide +kernel
theorem dS_isLatin1_18 : decode cS_isLatin1 18 = .ok (.ireturn, 1) := by decide +kernel
theorem dS_charAt_0 : decode cS_charAt 0 = .ok (.aload_n 0, 1) := by decide +kernel
theorem dS_charAt_1 : decode cS_charAt 1 = .ok (.invokevirtual 492, 3) := by decide +kernel
theorem dS_charAt_4 : decode cS_charAt 4 = .ok (.ifCond .eq 12, 3) := by decide +kernel
theorem dS_charAt_7 : decode cS_charAt 7 = .ok (.aload_n 0, 1) := by decide +kernel
theorem dS_charAt_8 : decode cS_charAt 8 = .ok (.getfield 9, 3) := by decide +kernel
theorem dS_charAt_11 : decode cS_charAt 11 = .ok (.iload_n 1, 1) := by decide +kernel
theorem dS_charAt_12 : decode cS_charAt 12 = .ok (.invokestatic 495, 3) := by decide +kernel
theorem dS_charAt_15 : decode cS_charAt 15 = .ok (.ireturn, 1) := by decide +kernel
theorem dS_l1charAt_0 : decode cS_l1charAt 0 = .ok (.iload_n 1, 1) := by decide +kernel
theorem dS_l1charAt_1 : decode cS_l1charAt 1 = .ok (.aload_n 0, 1) := by decide +kernel
theorem dS_l1charAt_2 : decode cS_l1charAt 2 = .ok (.arraylength, 1) := by decide +kernel
theorem dS_l1charAt_3 : decode cS_l1charAt 3 = .ok (.invokestatic 9, 3) := by decide +kernel
theorem dS_l1charAt_6 : decode cS_l1charAt 6 = .ok (.aload_n 0, 1) := by decide +kernel
theorem dS_l1charAt_7 : decode cS_l1charAt 7 = .ok (.iload_n 1, 1) := by decide +kernel
theorem dS_l1charAt_8 : decode cS_l1charAt 8 = .ok (.baload, 1) := by decide +kernel
theorem dS_l1charAt_9 : decode cS_l1charAt 9 = .ok (.sipush 255, 3) := by decide +kernel
theorem dS_l1charAt_12 : decode cS_l1charAt 12 = .ok (.iand, 1) := by decide +kernel
theorem dS_l1charAt_13 : decode cS_l1charAt 13 = .ok (.i2c, 1) := by decide +kernel
theorem dS_l1charAt_14 : decode cS_l1charAt 14 = .ok (.ireturn, 1) := by decide +kernel
theorem dS_checkIndex_0 : decode cS_checkIndex 0 = .ok (.iload_n 0, 1) := by decide +kernel
theorem dS_checkIndex_1 : decode cS_checkIndex 1 = .ok (.iload_n 1, 1) := by decide +kernel
theorem dS_checkIndex_2 : decode cS_checkIndex 2 = .ok (.getstatic 1053, 3) := by decide +kernel
theorem dS_checkIndex_5 : decode cS_checkIndex 5 = .ok (.invokestatic 1059, 3) := by decide +kernel
theorem dS_checkIndex_8 : decode cS_checkIndex 8 = .ok (.pop, 1) := by decide +kernel
theorem dS_checkIndex_9 : decode cS_checkIndex 9 = .ok (.return_, 1) := by decide +kernel
theorem dS_preIndex_0 : decode cS_preIndex 0 = .ok (.iload_n 0, 1) := by decide +kernel
theorem dS_preIndex_1 : decode cS_preIndex 1 = .ok (.ifCond .lt 8, 3) := by decide +kernel
theorem dS_preIndex_4 : decode cS_preIndex 4 = .ok (.iload_n 0, 1) := by decide +kernel
theorem dS_preIndex_5 : decode cS_preIndex 5 = .ok (.iload_n 1, 1) := by decide +kernel
theorem dS_preIndex_6 : decode cS_preIndex 6 = .ok (.if_icmp .lt 10, 3) := by decide +kernel
theorem dS_preIndex_16 : decode cS_preIndex 16 = .ok (.iload_n 0, 1) := by decide +kernel
theorem dS_preIndex_17 : decode cS_preIndex 17 = .ok (.ireturn, 1) := by decide +kernel
section SROWS
variable {σ : Type} {K : Cx} {g : Gw} {cc : ByteArray} {nL : Nat} {own : String} {rt : Option FieldType} {R0 : Room} {Q : State → Prop} {wd : σ → va_W} {u : σ} {pc ce sl : Nat} {lv : List (Nat × Value)} {rest : List Value}
theorem x_sgetf (X : XC K g cc nL own rt R0) {o n d : String} {index q : Nat} {v : Value} (hE : va_OF o n d v q K.A K.s K.s.heap) (hm : Cond.fieldLink own index o n d ∈ TBL) (hdg : decode cc pc = .ok (.getfield index, 3)) (k : XW K ce sl nL Q wd u (pc + 3) lv (v :: rest)) : XW K ce sl nL Q wd u pc lv (.ref q :: rest) := fun H locs ls hl hP hD hS => vk_getf X.1.1 X.1.2.1 hE hS X.1.2.2.2.1 (X.1.2.2.2.2 _ hm) (fun _ h => h) hdg (k H locs ls hl hP hD hS)
theorem x_gets (X : XC K g cc nL own rt R0) {C n d : String} {index : Nat} {v : Value} (hZ : va_Z C n d v K.A K.s K.s.heap) (hm : Cond.fieldLink own index C n d ∈ TBL) (hdg : decode cc pc = .ok (.getstatic index, 3)) (k : XW K ce sl nL Q wd u (pc + 3) lv (v :: rest)) : XW K ce sl nL Q wd u pc lv rest := fun H locs ls hl hP hD hS => va_gets X.1.1 X.1.2.1 hZ hS X.1.2.2.2.1 (X.1.2.2.2.2 _ hm) (fun _ h => h) hdg (k H locs ls hl hP hD hS)
theorem x_tlen (X : XC K g cc nL own rt R0) {ty : FieldType} {t N : Nat} {f : Nat → Value} {v : Int32} (hT : va_T ty t N f K.A K.s K.s.heap) (hv : Int32.ofNat N = v) (hdg : decode cc pc = .ok (.arraylength, 1)) (k : XW K ce sl nL Q wd u (pc + 1) lv (.int v :: rest)) : XW K ce sl nL Q wd u pc lv (.ref t :: rest) := fun H locs ls hl hP hD hS => va_tlen X.1.1 X.1.2.1 hT hS hv hdg (k H locs ls hl hP hD hS)
theorem x_tb (X : XC K g cc nL own rt R0) {t N : Nat} {f : Nat → Value} {i : Int32} {v : Value} (hT : va_T .byte t N f K.A K.s K.s.heap) (hin : vp_in i N) (hv : f i.toNatClampNeg = v) (hdg : decode cc pc = .ok (.baload, 1)) (k : XW K ce sl nL Q wd u (pc + 1) lv (v :: rest)) : XW K ce sl nL Q wd u pc lv (.int i :: .ref t :: rest) := fun H locs ls hl hP hD hS => va_tb X.1.1 X.1.2.1 hT hS hin hv hdg (k H locs ls hl hP hD hS)
theorem x_nret {ty : FieldType} (X : XC K g cc nL own (some ty) R0) {r : Int32} {res : Int32 × σ} (hb : narrow ty (.int r) = .int r) (h : (r, u) = res) (hdg : decode cc pc = .ok (.ireturn, 1)) : XW K 0 0 nL (QI K g wd res) wd u pc lv [.int r] := fun H locs ls hl hP hD hS => W.zret (v := r) X.1.1 X.1.2.1 X.2.2.2.2.1 hb (fun t ht hW => ⟨⟨r, u, rfl, h, by rw [ht]; exact hP, va_K.moved hW.alike X.2.1, hD⟩, hS.F ht⟩) hS.2.2 hdg X.2.2.2.2.2.1
theorem x_callSR (X : XC K g cc nL own rt R0) {y : MethodName} {b : ByteArray} {n nA index : Nat} {ty : FieldType} {rm : Room} {st : List Value} {r : Int32} (i : Nat) (hi : i < 4) (As rest : List Value) (hM : metI K.l K.D g wd y b n ty rm (.ref (g.1 (100 + i)) :: As) u (r, u)) (ok : okV y "java/lang/String" b n (some ty) nA) (hm : Cond.methodLink own index y ∈ TBL) (hn : As.length = nA) (hst : st = As.reverse ++ .ref (g.1 (100 + i)) :: rest) (hrm : (rest.map fun v => v.category).sum ≤ 8) (hCS : ce ≤ R0.cells ∧ sl ≤ R0.slots) (hRm : rm.cells = 0 ∧ rm.slots = 0 ∧ rm.frames + 1 ≤ R0.frames ∧ 8 + (n + 11) + rm.locals ≤ R0.locals) (hdg : decode cc pc = .ok (.invokevirtual index, 3)) (k : XW K ce sl nL Q wd u (pc + 3) lv (.int r :: rest)) : XW K ce sl nL Q wd u pc lv st := fun H locs ls hl hP hD hS => by
  have hF := x_free (D := K.D) hD hS X.2.2.1
  refine va_calli (va_runV (As := As) (rest := rest) X.1 (hM H.size) (cwV nA X.1.2.2.2.2 (okV_in ok hm) rfl hRm.1 hRm.2.1 ok.2 (by rw [X.2.2.2.2.2.2]; exact hRm.2.2)) ⟨mPre_blind, vk_recv X.2.2.2.1.2.1 hi hS, fun U hU hW => ⟨rfl, by rw [hU], by rw [hU]; exact hP, va_K.moved hW.alike X.2.1, hD.weaken (fun _ _ _ _ => trivial), X.2.2.2.1.call hS hF hU hW⟩⟩ rfl hn hl.1 hst (lv_room hrm) hdg (by rw [X.2.2.2.2.2.2]; exact hCS)) hS (fun q _ h => hF q h) hF (fun r2 u2 t H1 locs1 ht hvm hw hB hz1 hk1 hS1 => ?_)
  cases hw
  obtain ⟨hP1, -, hD1⟩ := hB
  rw [ht] at hP1
  exact k H1 locs1 ls hl hP1 (hD1.weaken (fun _ q _ h => hF q.1 h)) hS1
end SROWS
def rmS0 : Room := { frames := 0, cells := 0, slots := 0, locals := 0 }
def rmS_length : Room := { frames := 1, cells := 0, slots := 0, locals := 20 }
def rmS_checkIndex : Room := { frames := 1, cells := 0, slots := 0, locals := 22 }
def rmS_l1charAt : Room := { frames := 2, cells := 0, slots := 0, locals := 43 }
def rmS_charAt : Room := { frames := 3, cells := 0, slots := 0, locals := 64 }
theorem mS_9 : Cond.fieldLink RS0 9 "java/lang/String" "value" "[B" ∈ TBL := TBL_mem (83 + 1008) (by decide +kernel) (by decide +kernel)
theorem mS_15 : Cond.fieldLink RS0 15 "java/lang/String" "coder" "B" ∈ TBL := TBL_mem (83 + 1009) (by decide +kernel) (by decide +kernel)
theorem mS_38 : Cond.fieldLink RS0 38 "java/lang/String" "COMPACT_STRINGS" "Z" ∈ TBL := TBL_mem (83 + 363) (by decide +kernel) (by decide +kernel)
theorem mS_1053 : Cond.fieldLink RS0 1053 "jdk/internal/util/Preconditions" "SIOOBE_FORMATTER" "Ljava/util/function/BiFunction;" ∈ TBL := TBL_mem (83 + 379) (by decide +kernel) (by decide +kernel)
theorem mS_335 : Cond.methodLink RS0 335 yS_coder ∈ TBL := TBL_mem (83 + 359) (by decide +kernel) (by decide +kernel)
theorem mS_492 : Cond.methodLink RS0 492 yS_isLatin1 ∈ TBL := TBL_mem (83 + 369) (by decide +kernel) (by decide +kernel)
theorem mS_495 : Cond.methodLink RS0 495 yS_l1charAt ∈ TBL := TBL_mem (83 + 373) (by decide +kernel) (by decide +kernel)
theorem mS_l9 : Cond.methodLink RS1 9 yS_checkIndex ∈ TBL := TBL_mem (83 + 376) (by decide +kernel) (by decide +kernel)
theorem mS_1059 : Cond.methodLink RS0 1059 yS_preIndex ∈ TBL := TBL_mem (83 + 381) (by decide +kernel) (by decide +kernel)
theorem mS_i0 : Cond.initialized "java/lang/String" ∈ TBL := TBL_mem (83 + 10) (by decide +kernel) (by decide +kernel)
theorem mS_i1 : Cond.initialized "java/lang/StringLatin1" ∈ TBL := TBL_mem (83 + 11) (by decide +kernel) (by decide +kernel)
theorem mS_i2 : Cond.initialized "jdk/internal/util/Preconditions" ∈ TBL := TBL_mem (83 + 12) (by decide +kernel) (by decide +kernel)
theorem ok_S_length : okV yS_length "java/lang/String" cS_length 1 (some .int) 0 := ⟨⟨TBL_mem (83 + 356) (by decide +kernel) (by decide +kernel), TBL_mem (83 + 357) (by decide +kernel) (by decide +kernel), mS_i0, TBL_mem (83 + 358) (by decide +kernel) (by decide +kernel)⟩, by decide +kernel⟩
theorem ok_S_coder : okV yS_coder "java/lang/String" cS_coder 1 (some .byte) 0 := ⟨⟨TBL_mem (83 + 360) (by decide +kernel) (by decide +kernel), TBL_mem (83 + 361) (by decide +kernel) (by decide +kernel), mS_i0, TBL_mem (83 + 362) (by decide +kernel) (by decide +kernel)⟩, by decide +kernel⟩
theorem ok_S_charAt : okV yS_charAt "java/lang/String" cS_charAt 2 (some .char) 1 := ⟨⟨TBL_mem (83 + 366) (by decide +kernel) (by decide +kernel), TBL_mem (83 + 367) (by decide +kernel) (by decide +kernel), mS_i0, TBL_mem (83 + 368) (by decide +kernel) (by decide +kernel)⟩, by decide +kernel⟩
theorem ok_S_isLatin1 : okV yS_isLatin1 "java/lang/String" cS_isLatin1 1 (some .boolean) 0 := ⟨⟨TBL_mem (83 + 370) (by decide +kernel) (by decide +kernel), TBL_mem (83 + 371) (by decide +kernel) (by decide +kernel), mS_i0, TBL_mem (83 + 372) (by decide +kernel) (by decide +kernel)⟩, by decide +kernel⟩
theorem ok_S_l1charAt : okS yS_l1charAt cS_l1charAt 2 (some .char) 2 := ⟨⟨TBL_mem (83 + 374) (by decide +kernel) (by decide +kernel), mS_i1, TBL_mem (83 + 375) (by decide +kernel) (by decide +kernel)⟩, by decide +kernel⟩
theorem ok_S_checkIndex : okS yS_checkIndex cS_checkIndex 2 none 2 := ⟨⟨TBL_mem (83 + 377) (by decide +kernel) (by decide +kernel), mS_i0, TBL_mem (83 + 378) (by decide +kernel) (by decide +kernel)⟩, by decide +kernel⟩
theorem ok_S_preIndex : okS yS_preIndex cS_preIndex 3 (some .int) 3 := ⟨⟨TBL_mem (83 + 382) (by decide +kernel) (by decide +kernel), mS_i2, TBL_mem (83 + 383) (by decide +kernel) (by decide +kernel)⟩, by decide +kernel⟩
set_option maxRecDepth 100000 in
theorem c_S_coder {σ : Type} (l : Launch) (D : va_G) (g : Gw) (wd : σ → va_W) (u : σ) (i : Nat) (hi : i < 4) : metI l D g wd yS_coder cS_coder 1 .byte rmS0 [.ref (g.1 (100 + i))] u (0, u) := by
  refine metI_of (own := RS0) (lv := [(0, .ref (g.1 (100 + i)))]) (by decide) rfl rfl (Nat.le_of_ble_eq_true rfl) (fun K hl9 hD9 X => ?_)
  subst hl9
  subst hD9
  refine x_gets X X.2.2.2.1.2.2.2.2.2.2.1 mS_38 dS_coder_0 ?_
  refine x_if_eq (tgt := 13) X dS_coder_3 (by decide) (fun c => absurd c (by decide)) (fun c => ?_)
  refine x_aload_n X dS_coder_6 rfl 0 rfl ?_
  refine x_sgetf X (X.2.2.2.1.2.1.1 i hi).2.1 mS_15 dS_coder_7 ?_
  refine x_goto (tgt := 14) X dS_coder_10 (by decide) ?_
  exact x_nret X rfl rfl dS_coder_14
set_option maxRecDepth 100000 in
theorem c_S_isLatin1 {σ : Type} (l : Launch) (D : va_G) (g : Gw) (wd : σ → va_W) (u : σ) (i : Nat) (hi : i < 4) : metI l D g wd yS_isLatin1 cS_isLatin1 1 .boolean rmS0 [.ref (g.1 (100 + i))] u (1, u) := by
  refine metI_of (own := RS0) (lv := [(0, .ref (g.1 (100 + i)))]) (by decide) rfl rfl (Nat.le_of_ble_eq_true rfl) (fun K hl9 hD9 X => ?_)
  subst hl9
  subst hD9
  refine x_gets X X.2.2.2.1.2.2.2.2.2.2.1 mS_38 dS_isLatin1_0 ?_
  refine x_if_eq (tgt := 17) X dS_isLatin1_3 (by decide) (fun c => absurd c (by decide)) (fun c => ?_)
  refine x_aload_n X dS_isLatin1_6 rfl 0 rfl ?_
  refine x_sgetf X (X.2.2.2.1.2.1.1 i hi).2.1 mS_15 dS_isLatin1_7 ?_
  refine x_if_ne (tgt := 17) X dS_isLatin1_10 (by decide) (fun c => absurd rfl c) (fun c => ?_)
  refine x_iconst (v := 1) X dS_isLatin1_13 (by decide) ?_
  refine x_goto (tgt := 18) X dS_isLatin1_14 (by decide) ?_
  exact x_nret X rfl rfl dS_isLatin1_18
set_option maxRecDepth 100000 in
theorem c_S_length {σ : Type} (l : Launch) (D : va_G) (g : Gw) (wd : σ → va_W) (u : σ) (i : Nat) (hi : i < 4) (n : Int32) (hn : Int32.ofNat (LEN.getD i 0) >>> ((0 : Int32) &&& 31) = n) : metI l D g wd yS_length cS_length 1 .int rmS_length [.ref (g.1 (100 + i))] u (n, u) := by
  refine metI_of (own := RS0) (lv := [(0, .ref (g.1 (100 + i)))]) (by decide) rfl rfl (Nat.le_of_ble_eq_true rfl) (fun K hl9 hD9 X => ?_)
  subst hl9
  subst hD9
  subst hn
  refine x_aload_n X dS_length_0 rfl 0 rfl ?_
  refine x_sgetf X (X.2.2.2.1.2.1.1 i hi).2.2.1 mS_9 dS_length_1 ?_
  refine x_tlen X (X.2.2.2.1.2.1.1 i hi).2.2.2 rfl dS_length_4 ?_
  refine x_aload_n X dS_length_5 rfl 0 rfl ?_
  refine x_callSR X i hi [] [.int (Int32.ofNat (LEN.getD i 0))] (c_S_coder K.l K.D g wd u i hi) ok_S_coder mS_335 rfl rfl (Nat.le_of_ble_eq_true rfl) ⟨Nat.zero_le _, Nat.zero_le _⟩ ⟨rfl, rfl, by decide, by decide⟩ dS_length_6 ?_
  refine x_ishr X dS_length_9 ?_
  exact x_iret X rfl dS_length_10
set_option maxRecDepth 100000 in
theorem c_S_preIndex {σ : Type} (l : Launch) (D : va_G) (g : Gw) (wd : σ → va_W) (u : σ) (i n : Int32) (v : Value) (hv : v = .null ∨ ∃ t, v = .ref t) (h0 : ¬ i < 0) (h1 : i < n) : metI l D g wd yS_preIndex cS_preIndex 3 .int rmS0 [.int i, .int n, v] u (i, u) := by
  refine metI_of (own := RS2) (lv := [(0, .int i), (1, .int n), (2, v)]) (by decide) rfl (by rcases hv with rfl | ⟨t, rfl⟩ <;> rfl) (by rcases hv with rfl | ⟨t, rfl⟩ <;> exact Nat.le_of_ble_eq_true rfl) (fun K hl9 hD9 X => ?_)
  subst hl9
  subst hD9
  refine x_iload_n X dS_preIndex_0 rfl 0 rfl ?_
  refine x_if_lt (tgt := 9) X dS_preIndex_1 (by decide) (fun c => absurd c h0) (fun c => ?_)
  refine x_iload_n X dS_preIndex_4 rfl 0 rfl ?_
  refine x_iload_n X dS_preIndex_5 rfl 1 rfl ?_
  refine x_icmp_lt (tgt := 16) X dS_preIndex_6 (by decide) (fun c => ?_) (fun c => absurd h1 c)
  refine x_iload_n X dS_preIndex_16 rfl 0 rfl ?_
  exact x_iret X rfl dS_preIndex_17
set_option maxRecDepth 100000 in
theorem c_S_checkIndex {σ : Type} (l : Launch) (D : va_G) (g : Gw) (wd : σ → va_W) (u : σ) (i n : Int32) (h0 : ¬ i < 0) (h1 : i < n) : metV l D g wd yS_checkIndex cS_checkIndex 2 rmS_checkIndex [.int i, .int n] u u := by
  refine metV_of (own := RS0) (lv := [(0, .int i), (1, .int n)]) (by decide) rfl rfl (Nat.le_of_ble_eq_true rfl) (fun K hl9 hD9 X => ?_)
  subst hl9
  subst hD9
  refine x_iload_n X dS_checkIndex_0 rfl 0 rfl ?_
  refine x_iload_n X dS_checkIndex_1 rfl 1 rfl ?_
  have fin : ∀ v : Value, (v = .null ∨ ∃ t, v = .ref t) → XW K 0 0 2 (QV K g wd u) wd u 5 [(0, .int i), (1, .int n)] [v, .int n, .int i] := by
    intro v hv
    refine x_scallR X [.int i, .int n, v] [] (c_S_preIndex K.l K.D g wd u i n v hv h0 h1) ok_S_preIndex mS_1059 rfl rfl (Nat.le_of_ble_eq_true rfl) ⟨Nat.zero_le _, Nat.zero_le _⟩ ⟨rfl, rfl, by decide, by decide⟩ dS_checkIndex_5 ?_
    refine x_pop X dS_checkIndex_8 rfl ?_
    exact x_vret X rfl dS_checkIndex_9
  rcases X.2.2.2.1.2.2.2.2.2.2.2 with hz | ⟨t, hz⟩
  · exact x_gets X hz mS_1053 dS_checkIndex_2 (fin _ (Or.inl rfl))
  · exact x_gets X hz mS_1053 dS_checkIndex_2 (fin _ (Or.inr ⟨t, rfl⟩))
def SCH (i : Nat) (k : Int32) : Int32 := ((BYT.getD i []).getD k.toNatClampNeg 0 &&& 255)
theorem SCH_c (x : Int32) : ((x &&& 255).toUInt32 % 65536).toInt32 = x &&& 255 := sc_c2 x
set_option maxRecDepth 100000 in
theorem c_S_l1charAt {σ : Type} (l : Launch) (D : va_G) (g : Gw) (wd : σ → va_W) (u : σ) (i : Nat) (hi : i < 4) (k : Int32) (hk : vp_in k (LEN.getD i 0)) : metI l D g wd yS_l1charAt cS_l1charAt 2 .char rmS_l1charAt [.ref (g.1 (200 + i)), .int k] u (SCH i k, u) := by
  have hlen : LEN.getD i 0 < 2 ^ 31 := by
    rcases (show i = 0 ∨ i = 1 ∨ i = 2 ∨ i = 3 by omega) with rfl | rfl | rfl | rfl <;> decide
  obtain ⟨j, hj, rfl⟩ := vp_in_of hk hlen
  refine metI_of (own := RS1) (lv := [(0, .ref (g.1 (200 + i))), (1, .int (nI j))]) (by decide) rfl rfl (Nat.le_of_ble_eq_true rfl) (fun K hl9 hD9 X => ?_)
  subst hl9
  subst hD9
  refine x_iload_n X dS_l1charAt_0 rfl 1 rfl ?_
  refine x_aload_n X dS_l1charAt_1 rfl 0 rfl ?_
  refine x_tlen X (X.2.2.2.1.2.1.1 i hi).2.2.2 rfl dS_l1charAt_2 ?_
  refine x_scallV X [.int (nI j), .int (nI (LEN.getD i 0))] [] (c_S_checkIndex K.l K.D g wd u (nI j) (nI (LEN.getD i 0)) (nI_pos (by omega)) (nI_lt hj hlen)) ok_S_checkIndex mS_l9 rfl rfl (Nat.le_of_ble_eq_true rfl) ⟨Nat.zero_le _, Nat.zero_le _⟩ ⟨rfl, rfl, by decide, by decide⟩ dS_l1charAt_3 ?_
  refine x_aload_n X dS_l1charAt_6 rfl 0 rfl ?_
  refine x_iload_n X dS_l1charAt_7 rfl 1 rfl ?_
  refine x_tb X (X.2.2.2.1.2.1.1 i hi).2.2.2 hk rfl dS_l1charAt_8 ?_
  refine x_sipush (v := 255) X dS_l1charAt_9 (by decide) ?_
  refine x_iand X dS_l1charAt_12 ?_
  refine x_i2c X dS_l1charAt_13 ?_
  rw [SCH_c]
  exact x_nret X (sc_nar _) rfl dS_l1charAt_14
set_option maxRecDepth 100000 in
theorem c_S_charAt {σ : Type} (l : Launch) (D : va_G) (g : Gw) (wd : σ → va_W) (u : σ) (i : Nat) (hi : i < 4) (k : Int32) (hk : vp_in k (LEN.getD i 0)) : metI l D g wd yS_charAt cS_charAt 2 .char rmS_charAt [.ref (g.1 (100 + i)), .int k] u (SCH i k, u) := by
  refine metI_of (own := RS0) (lv := [(0, .ref (g.1 (100 + i))), (1, .int k)]) (by decide) rfl rfl (Nat.le_of_ble_eq_true rfl) (fun K hl9 hD9 X => ?_)
  subst hl9
  subst hD9
  refine x_aload_n X dS_charAt_0 rfl 0 rfl ?_
  refine x_callSR X i hi [] [] (c_S_isLatin1 K.l K.D g wd u i hi) ok_S_isLatin1 mS_492 rfl rfl (Nat.le_of_ble_eq_true rfl) ⟨Nat.zero_le _, Nat.zero_le _⟩ ⟨rfl, rfl, by decide, by decide⟩ dS_charAt_1 ?_
  refine x_if_eq (tgt := 16) X dS_charAt_4 (by decide) (fun c => absurd c (by decide)) (fun c => ?_)
  refine x_aload_n X dS_charAt_7 rfl 0 rfl ?_
  refine x_sgetf X (X.2.2.2.1.2.1.1 i hi).2.2.1 mS_9 dS_charAt_8 ?_
  refine x_iload_n X dS_charAt_11 rfl 1 rfl ?_
  refine x_scallR X [.ref (g.1 (200 + i)), .int k] [] (c_S_l1charAt K.l K.D g wd u i hi k hk) ok_S_l1charAt mS_495 rfl rfl (Nat.le_of_ble_eq_true rfl) ⟨Nat.zero_le _, Nat.zero_le _⟩ ⟨rfl, rfl, by decide, by decide⟩ dS_charAt_12 ?_
  exact x_nret X (by unfold SCH; exact sc_nar _) rfl dS_charAt_15

theorem m_X3_34 : Cond.methodLink RX3 34 yS_length ∈ TBL := TBL_mem 438 (by decide +kernel) (by decide +kernel)
theorem m_X3_40 : Cond.methodLink RX3 40 yS_charAt ∈ TBL := TBL_mem 448 (by decide +kernel) (by decide +kernel)
