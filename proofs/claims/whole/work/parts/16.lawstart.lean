def tmS (i : Nat) : Term := match i with
  | 0 => .string "ClassShape$Names" 7
  | 1 => .string "ClassShape$Names" 14
  | 2 => .string "ClassShape$Judging" 195
  | _ => .string "ClassShape$Judging" 211
theorem c4 {P : Nat → Prop} (h0 : P 0) (h1 : P 1) (h2 : P 2) (h3 : P 3) : ∀ i, i < 4 → P i := by
  intro i hi
  rcases (show i = 0 ∨ i = 1 ∨ i = 2 ∨ i = 3 by omega) with rfl | rfl | rfl | rfl
  · exact h0
  · exact h1
  · exact h2
  · exact h3
set_option maxRecDepth 100000 in
theorem narrow_el : ∀ i, i < 4 → ∀ j, j < LEN.getD i 0 → Cond.eq (.elem (.field (tmS i) "java/lang/String" "value" "[B") (.int (Int32.ofNat j))) (.int ((BYT.getD i []).getD j 0)) ∈ flatC (Jvm.Cond.and given_1 narrow_1) := by decide +kernel
set_option maxRecDepth 100000 in
theorem narrow_ne : ∀ i, i < 4 → ∀ j, j < 4 → i ≠ j → (Cond.not (Cond.eq (tmS i) (tmS j)) ∈ flatC (Jvm.Cond.and given_1 narrow_1) ∨ Cond.not (Cond.eq (tmS j) (tmS i)) ∈ flatC (Jvm.Cond.and given_1 narrow_1)) := by decide +kernel
set_option maxRecDepth 100000 in
set_option maxHeartbeats 4000000 in
theorem ex_start {p : Program} {s : State} {m : MethodId} {meth : Method} {c : Code} {b L : Nat} {xs : Nat → Int32} (C0 : lw_At p s m meth c b L xs) (cI cZ : ClassId) : ∃ ad : Nat → Nat, exOk (ad, fun i => if i = 0 then cI else cZ) (fun q => s.heap.size ≤ q) s s.heap := by
  obtain ⟨hx, hb, hr, hml, hown, hts, hX, hbl, hlocks, hgv⟩ := C0
  have hA : ∀ a : Nat, a < s.heap.size → ¬ (fun q => s.heap.size ≤ q) a := fun a h => Nat.not_le.mpr h
  have hs := flat_of_before _ hgv
  obtain ⟨adK, adV, hS, hev⟩ := vk_Sof (args := #[Value.ref b]) (s := s) (N := 4) (tm := tmS) (len := LEN) (byt := BYT) (A := fun q => s.heap.size ≤ q) (by decide)
    (c4 (hs _ (by decide +kernel)) (hs _ (by decide +kernel)) (hs _ (by decide +kernel)) (hs _ (by decide +kernel)))
    (c4 (hs _ (by decide +kernel)) (hs _ (by decide +kernel)) (hs _ (by decide +kernel)) (hs _ (by decide +kernel)))
    (c4 (hs _ (by decide +kernel)) (hs _ (by decide +kernel)) (hs _ (by decide +kernel)) (hs _ (by decide +kernel)))
    (c4 (hs _ (by decide +kernel)) (hs _ (by decide +kernel)) (hs _ (by decide +kernel)) (hs _ (by decide +kernel)))
    (fun i hi j hj => hs _ (narrow_el i hi j hj))
    (fun i j hi hj hne => (narrow_ne i hi j hj hne).elim (fun h => Or.inl (hs _ h)) (fun h => Or.inr (hs _ h))) hA
  refine ⟨fun i => if i < 200 then adK (i - 100) else adV (i - 200), ?_, ?_, ?_, ?_, ?_, ?_, ?_, ?_⟩
  · intro w hw
    rw [NW, List.mem_singleton] at hw
    subst hw
    exact va_Nw.of rfl (hts _ (List.mem_of_getElem? (i := 83 + 26) (by decide +kernel)))
  · have e1 : ∀ i, i < 4 → (fun i => if i < 200 then adK (i - 100) else adV (i - 200)) (100 + i) = adK i := fun i hi => by
      show (if 100 + i < 200 then adK (100 + i - 100) else _) = _
      rw [if_pos (by omega)]; congr 1; omega
    have e2 : ∀ i, i < 4 → (fun i => if i < 200 then adK (i - 100) else adV (i - 200)) (200 + i) = adV i := fun i hi => by
      show (if 200 + i < 200 then _ else adV (200 + i - 200)) = _
      rw [if_neg (by omega)]; congr 1; omega
    refine ⟨fun i hi => ?_, fun i j hi hj he => ?_⟩
    · have q := hS.1 i hi
      rw [← e1 i hi, ← e2 i hi] at q
      exact q
    · exact hS.2 i j hi hj (by rw [← e1 i hi, ← e1 j hj]; exact he)
  · exact vk_R.of (A := #[Value.ref b]) (hts _ (List.mem_of_getElem? (i := 83 + 351) (by decide +kernel))) (hev 0 (by decide))
  · exact vk_R.of (A := #[Value.ref b]) (hts _ (List.mem_of_getElem? (i := 83 + 403) (by decide +kernel))) (hev 1 (by decide))
  · exact vk_R.of (A := #[Value.ref b]) (hts _ (List.mem_of_getElem? (i := 83 + 511) (by decide +kernel))) (hev 2 (by decide))
  · exact vk_R.of (A := #[Value.ref b]) (hts _ (List.mem_of_getElem? (i := 83 + 529) (by decide +kernel))) (hev 3 (by decide))
  · exact va_Zof (args := #[Value.ref b]) (hts _ (List.mem_of_getElem? (i := 83 + 364) (by decide +kernel))) (hts _ (List.mem_of_getElem? (i := 83 + 10) (by decide +kernel))) (va_eqt (hs _ (by decide +kernel))) hA
  · exact va_Zqof (args := #[Value.ref b]) (hts _ (List.mem_of_getElem? (i := 83 + 380) (by decide +kernel))) (hts _ (List.mem_of_getElem? (i := 83 + 12) (by decide +kernel))) (hs _ (by decide +kernel)) hA
theorem x_chg {σ : Type} {K : Cx} {nL : Nat} {Q : State → Prop} {wd : σ → va_W} {u : σ} {ws : va_W} {pc ce sl : Nat} {lv : List (Nat × Value)} {st : List Value} (h : wd u = ws) (k : XW K ce sl nL Q wd u pc lv st) : XW K ce sl nL Q idW ws pc lv st := by
  subst h
  exact k
theorem mt_X6 : Cond.instantiable RX6 5 ∈ TBL := TBL_mem (83 + 17) (by decide +kernel) (by decide +kernel)
theorem mt_X7 : Cond.instantiable RX7 33 ∈ TBL := TBL_mem (83 + 638) (by decide +kernel) (by decide +kernel)
theorem mkL_7 : Cond.classLink R_law 7 RX6 ∈ TBL := TBL_mem (83 + 16) (by decide +kernel) (by decide +kernel)
theorem mkL_10 : Cond.classLink R_law 10 RX7 ∈ TBL := TBL_mem (83 + 637) (by decide +kernel) (by decide +kernel)
theorem mL_9 : Cond.methodLink R_law 9 yX6_init ∈ TBL := TBL_mem (83 + 18) (by decide +kernel) (by decide +kernel)
theorem mL_12 : Cond.methodLink R_law 12 yX7_init ∈ TBL := TBL_mem (83 + 639) (by decide +kernel) (by decide +kernel)
/-- the law's addresses -/
def gL (g : Gw) (a1 a2 : Nat → Nat) : Gw := (fun i => if i < 50 then a1 i else if i < 100 then a2 (i - 50) else g.1 i, g.2)
theorem exOk_gL {g : Gw} {a1 a2 : Nat → Nat} {A : Nat → Prop} {U : State} {H : Heap} (h : exOk g A U H) : exOk (gL g a1 a2) A U H := by
  obtain ⟨h1, h2, h3, h4, h5, h6, h7, h8⟩ := h
  have e1 : (fun i => (gL g a1 a2).1 (100 + i)) = (fun i => g.1 (100 + i)) := by
    funext i
    show (if 100 + i < 50 then _ else if 100 + i < 100 then _ else _) = _
    rw [if_neg (by omega), if_neg (by omega)]
  have e2 : (fun i => (gL g a1 a2).1 (200 + i)) = (fun i => g.1 (200 + i)) := by
    funext i
    show (if 200 + i < 50 then _ else if 200 + i < 100 then _ else _) = _
    rw [if_neg (by omega), if_neg (by omega)]
  refine ⟨h1, ?_, h3, h4, h5, h6, h7, h8⟩
  rw [e1, e2]
  exact h2
set_option maxRecDepth 100000 in
set_option maxHeartbeats 4000000 in
theorem k_start {p : Program} {s : State} {m : MethodId} {meth : Method} {c : Code} {b L : Nat} {xs : Nat → Int32} (C0 : lw_At p s m meth c b L xs) : ∃ (D : va_G) (cI cZ : ClassId), va_K D vwCl [(cI, .int), (cZ, .boolean)] s := by
  obtain ⟨hx, hb, hr, hml, hown, hts, hX, hbl, hlocks, hgv⟩ := C0
  have hT : ∀ w ∈ TBL, w.before #[Value.ref b] s = true := fun w hw => hts w (List.mem_filter.mp hw).1
  obtain ⟨c0, i0, h0⟩ := u_known (C := RX0) (T := TX0) (N := 10) (n := 10) hT in_X0 (hT _ mt_X0)
  obtain ⟨c1, i1, h1⟩ := u_known (C := RX1) (T := TX1) (N := 2) (n := 2) hT in_X1 (hT _ mt_X1)
  obtain ⟨c2, i2, h2⟩ := u_known (C := RX2) (T := TX2) (N := 7) (n := 7) hT in_X2 (hT _ mt_X2)
  obtain ⟨c3, i3, h3⟩ := u_known (C := RX4) (T := TX4) (N := 5) (n := 5) hT in_X4 (hT _ mt_X4)
  obtain ⟨c4, i4, h4⟩ := u_known (C := RX5) (T := TX5) (N := 7) (n := 7) hT in_X5 (hT _ mt_X5)
  obtain ⟨c5, i5, h5⟩ := u_known (C := RX6) (T := TX6) (N := 5) (n := 5) hT in_X6 (hT _ mt_X6)
  obtain ⟨c6, i6, h6⟩ := u_known (C := RX7) (T := TX7) (N := 33) (n := 33) hT in_X7 (hT _ mt_X7)
  obtain ⟨cI, kI, coI, gI1, gI2, gI3⟩ := Cond.arrayClass_spec (hT _ mAr_int)
  obtain ⟨cZ, kZ, coZ, gZ1, gZ2, gZ3⟩ := Cond.arrayClass_spec (hT _ mAr_boolean)
  refine ⟨(fun k => match k with | 0 => c0 | 1 => c1 | 2 => c2 | 3 => c3 | 4 => c4 | 5 => c5 | _ => c6, fun k => match k with | 0 => i0 | 1 => i1 | 2 => i2 | 3 => i3 | 4 => i4 | 5 => i5 | _ => i6), cI, cZ, ?_, ?_⟩
  · intro k q hq
    match k, hq with
    | 0, hq => cases hq; exact h0
    | 1, hq => cases hq; exact h1
    | 2, hq => cases hq; exact h2
    | 3, hq => cases hq; exact h3
    | 4, hq => cases hq; exact h4
    | 5, hq => cases hq; exact h5
    | 6, hq => cases hq; exact h6
    | k + 7, hq => simp [vwCl] at hq
  · intro k q hq
    match k, hq with
    | 0, hq => cases hq; exact ⟨fun n z => ⟨fun k h => (by cases h), kI, gI2, coI, gI3⟩, gI1⟩
    | 1, hq => cases hq; exact ⟨fun n z => ⟨fun k h => (by cases h), kZ, gZ2, coZ, gZ3⟩, gZ1⟩
    | k + 2, hq => simp at hq
set_option maxRecDepth 100000 in
set_option maxHeartbeats 8000000 in
theorem whole_start_of {RR : St → St → Prop} (ops : OPS RR) (hR0 : RR (fun _ _ => 0) u0M) {p : Program} {e : Env} {s : State} {m : MethodId} {below : List Frame} {meth : Method} {c : Code} (l : Launch) {b L : Nat} {xs : Nat → Int32} (hL : L ≤ 2048) (C0 : lw_At p s m meth c b L xs) : W p l e room_1 s m #[Value.ref b] below meth c s.heap [] 0 0 (lw_Z below #[Value.ref b] s) (entryFrame m ([Value.ref b] : List Value).toArray 4) := by
  obtain ⟨hx, hb, hr, hml, hown, hts, hX, hbl, hlocks, hgv⟩ := id C0
  have hT : ∀ w ∈ TBL, w.before #[Value.ref b] s = true := fun w hw => hts w (List.mem_filter.mp hw).1
  obtain ⟨D, cI, cZ, hK⟩ := k_start C0
  obtain ⟨ad, hE⟩ := ex_start C0 cI cZ
  obtain ⟨g, hg⟩ : ∃ g : Gw, g = (ad, fun i => if i = 0 then cI else cZ) := ⟨_, rfl⟩
  have hE : exOk g (fun q => s.heap.size ≤ q) s s.heap := by rw [hg]; exact hE
  have hK : va_K D vwCl (tyXM g) s := by rw [hg]; exact hK
  obtain ⟨K, hKe⟩ : ∃ K : Cx, K = (p, l, e, room_1, s, m, #[Value.ref b], below, meth, c, D, fun q => s.heap.size ≤ q) := ⟨_, rfl⟩
  have X : XC K g code 4 R_law ret room_1 := by
    subst hKe
    exact ⟨⟨hx, hb, hml, hown, hT⟩, hK, fun q h => h, hE, hr, hlocks, rfl⟩
  have hargs : K.args = #[Value.ref b] := by subst hKe; rfl
  have hKA : K.A = fun q => K.s.heap.size ≤ q := by subst hKe; rfl
  have hX : va_X b L xs K.s K.s.heap := by subst hKe; exact hX
  have hbl : b < K.s.heap.size := by subst hKe; exact hbl
  have go : XW K 0 0 4 (lw_Z K.below #[Value.ref b] K.s) idW [] 0 [(0, .ref b)] [] := by
    refine x_new X 5 [.null, .null, .null, .null, .int 0] in_X6 tk_X6 mkL_7 mt_X6 mi_X6 rfl (by decide) (by decide) (by decide) dL_0 (fun q => ?_)
    show XW K 1 5 4 _ idW [(q, .inr (5, [.null, .null, .null, .null, .int 0]))] 3 [(0, .ref b)] [.ref q]
    refine x_dup X dL_3 rfl ?_
    refine x_callC X [] [.ref q] [(q, .inr (5, [.null, .null, .null, .null, .int 0]))] [] [0] [] (c_X6_init K.l K.D g q) okc_X6 mL_9 rfl rfl (by decide) rfl (by decide) (by decide) rfl rfl (Nat.le_of_ble_eq_true rfl) (by decide) ⟨rfl, rfl, by decide, by decide⟩ dL_4 (fun a1 => ?_)
    show XW K 15 953 4 _ idW (wdX (adq q a1, g.2) (fun _ _ => 0)) 7 [(0, .ref b)] [.ref q]
    refine x_astore_n (lv2 := [(1, .ref q), (0, .ref b)]) X dL_7 rfl (by decide) rfl ?_
    refine x_new X 6 [.null, .int 0, .null, .int 0, .int 0, .int 0, .int 0, .int 0, .int 0, .int 0, .int 0, .null, .null, .null, .null, .null, .int 0, .null, .null, .null, .null, .int 0, .int 0, .int 0, .int 0, .int 0, .int 0, .int 0, .null, .null, .null, .null, .null] in_X7 tk_X7 mkL_10 mt_X7 mi_X7 rfl (by decide) (by decide) (by decide) dL_8 (fun q2 => ?_)
    show XW K 16 986 4 _ idW (wdX (adq q a1, g.2) (fun _ _ => 0) ++ [(q2, .inr (6, [.null, .int 0, .null, .int 0, .int 0, .int 0, .int 0, .int 0, .int 0, .int 0, .int 0, .null, .null, .null, .null, .null, .int 0, .null, .null, .null, .null, .int 0, .int 0, .int 0, .int 0, .int 0, .int 0, .int 0, .null, .null, .null, .null, .null]))]) 11 [(1, .ref q), (0, .ref b)] [.ref q2]
    refine x_dup X dL_11 rfl ?_
    refine x_callC X [] [.ref q2] [(q2, .inr (6, [.null, .int 0, .null, .int 0, .int 0, .int 0, .int 0, .int 0, .int 0, .int 0, .int 0, .null, .null, .null, .null, .null, .int 0, .null, .null, .null, .null, .int 0, .int 0, .int 0, .int 0, .int 0, .int 0, .int 0, .null, .null, .null, .null, .null]))] (wdX (adq q a1, g.2) (fun _ _ => 0)) [15] [0, 1, 2, 3, 4, 5, 6, 7, 8, 9, 10, 11, 12, 13, 14] (c_X7_init K.l K.D g q2) okc_X7 mL_12 rfl rfl (by decide) rfl (by decide) (by decide) rfl rfl (Nat.le_of_ble_eq_true rfl) (by decide) ⟨rfl, rfl, by decide, by decide⟩ dL_12 (fun a2 => ?_)
    show XW K 32 3550 4 _ idW (wdX (adq q a1, g.2) (fun _ _ => 0) ++ wdM (adq q2 a2, g.2) u0M) 15 [(1, .ref q), (0, .ref b)] [.ref q2]
    refine x_astore_n (lv2 := [(2, .ref q2), (1, .ref q), (0, .ref b)]) X dL_15 rfl (by decide) rfl ?_
    refine x_iconst (v := 0) X dL_16 (by decide) ?_
    refine x_istore_n (lv2 := [(3, .int 0), (2, .ref q2), (1, .ref q), (0, .ref b)]) X dL_17 rfl (by decide) rfl ?_
    refine x_chg (wd := wdL (gL g (adq q a1) (adq q2 a2))) (u := ((fun _ _ => 0 : St), u0M)) rfl ?_
    refine x_sub [3, 2, 1, 0] rfl ?_
    have X2 : XC K (gL g (adq q a1) (adq q2 a2)) code 4 R_law ret room_1 := ⟨X.1, X.2.1, X.2.2.1, exOk_gL X.2.2.2.1, X.2.2.2.2⟩
    exact law_loop ops hL X2 hargs hKA hX hbl (L + 4) 0 ((fun _ _ => 0 : St), u0M) (by omega) (by omega) hR0
  subst hKe
  have hl := lv_entry ([.ref b]) (n := 4) (Nat.le_of_ble_eq_true rfl)
  rw [lg_entry_eq]
  have hP : va_P D vwCl [] s.heap := fun k q h => by simp at h
  have hD : va_D (fun q : Nat => s.heap.size ≤ q) [] := ⟨fun i j p q h => by simp at h, fun k q h => by simp at h⟩
  exact go s.heap [] _ hl hP hD va_S.rf

