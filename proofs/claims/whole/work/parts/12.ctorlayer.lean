abbrev idW : va_W → va_W := fun w => w
theorem mAr_int : Cond.arrayClass .int ∈ TBL := TBL_mem (83 + 44) (by decide +kernel) (by decide +kernel)
theorem mAr_boolean : Cond.arrayClass .boolean ∈ TBL := TBL_mem (83 + 148) (by decide +kernel) (by decide +kernel)
theorem mOb_inst : Cond.instanceMethod objectInit ∈ TBL := TBL_mem (83 + 22) (by decide +kernel) (by decide +kernel)
theorem mOb_code : Cond.code objectInit ⟨#[0xb1]⟩ 1 none ∈ TBL := TBL_mem (83 + 23) (by decide +kernel) (by decide +kernel)
/-- the contract of a constructor: from the cells wc to the cells w1 x, for some x -/
def metC {S : Type} (l : Launch) (D : va_G) (g : Gw) (y : MethodName) (b : ByteArray) (n : Nat) (rm : Room) (av : List Value) (wc : va_W) (w1 : S → va_W) (mc ms : Nat) : Prop :=
  ∀ sz : Nat, Met l y (Cond.code y b n none :: TBL) rm (va_Pc av (mPre D g idW wc sz)) (va_Qv (fun _ : S => True) (fun (x : S) t => va_P D vwCl (w1 x) t.heap ∧ va_K D vwCl (tyXM g) t ∧ va_D (va_A wc sz) (w1 x)) (va_A wc sz)) mc ms (va_A wc sz)
def QC {S : Type} (K : Cx) (g : Gw) (w1 : S → va_W) (mc ms : Nat) : State → Prop :=
  MQ K.below (va_Qv (fun _ : S => True) (fun (x : S) t => va_P K.D vwCl (w1 x) t.heap ∧ va_K K.D vwCl (tyXM g) t ∧ va_D K.A (w1 x)) K.A) K.args K.s mc ms K.A
theorem metC_of {S : Type} {l : Launch} {D : va_G} {g : Gw} {y : MethodName} {b : ByteArray} {n : Nat} {rm : Room} {av : List Value} {wc : va_W} {w1 : S → va_W} {mc ms : Nat} {own : String} {lv : List (Nat × Value)} (hy : plainName y.cls = true) (hcls : y.cls = own) (hn : y.name = "<init>") (hlv : lv_args 0 av = lv) (hle : (lg_sl av).length ≤ n)
    (body : ∀ K : Cx, K.l = l → K.D = D → XC K g b n own none rm → K.meth.name = "<init>" → XW K 0 0 n (QC K g w1 mc ms) idW wc 0 lv []) : metC l D g y b n rm av wc w1 mc ms := by
  intro sz
  refine Met.ofW (cc := b) (maxL := n) (ret := none) hy rfl ?_
  intro p e s m args below meth c s₁ B hml hv
  obtain ⟨rfl, hsz, hP, hK, hD0, hN⟩ := hv
  subst hsz
  have hts := atoms_spec (ws := Cond.code y b n none :: TBL) B.pre
  have hown : s.vm.findClass own = some m.cls := by rw [← hcls]; exact findClass_of_methodNamed B.named
  have hin : meth.name = "<init>" := by rw [← hn]; exact (name_of_methodNamed B.named B.method).1
  have X := body (p, l, e, rm, s, m, av.toArray, below, meth, c, D, va_A wc s.heap.size) rfl rfl ⟨⟨B.exec, B.bytes, hml, hown, fun w h => hts w (List.mem_cons_of_mem _ h)⟩, hK, fun q h => Or.inr h, hN, B.returns, B.notSynchronized, rfl⟩ hin
  have hl := lv_entry av (n := n) hle
  rw [lg_entry_eq]
  rw [hlv] at hl
  exact X s.heap [] _ hl hP (hD0.self (sz := s.heap.size)) va_S.rf
section CROWS
variable {K : Cx} {g : Gw} {cc : ByteArray} {nL : Nat} {own : String} {rt : Option FieldType} {R0 : Room} {Q : State → Prop} {ws : va_W} {pc ce sl : Nat} {lv : List (Nat × Value)} {rest : List Value}
theorem x_objInit (X : XC K g cc nL own rt R0) {a index : Nat} (hm : Cond.methodLink own index objectInit ∈ TBL) (hdg : decode cc pc = .ok (.invokespecial index, 3)) (hfr : 1 ≤ R0.frames) (hlo : (rest.map fun v => v.category).sum + 12 ≤ R0.locals) (k : XW K ce sl nL Q idW ws (pc + 3) lv rest) : XW K ce sl nL Q idW ws pc lv (.ref a :: rest) := fun H locs ls hl hP hD hS =>
  W.objInit X.1.1 X.1.2.1 X.1.2.2.2.1 (X.1.2.2.2.2 _ hm) (X.1.2.2.2.2 _ mOb_inst) (X.1.2.2.2.2 _ mOb_code) rfl (hl.1.trans X.1.2.2.1.symm) rfl hdg (by rw [X.2.2.2.2.2.2]; exact hfr) (by rw [X.2.2.2.2.2.2]; show 2 * 0 + _ + 12 ≤ _; omega) (k H locs ls hl hP hD hS)
theorem x_new (X : XC K g cc nL own rt R0) {C : String} {T : u_T} {N index : Nat} {ty : Nat → FieldType} (ci : Nat) (fs : List Value) (hin : ∀ w ∈ u_ws C T N, w ∈ TBL) (hty : ∀ k, k < N → parseFieldDescriptor (T k).2.2.1 = some (ty k)) (hm1 : Cond.classLink own index C ∈ TBL) (hm2 : Cond.instantiable C N ∈ TBL) (hm3 : Cond.initialized C ∈ TBL) (hc : vwCl[ci]? = some (C, T, N)) (hfs : ∀ j, j < N → defaultValue (ty j) = vp_V fs j) (hcells : ce + 1 ≤ R0.cells) (hslots : sl + N ≤ R0.slots) (hdg : decode cc pc = .ok (.new index, 3)) (k : ∀ q : Nat, XW K (ce + 1) (sl + N) nL Q idW (ws ++ [(q, .inr (ci, fs))]) (pc + 3) lv (.ref q :: rest)) : XW K ce sl nL Q idW ws pc lv rest := fun H locs ls hl hP hD hS =>
  va_new X.1.1 X.1.2.1 X.1.2.2.2.2 hin ty hty X.1.2.2.2.1 (X.1.2.2.2.2 _ hm1) (X.1.2.2.2.2 _ hm2) (X.1.2.2.2.2 _ hm3) X.2.1 hP hD hS X.2.2.1 hc hfs (by rw [X.2.2.2.2.2.2]; exact hcells) (by rw [X.2.2.2.2.2.2]; exact hslots) hdg (fun q H1 hP1 hD1 hS1 => k q H1 locs ls hl hP1 hD1 hS1)
theorem x_newI (X : XC K g cc nL own rt R0) {n : Int32} (N : Nat) (hn : ¬ n < 0) (hN : n.toNatClampNeg = N) (hb : N * componentBytes .int ≤ 536870912) (hcells : ce + 1 ≤ R0.cells) (hslots : sl + N ≤ R0.slots) (hdg : decode cc pc = .ok (.newarray .int, 2)) (k : ∀ q : Nat, XW K (ce + 1) (sl + N) nL Q idW (ws ++ [(q, .inl (g.2 0, N, .inl (fun _ => 0)))]) (pc + 2) lv (.ref q :: rest)) : XW K ce sl nL Q idW ws pc lv (.int n :: rest) := fun H locs ls hl hP hD hS =>
  va_newa (atype := .int) (a0 := (N, .inl (fun _ => 0))) (ty := .int) X.1.1 X.1.2.1 (X.1.2.2.2.2 _ mAr_int) rfl X.2.1 hP hD hS X.2.2.1 (fun cA => rfl) hn hN hb (by rw [X.2.2.2.2.2.2]; exact hcells) (by rw [X.2.2.2.2.2.2]; exact hslots) hdg (fun q cA H1 hK1 hP1 hD1 hS1 => by
    have e1 : K.s.vm.findClass ("[" ++ (FieldType.int).toString) = some cA := (hK1.2 2 (cA, .int) rfl).2
    have e2 : K.s.vm.findClass ("[" ++ (FieldType.int).toString) = some (g.2 0) := (X.2.1.2 0 (g.2 0, .int) rfl).2
    have e3 : cA = g.2 0 := Option.some.inj (e1.symm.trans e2)
    subst e3
    exact k q H1 locs ls hl hP1 hD1 hS1)
theorem x_newZ (X : XC K g cc nL own rt R0) {n : Int32} (N : Nat) (hn : ¬ n < 0) (hN : n.toNatClampNeg = N) (hb : N * componentBytes .boolean ≤ 536870912) (hcells : ce + 1 ≤ R0.cells) (hslots : sl + N ≤ R0.slots) (hdg : decode cc pc = .ok (.newarray .boolean, 2)) (k : ∀ q : Nat, XW K (ce + 1) (sl + N) nL Q idW (ws ++ [(q, .inl (g.2 1, N, .inl (fun _ => 0)))]) (pc + 2) lv (.ref q :: rest)) : XW K ce sl nL Q idW ws pc lv (.int n :: rest) := fun H locs ls hl hP hD hS =>
  va_newa (atype := .boolean) (a0 := (N, .inl (fun _ => 0))) (ty := .boolean) X.1.1 X.1.2.1 (X.1.2.2.2.2 _ mAr_boolean) rfl X.2.1 hP hD hS X.2.2.1 (fun cA => rfl) hn hN hb (by rw [X.2.2.2.2.2.2]; exact hcells) (by rw [X.2.2.2.2.2.2]; exact hslots) hdg (fun q cA H1 hK1 hP1 hD1 hS1 => by
    have e1 : K.s.vm.findClass ("[" ++ (FieldType.boolean).toString) = some cA := (hK1.2 2 (cA, .boolean) rfl).2
    have e2 : K.s.vm.findClass ("[" ++ (FieldType.boolean).toString) = some (g.2 1) := (X.2.1.2 1 (g.2 1, .boolean) rfl).2
    have e3 : cA = g.2 1 := Option.some.inj (e1.symm.trans e2)
    subst e3
    exact k q H1 locs ls hl hP1 hD1 hS1)
theorem x_putF (X : XC K g cc nL own rt R0) (hin2 : K.meth.name = "<init>") {a ci N index : Nat} {C : String} {T : u_T} {fs : List Value} {v : Value} {ty : FieldType} {ty0 : Nat → FieldType} (ws2 : va_W) (q0 k0 : Nat) (hin : ∀ w ∈ u_ws C T N, w ∈ TBL) (hty : ∀ k, k < N → parseFieldDescriptor (T k).2.2.1 = some (ty0 k)) (hnm : ∀ a, a < N → ∀ b, b < N → a ≠ b → (T a).2.1 ≠ (T b).2.1) (he : ws[q0]? = some (a, .inr (ci, fs))) (hc : vwCl[ci]? = some (C, T, N)) (hk : k0 < N) (hm : Cond.fieldLink own index (T k0).1 (T k0).2.1 (T k0).2.2.1 ∈ TBL) (hfin : (T k0).2.2.2 = true) (hdecl : (T k0).1 = own) (hd : ty0 k0 = ty) (hn : narrow ty v = v) (hfit : fits ty v = true) (hlen : k0 < fs.length) (hw : ws.set q0 (a, .inr (ci, fs.set k0 v)) = ws2) (hdg : decode cc pc = .ok (.putfield index, 3)) (k : XW K ce sl nL Q idW ws2 (pc + 3) lv rest) : XW K ce sl nL Q idW ws pc lv (v :: .ref a :: rest) := fun H locs ls hls hP hD hS =>
  va_putF X.1.1 X.1.2.1 X.1.2.2.2.2 hin ty0 hty hnm X.1.2.2.2.1 X.2.1 hP hD hS q0 he hc k0 hk (X.1.2.2.2.2 _ hm) (fun _ h => h) hfin hin2 hdecl (hd ▸ hty k0 hk) hn hfit hlen hdg (fun H1 locs1 hP1 hD1 hS1 => k H1 locs1 ls hls (hw ▸ hP1) (hw ▸ hD1) hS1)
theorem x_wsub {ws2 : va_W} (is : List Nat) (hs : is.filterMap (fun i => ws[i]?) = ws2) (hn : va_nd is = true) (hm : is.map (fun i => ws[i]?) = ws2.map some) (k : XW K ce sl nL Q idW ws2 pc lv rest) : XW K ce sl nL Q idW ws pc lv rest := fun H locs ls hl hP hD hS => k H locs ls hl (va_P.sub hP is hs) (va_D.sub hD is hn hm) hS
theorem x_cret {S : Type} {w1 : S → va_W} {mc ms : Nat} (X : XC K g cc nL own none R0) (x : S) (hw : ws = w1 x) (hdg : decode cc pc = .ok (.return_, 1)) : XW K mc ms nL (QC K g w1 mc ms) idW ws pc lv [] := fun H locs ls hl hP hD hS => by
  subst hw
  exact W.vret X.1.1 X.1.2.1 X.2.2.2.2.1 (fun t ht hW => ⟨⟨x, rfl, trivial, by rw [ht]; exact hP, va_K.moved hW.alike X.2.1, hD⟩, hS.F ht⟩) hS.2.2 hdg X.2.2.2.2.2.1
/-- a constructor's words -/
def okC (y : MethodName) (b : ByteArray) (n nA : Nat) : Prop := (Cond.instanceMethod y ∈ TBL ∧ Cond.initialized y.cls ∈ TBL ∧ Cond.code y b n none ∈ TBL) ∧ y.name = "<init>" ∧ (y.cls ≠ "java/lang/invoke/MethodHandle" ∧ y.cls ≠ "java/lang/invoke/VarHandle" ∧ (parseMethodDescriptor y.desc).map (fun d => d.parameters.length) = some nA)
theorem okC_in {y : MethodName} {b : ByteArray} {n nA : Nat} (ok : okC y b n nA) : GoodIn TBL (Cond.code y b n none :: TBL) := TBL_in (fun w hw => by
  rcases List.mem_cons.mp hw with rfl | hw
  · exact ok.1.2.2
  · exact hw)
theorem x_callC {S : Type} {w1 : S → va_W} {mc ms a n nA index : Nat} {y : MethodName} {b : ByteArray} {rm : Room} {st : List Value} (X : XC K g cc nL own rt R0) (As rest : List Value) (wc wr : va_W) (isC isR : List Nat) (hM : metC K.l K.D g y b n rm (.ref a :: As) wc w1 mc ms) (ok : okC y b n nA) (hm : Cond.methodLink own index y ∈ TBL) (hC : isC.map (fun i => ws[i]?) = wc.map some) (hCf : isC.filterMap (fun i => ws[i]?) = wc) (hCn : va_nd isC = true) (hR : isR.map (fun i => ws[i]?) = wr.map some) (hnd : va_nd isR = true) (hdis : ∀ i ∈ isR, i ∉ isC) (hn : As.length = nA) (hst : st = As.reverse ++ .ref a :: rest) (hrm : (rest.map fun v => v.category).sum ≤ 8) (hCS : ce + mc ≤ R0.cells ∧ sl + ms ≤ R0.slots) (hRm : rm.cells = mc ∧ rm.slots = ms ∧ rm.frames + 1 ≤ R0.frames ∧ 8 + (n + 11) + rm.locals ≤ R0.locals) (hdg : decode cc pc = .ok (.invokespecial index, 3)) (k : ∀ x : S, XW K (ce + mc) (sl + ms) nL Q idW (wr ++ w1 x) (pc + 3) lv rest) : XW K ce sl nL Q idW ws pc lv st := fun H locs ls hl hP hD hS => by
  have hF := va_free (wc := wc) hD hS X.2.2.1 isC hC
  have hPc := va_P.sub hP isC hCf
  have hDc := va_D.sub hD isC hCn hC
  refine va_callv (va_runI (As := As) (rest := rest) X.1 (hM H.size) (cwI nA X.1.2.2.2.2 (okC_in ok) rfl hRm.1 hRm.2.1 (X.1.2.2.2.2 _ ok.1.2.1) (X.1.2.2.2.2 _ hm) (X.1.2.2.2.2 _ ok.1.1) ok.2.1 ok.2.2 (by rw [X.2.2.2.2.2.2]; exact hRm.2.2)) ⟨mPre_blind, fun U hU hW => ⟨rfl, by rw [hU], by rw [hU]; exact hPc, va_K.moved hW.alike X.2.1, hDc.weaken (fun _ _ _ _ => trivial), X.2.2.2.1.call hS hF hU hW⟩⟩ rfl hn hl.1 hst (lv_room hrm) hdg (by rw [X.2.2.2.2.2.2]; exact hCS)) hS (fun q _ h => hF q h) hF (fun x t H1 locs1 ht hvm hw hB hz1 hk1 hS1 => ?_)
  obtain ⟨hP1, -, hD1⟩ := hB
  rw [ht] at hP1
  obtain ⟨hP2, hD2⟩ := va_join (wr := wr) (w1 := w1 x) hP hD isC isR hC hR hnd hdis hk1 hF hP1 hD1
  exact k x H1 locs1 ls hl hP2 hD2 hS1
theorem x_callCN {S : Type} {w1 : S → va_W} {mc ms a n nA index : Nat} {y : MethodName} {host : String} {b : ByteArray} {rm : Room} {st : List Value} (X : XC K g cc nL own rt R0) (As rest : List Value) (wc wr : va_W) (isC isR : List Nat) (hM : metC K.l K.D g y b n rm (.ref a :: As) wc w1 mc ms) (ok : okC y b n nA) (hm : Cond.methodLinkNest own index y host ∈ NW) (hC : isC.map (fun i => ws[i]?) = wc.map some) (hCf : isC.filterMap (fun i => ws[i]?) = wc) (hCn : va_nd isC = true) (hR : isR.map (fun i => ws[i]?) = wr.map some) (hnd : va_nd isR = true) (hdis : ∀ i ∈ isR, i ∉ isC) (hn : As.length = nA) (hst : st = As.reverse ++ .ref a :: rest) (hrm : (rest.map fun v => v.category).sum ≤ 8) (hCS : ce + mc ≤ R0.cells ∧ sl + ms ≤ R0.slots) (hRm : rm.cells = mc ∧ rm.slots = ms ∧ rm.frames + 1 ≤ R0.frames ∧ 8 + (n + 11) + rm.locals ≤ R0.locals) (hdg : decode cc pc = .ok (.invokespecial index, 3)) (k : ∀ x : S, XW K (ce + mc) (sl + ms) nL Q idW (wr ++ w1 x) (pc + 3) lv rest) : XW K ce sl nL Q idW ws pc lv st := fun H locs ls hl hP hD hS => by
  have hF := va_free (wc := wc) hD hS X.2.2.1 isC hC
  have hPc := va_P.sub hP isC hCf
  have hDc := va_D.sub hD isC hCn hC
  refine va_callv (va_runIN (As := As) (rest := rest) X.1 (hM H.size) ⟨va_cnB nA X.1.2.2.2.2 (okC_in ok) rfl hRm.1 hRm.2.1 (X.2.2.2.1.1 _ hm) (X.1.2.2.2.2 _ ok.1.2.1) ok.2.2 (by rw [X.2.2.2.2.2.2]; exact hRm.2.2), ok.2.1, X.1.2.2.2.2 _ ok.1.1⟩ ⟨mPre_blind, fun U hU hW => ⟨rfl, by rw [hU], by rw [hU]; exact hPc, va_K.moved hW.alike X.2.1, hDc.weaken (fun _ _ _ _ => trivial), X.2.2.2.1.call hS hF hU hW⟩⟩ rfl hn hl.1 hst (lv_room hrm) hdg (by rw [X.2.2.2.2.2.2]; exact hCS)) hS (fun q _ h => hF q h) hF (fun x t H1 locs1 ht hvm hw hB hz1 hk1 hS1 => ?_)
  obtain ⟨hP1, -, hD1⟩ := hB
  rw [ht] at hP1
  obtain ⟨hP2, hD2⟩ := va_join (wr := wr) (w1 := w1 x) hP hD isC isR hC hR hnd hdis hk1 hF hP1 hD1
  exact k x H1 locs1 ls hl hP2 hD2 hS1
end CROWS

