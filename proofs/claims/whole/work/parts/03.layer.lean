/-- a frame's fixed things -/
abbrev Cx : Type := Program × Launch × Env × Room × State × MethodId × Array Value × List Frame × Method × Code × va_G × (Nat → Prop)
abbrev Cx.p (K : Cx) : Program := K.1
abbrev Cx.l (K : Cx) : Launch := K.2.1
abbrev Cx.e (K : Cx) : Env := K.2.2.1
abbrev Cx.R (K : Cx) : Room := K.2.2.2.1
abbrev Cx.s (K : Cx) : State := K.2.2.2.2.1
abbrev Cx.m (K : Cx) : MethodId := K.2.2.2.2.2.1
abbrev Cx.args (K : Cx) : Array Value := K.2.2.2.2.2.2.1
abbrev Cx.below (K : Cx) : List Frame := K.2.2.2.2.2.2.2.1
abbrev Cx.meth (K : Cx) : Method := K.2.2.2.2.2.2.2.2.1
abbrev Cx.c (K : Cx) : Code := K.2.2.2.2.2.2.2.2.2.1
abbrev Cx.D (K : Cx) : va_G := K.2.2.2.2.2.2.2.2.2.2.1
abbrev Cx.A (K : Cx) : Nat → Prop := K.2.2.2.2.2.2.2.2.2.2.2
abbrev Gw : Type := (Nat → Nat) × (Nat → ClassId)
def tyXM (g : Gw) : List (ClassId × FieldType) := [(g.2 0, .int), (g.2 1, .boolean)]
def nwOk (U : State) : Prop := ∀ w ∈ NW, va_Nw w U
theorem nwOk.same {u U : State} (h : u.vm = U.vm) (q : nwOk u) : nwOk U := fun w hw => by
  rcases nw_good w hw with ⟨a, i, b, n, d, x, rfl⟩ | ⟨a, i, y, x, rfl⟩
  · exact va_Nw.same rfl h (q _ hw)
  · exact va_Nw.same rfl h (q _ hw)
theorem nwOk.warm {s U : State} (hW : s.WarmedH U.vm) (q : nwOk s) : nwOk U := fun w hw => by
  rcases nw_good w hw with ⟨a, i, b, n, d, x, rfl⟩ | ⟨a, i, y, x, rfl⟩
  · exact va_Nw.warmF hW (q _ hw)
  · exact va_Nw.warmM hW (q _ hw)
def LEN : List Nat := [6, 8, 13, 4]
def BYT : List (List Int32) := [[60, 105, 110, 105, 116, 62], [60, 99, 108, 105, 110, 105, 116, 62], [67, 111, 110, 115, 116, 97, 110, 116, 86, 97, 108, 117, 101], [67, 111, 100, 101]]
/-- the texts and statics that stay as they are -/
def exOk (g : Gw) (A : Nat → Prop) (U : State) (H : Heap) : Prop :=
  nwOk U ∧ vk_S 4 LEN BYT (fun i => g.1 (100 + i)) (fun i => g.1 (200 + i)) A U H ∧ vk_R RX3 7 "<init>" (g.1 100) U ∧ vk_R RX3 14 "<clinit>" (g.1 101) U ∧ vk_R RX2 195 "ConstantValue" (g.1 102) U ∧ vk_R RX2 211 "Code" (g.1 103) U ∧ va_Z "java/lang/String" "COMPACT_STRINGS" "Z" (.int 1) A U H ∧ va_Zq "jdk/internal/util/Preconditions" "SIOOBE_FORMATTER" "Ljava/util/function/BiFunction;" A U H
theorem exOk.same {g : Gw} {A : Nat → Prop} {u U : State} (hv : u.vm = U.vm) (hh : u.heap = U.heap) (h : exOk g A u u.heap) : exOk g A U U.heap := by
  obtain ⟨h1, h2, h3, h4, h5, h6, h7, h8⟩ := h
  have ha : u.vm.Alike U.vm := by rw [hv]; exact Vm.Alike.refl U.vm
  rw [hh] at h2 h7 h8
  exact ⟨h1.same hv, h2.moved ha, h3.same hv.symm, h4.same hv.symm, h5.same hv.symm, h6.same hv.symm, h7.moved ha, h8.moved ha⟩
theorem exOk.call {g : Gw} {A B : Nat → Prop} {s U : State} {H : Heap} {locs : List Loc} (h : exOk g A s s.heap) (hS : va_S A s.heap H locs) (hF : ∀ q, B q → A q) (hU : U.heap = H) (hW : s.WarmedH U.vm) : exOk g B U U.heap := by
  obtain ⟨h1, h2, h3, h4, h5, h6, h7, h8⟩ := h
  rw [hU]
  exact ⟨h1.warm hW, ((h2.kept hS.2.1).narrow hF).moved hW.alike, h3.warm hW, h4.warm hW, h5.warm hW, h6.warm hW, ((h7.kept hS.2.1).narrow hF).moved hW.alike, ((h8.kept hS.2.1).narrow hF).moved hW.alike⟩
/-- the machine comes from (pc, locals lv, stack st) in the world wd u to Q -/
def XW {σ : Type} (K : Cx) (ce sl : Nat) (nL : Nat) (Q : State → Prop) (wd : σ → va_W) (u : σ) (pc : Nat) (lv : List (Nat × Value)) (st : List Value) : Prop :=
  ∀ (H : Heap) (locs : List Loc) (ls : Array Slot), lv_has ls nL lv → va_P K.D vwCl (wd u) H → va_D K.A (wd u) → va_S K.A K.s.heap H locs → W K.p K.l K.e K.R K.s K.m K.args K.below K.meth K.c H locs ce sl Q (F0 K.m pc ls st)
/-- what is fixed in a frame of a method with code cc -/
def XC (K : Cx) (g : Gw) (cc : ByteArray) (nL : Nat) (own : String) (rt : Option FieldType) (R0 : Room) : Prop :=
  (K.p.tables.exec = Jvm.exec ∧ K.c.code = cc ∧ K.c.maxLocals = nL ∧ K.s.vm.findClass own = some K.m.cls ∧ ∀ w ∈ TBL, w.before K.args K.s = true) ∧ va_K K.D vwCl (tyXM g) K.s ∧ (∀ q, K.s.heap.size ≤ q → K.A q) ∧ exOk g K.A K.s K.s.heap ∧ K.meth.sig.returnType = rt ∧ K.meth.locks = false ∧ K.R = R0
/-- the end of a method that answers an int / nothing: answer and world are res -/
def QI {σ : Type} (K : Cx) (g : Gw) (wd : σ → va_W) (res : Int32 × σ) : State → Prop :=
  MQ K.below (va_Qi (fun r u2 => (r, u2) = res) (fun (u2 : σ) t => va_P K.D vwCl (wd u2) t.heap ∧ va_K K.D vwCl (tyXM g) t ∧ va_D K.A (wd u2)) K.A) K.args K.s 0 0 K.A
def QV {σ : Type} (K : Cx) (g : Gw) (wd : σ → va_W) (res : σ) : State → Prop :=
  MQ K.below (va_Qv (fun u2 => u2 = res) (fun (u2 : σ) t => va_P K.D vwCl (wd u2) t.heap ∧ va_K K.D vwCl (tyXM g) t ∧ va_D K.A (wd u2)) K.A) K.args K.s 0 0 K.A
def QL {σ : Type} (K : Cx) (g : Gw) (wd : σ → va_W) (res : Int64 × σ) : State → Prop :=
  MQ K.below (va_Ql (fun r u2 => (r, u2) = res) (fun (u2 : σ) t => va_P K.D vwCl (wd u2) t.heap ∧ va_K K.D vwCl (tyXM g) t ∧ va_D K.A (wd u2)) K.A) K.args K.s 0 0 K.A
section XROWS
variable {σ : Type} {K : Cx} {g : Gw} {cc : ByteArray} {nL : Nat} {own : String} {rt : Option FieldType} {R0 : Room} {Q : State → Prop} {wd : σ → va_W} {u : σ} {pc ce sl : Nat} {lv : List (Nat × Value)} {rest : List Value}
theorem x_iconst (X : XC K g cc nL own rt R0) {n : Int} {v : Int32} (hdg : decode cc pc = .ok (.iconst n, 1)) (hv : Int32.ofInt n = v) (k : XW K ce sl nL Q wd u (pc + 1) lv (.int v :: rest)) : XW K ce sl nL Q wd u pc lv rest := fun H locs ls hl hP hD hS => lv_iconst X.1.1 X.1.2.1 hdg hv (k H locs ls hl hP hD hS)
theorem x_bipush (X : XC K g cc nL own rt R0) {n : Int} {v : Int32} (hdg : decode cc pc = .ok (.bipush n, 2)) (hv : (Int8.ofInt n).toInt32 = v) (k : XW K ce sl nL Q wd u (pc + 2) lv (.int v :: rest)) : XW K ce sl nL Q wd u pc lv rest := fun H locs ls hl hP hD hS => lv_bipush X.1.1 X.1.2.1 hdg hv (k H locs ls hl hP hD hS)
theorem x_sipush (X : XC K g cc nL own rt R0) {n : Int} {v : Int32} (hdg : decode cc pc = .ok (.sipush n, 3)) (hv : (Int16.ofInt n).toInt32 = v) (k : XW K ce sl nL Q wd u (pc + 3) lv (.int v :: rest)) : XW K ce sl nL Q wd u pc lv rest := fun H locs ls hl hP hD hS => lv_sipush X.1.1 X.1.2.1 hdg hv (k H locs ls hl hP hD hS)
theorem x_lconst (X : XC K g cc nL own rt R0) {n : Fin 2} {v : Int64} (hdg : decode cc pc = .ok (.lconst n, 1)) (hv : Int64.ofNat (n : Nat) = v) (k : XW K ce sl nL Q wd u (pc + 1) lv (.long v :: rest)) : XW K ce sl nL Q wd u pc lv rest := fun H locs ls hl hP hD hS => lv_lconst X.1.1 X.1.2.1 hdg hv (k H locs ls hl hP hD hS)
theorem x_iadd (X : XC K g cc nL own rt R0) {x y : Int32} (hdg : decode cc pc = .ok (.iadd, 1))  (k : XW K ce sl nL Q wd u (pc + 1) lv (.int (x + y) :: rest)) : XW K ce sl nL Q wd u pc lv (.int y :: .int x :: rest) := fun H locs ls hl hP hD hS => lv_iadd X.1.1 X.1.2.1 hdg  (k H locs ls hl hP hD hS)
theorem x_isub (X : XC K g cc nL own rt R0) {x y : Int32} (hdg : decode cc pc = .ok (.isub, 1))  (k : XW K ce sl nL Q wd u (pc + 1) lv (.int (x - y) :: rest)) : XW K ce sl nL Q wd u pc lv (.int y :: .int x :: rest) := fun H locs ls hl hP hD hS => lv_isub X.1.1 X.1.2.1 hdg  (k H locs ls hl hP hD hS)
theorem x_imul (X : XC K g cc nL own rt R0) {x y : Int32} (hdg : decode cc pc = .ok (.imul, 1))  (k : XW K ce sl nL Q wd u (pc + 1) lv (.int (x * y) :: rest)) : XW K ce sl nL Q wd u pc lv (.int y :: .int x :: rest) := fun H locs ls hl hP hD hS => lv_imul X.1.1 X.1.2.1 hdg  (k H locs ls hl hP hD hS)
theorem x_iand (X : XC K g cc nL own rt R0) {x y : Int32} (hdg : decode cc pc = .ok (.iand, 1))  (k : XW K ce sl nL Q wd u (pc + 1) lv (.int (x &&& y) :: rest)) : XW K ce sl nL Q wd u pc lv (.int y :: .int x :: rest) := fun H locs ls hl hP hD hS => lv_iand X.1.1 X.1.2.1 hdg  (k H locs ls hl hP hD hS)
theorem x_ior (X : XC K g cc nL own rt R0) {x y : Int32} (hdg : decode cc pc = .ok (.ior, 1))  (k : XW K ce sl nL Q wd u (pc + 1) lv (.int (x ||| y) :: rest)) : XW K ce sl nL Q wd u pc lv (.int y :: .int x :: rest) := fun H locs ls hl hP hD hS => lv_ior X.1.1 X.1.2.1 hdg  (k H locs ls hl hP hD hS)
theorem x_ixor (X : XC K g cc nL own rt R0) {x y : Int32} (hdg : decode cc pc = .ok (.ixor, 1))  (k : XW K ce sl nL Q wd u (pc + 1) lv (.int (x ^^^ y) :: rest)) : XW K ce sl nL Q wd u pc lv (.int y :: .int x :: rest) := fun H locs ls hl hP hD hS => lv_ixor X.1.1 X.1.2.1 hdg  (k H locs ls hl hP hD hS)
theorem x_ishl (X : XC K g cc nL own rt R0) {x y : Int32} (hdg : decode cc pc = .ok (.ishl, 1))  (k : XW K ce sl nL Q wd u (pc + 1) lv (.int (x <<< (y &&& 31)) :: rest)) : XW K ce sl nL Q wd u pc lv (.int y :: .int x :: rest) := fun H locs ls hl hP hD hS => lv_ishl X.1.1 X.1.2.1 hdg  (k H locs ls hl hP hD hS)
theorem x_ishr (X : XC K g cc nL own rt R0) {x y : Int32} (hdg : decode cc pc = .ok (.ishr, 1))  (k : XW K ce sl nL Q wd u (pc + 1) lv (.int (x >>> (y &&& 31)) :: rest)) : XW K ce sl nL Q wd u pc lv (.int y :: .int x :: rest) := fun H locs ls hl hP hD hS => lv_ishr X.1.1 X.1.2.1 hdg  (k H locs ls hl hP hD hS)
theorem x_idiv (X : XC K g cc nL own rt R0) {x y : Int32} (hdg : decode cc pc = .ok (.idiv, 1)) (hne : ¬ y = 0) (k : XW K ce sl nL Q wd u (pc + 1) lv (.int (x / y) :: rest)) : XW K ce sl nL Q wd u pc lv (.int y :: .int x :: rest) := fun H locs ls hl hP hD hS => lv_idiv X.1.1 X.1.2.1 hdg hne (k H locs ls hl hP hD hS)
theorem x_irem (X : XC K g cc nL own rt R0) {x y : Int32} (hdg : decode cc pc = .ok (.irem, 1)) (hne : ¬ y = 0) (k : XW K ce sl nL Q wd u (pc + 1) lv (.int (x - x / y * y) :: rest)) : XW K ce sl nL Q wd u pc lv (.int y :: .int x :: rest) := fun H locs ls hl hP hD hS => lv_irem X.1.1 X.1.2.1 hdg hne (k H locs ls hl hP hD hS)
theorem x_ineg (X : XC K g cc nL own rt R0) {x : Int32} (hdg : decode cc pc = .ok (.ineg, 1))  (k : XW K ce sl nL Q wd u (pc + 1) lv (.int (-x) :: rest)) : XW K ce sl nL Q wd u pc lv (.int x :: rest) := fun H locs ls hl hP hD hS => lv_ineg X.1.1 X.1.2.1 hdg  (k H locs ls hl hP hD hS)
theorem x_ladd (X : XC K g cc nL own rt R0) {x y : Int64} (hdg : decode cc pc = .ok (.ladd, 1))  (k : XW K ce sl nL Q wd u (pc + 1) lv (.long (x + y) :: rest)) : XW K ce sl nL Q wd u pc lv (.long y :: .long x :: rest) := fun H locs ls hl hP hD hS => lv_ladd X.1.1 X.1.2.1 hdg  (k H locs ls hl hP hD hS)
theorem x_lsub (X : XC K g cc nL own rt R0) {x y : Int64} (hdg : decode cc pc = .ok (.lsub, 1))  (k : XW K ce sl nL Q wd u (pc + 1) lv (.long (x - y) :: rest)) : XW K ce sl nL Q wd u pc lv (.long y :: .long x :: rest) := fun H locs ls hl hP hD hS => lv_lsub X.1.1 X.1.2.1 hdg  (k H locs ls hl hP hD hS)
theorem x_lmul (X : XC K g cc nL own rt R0) {x y : Int64} (hdg : decode cc pc = .ok (.lmul, 1))  (k : XW K ce sl nL Q wd u (pc + 1) lv (.long (x * y) :: rest)) : XW K ce sl nL Q wd u pc lv (.long y :: .long x :: rest) := fun H locs ls hl hP hD hS => lv_lmul X.1.1 X.1.2.1 hdg  (k H locs ls hl hP hD hS)
theorem x_land (X : XC K g cc nL own rt R0) {x y : Int64} (hdg : decode cc pc = .ok (.land, 1))  (k : XW K ce sl nL Q wd u (pc + 1) lv (.long (x &&& y) :: rest)) : XW K ce sl nL Q wd u pc lv (.long y :: .long x :: rest) := fun H locs ls hl hP hD hS => lv_land X.1.1 X.1.2.1 hdg  (k H locs ls hl hP hD hS)
theorem x_lor (X : XC K g cc nL own rt R0) {x y : Int64} (hdg : decode cc pc = .ok (.lor, 1))  (k : XW K ce sl nL Q wd u (pc + 1) lv (.long (x ||| y) :: rest)) : XW K ce sl nL Q wd u pc lv (.long y :: .long x :: rest) := fun H locs ls hl hP hD hS => lv_lor X.1.1 X.1.2.1 hdg  (k H locs ls hl hP hD hS)
theorem x_lxor (X : XC K g cc nL own rt R0) {x y : Int64} (hdg : decode cc pc = .ok (.lxor, 1))  (k : XW K ce sl nL Q wd u (pc + 1) lv (.long (x ^^^ y) :: rest)) : XW K ce sl nL Q wd u pc lv (.long y :: .long x :: rest) := fun H locs ls hl hP hD hS => lv_lxor X.1.1 X.1.2.1 hdg  (k H locs ls hl hP hD hS)
theorem x_i2l (X : XC K g cc nL own rt R0) {x : Int32} (hdg : decode cc pc = .ok (.i2l, 1)) (k : XW K ce sl nL Q wd u (pc + 1) lv (.long (x.toInt64) :: rest)) : XW K ce sl nL Q wd u pc lv (.int x :: rest) := fun H locs ls hl hP hD hS => lv_i2l X.1.1 X.1.2.1 hdg rfl (k H locs ls hl hP hD hS)
theorem x_l2i (X : XC K g cc nL own rt R0) {x : Int64} (hdg : decode cc pc = .ok (.l2i, 1)) (k : XW K ce sl nL Q wd u (pc + 1) lv (.int (x.toInt32) :: rest)) : XW K ce sl nL Q wd u pc lv (.long x :: rest) := fun H locs ls hl hP hD hS => lv_l2i X.1.1 X.1.2.1 hdg rfl (k H locs ls hl hP hD hS)
theorem x_i2b (X : XC K g cc nL own rt R0) {x : Int32} (hdg : decode cc pc = .ok (.i2b, 1)) (k : XW K ce sl nL Q wd u (pc + 1) lv (.int (x.toInt8.toInt32) :: rest)) : XW K ce sl nL Q wd u pc lv (.int x :: rest) := fun H locs ls hl hP hD hS => lv_i2b X.1.1 X.1.2.1 hdg rfl (k H locs ls hl hP hD hS)
theorem x_i2s (X : XC K g cc nL own rt R0) {x : Int32} (hdg : decode cc pc = .ok (.i2s, 1)) (k : XW K ce sl nL Q wd u (pc + 1) lv (.int (x.toInt16.toInt32) :: rest)) : XW K ce sl nL Q wd u pc lv (.int x :: rest) := fun H locs ls hl hP hD hS => lv_i2s X.1.1 X.1.2.1 hdg rfl (k H locs ls hl hP hD hS)
theorem x_i2c (X : XC K g cc nL own rt R0) {x : Int32} (hdg : decode cc pc = .ok (.i2c, 1)) (k : XW K ce sl nL Q wd u (pc + 1) lv (.int ((x.toUInt32 % 65536).toInt32) :: rest)) : XW K ce sl nL Q wd u pc lv (.int x :: rest) := fun H locs ls hl hP hD hS => lv_i2c X.1.1 X.1.2.1 hdg rfl (k H locs ls hl hP hD hS)
theorem x_iushr (X : XC K g cc nL own rt R0) {x y : Int32} (hdg : decode cc pc = .ok (.iushr, 1)) (k : XW K ce sl nL Q wd u (pc + 1) lv (.int ((x.toUInt32 >>> (y.toUInt32 &&& Int32.toUInt32 31)).toInt32) :: rest)) : XW K ce sl nL Q wd u pc lv (.int y :: .int x :: rest) := fun H locs ls hl hP hD hS => lv_iushr X.1.1 X.1.2.1 hdg rfl (k H locs ls hl hP hD hS)
theorem x_lushr (X : XC K g cc nL own rt R0) {x : Int64} {y : Int32} (hdg : decode cc pc = .ok (.lushr, 1)) (k : XW K ce sl nL Q wd u (pc + 1) lv (.long ((x.toUInt64 >>> (y.toInt64.toUInt64 &&& Int64.toUInt64 63)).toInt64) :: rest)) : XW K ce sl nL Q wd u pc lv (.int y :: .long x :: rest) := fun H locs ls hl hP hD hS => lv_lushr X.1.1 X.1.2.1 hdg rfl (k H locs ls hl hP hD hS)
theorem x_lshl (X : XC K g cc nL own rt R0) {x : Int64} {y : Int32} (hdg : decode cc pc = .ok (.lshl, 1)) (k : XW K ce sl nL Q wd u (pc + 1) lv (.long (x <<< (y.toInt64 &&& 63)) :: rest)) : XW K ce sl nL Q wd u pc lv (.int y :: .long x :: rest) := fun H locs ls hl hP hD hS => lv_lshl X.1.1 X.1.2.1 hdg rfl (k H locs ls hl hP hD hS)
theorem x_lshr (X : XC K g cc nL own rt R0) {x : Int64} {y : Int32} (hdg : decode cc pc = .ok (.lshr, 1)) (k : XW K ce sl nL Q wd u (pc + 1) lv (.long (x >>> (y.toInt64 &&& 63)) :: rest)) : XW K ce sl nL Q wd u pc lv (.int y :: .long x :: rest) := fun H locs ls hl hP hD hS => lv_lshr X.1.1 X.1.2.1 hdg rfl (k H locs ls hl hP hD hS)
theorem x_lcmp (X : XC K g cc nL own rt R0) {x y : Int64} (hdg : decode cc pc = .ok (.lcmp, 1)) (k : XW K ce sl nL Q wd u (pc + 1) lv (.int (lg_cmp x y) :: rest)) : XW K ce sl nL Q wd u pc lv (.long y :: .long x :: rest) := fun H locs ls hl hP hD hS => W.lcmp X.1.1 X.1.2.1 hdg (k H locs ls hl hP hD hS)
theorem x_iload_n (X : XC K g cc nL own rt R0) {j : Fin 4} {i : Nat} {x : Int32} (hdg : decode cc pc = .ok (.iload_n j, 1)) (hi : (j : Nat) = i) (q : Nat) (hq : lv[q]? = some (i, .int x)) (k : XW K ce sl nL Q wd u (pc + 1) lv (.int x :: rest)) : XW K ce sl nL Q wd u pc lv rest := fun H locs ls hl hP hD hS => lv_iload_n X.1.1 X.1.2.1 hdg hi (lv_at hl q hq) (k H locs ls hl hP hD hS)
theorem x_iload (X : XC K g cc nL own rt R0) {i : Nat} {x : Int32} (hdg : decode cc pc = .ok (.iload i, 2)) (q : Nat) (hq : lv[q]? = some (i, .int x)) (k : XW K ce sl nL Q wd u (pc + 2) lv (.int x :: rest)) : XW K ce sl nL Q wd u pc lv rest := fun H locs ls hl hP hD hS => lv_iload X.1.1 X.1.2.1 hdg (lv_at hl q hq) (k H locs ls hl hP hD hS)
theorem x_lload_n (X : XC K g cc nL own rt R0) {j : Fin 4} {i : Nat} {x : Int64} (hdg : decode cc pc = .ok (.lload_n j, 1)) (hi : (j : Nat) = i) (q : Nat) (hq : lv[q]? = some (i, .long x)) (k : XW K ce sl nL Q wd u (pc + 1) lv (.long x :: rest)) : XW K ce sl nL Q wd u pc lv rest := fun H locs ls hl hP hD hS => lv_lload_n X.1.1 X.1.2.1 hdg hi (lv_at hl q hq) (k H locs ls hl hP hD hS)
theorem x_lload (X : XC K g cc nL own rt R0) {i : Nat} {x : Int64} (hdg : decode cc pc = .ok (.lload i, 2)) (q : Nat) (hq : lv[q]? = some (i, .long x)) (k : XW K ce sl nL Q wd u (pc + 2) lv (.long x :: rest)) : XW K ce sl nL Q wd u pc lv rest := fun H locs ls hl hP hD hS => lv_lload X.1.1 X.1.2.1 hdg (lv_at hl q hq) (k H locs ls hl hP hD hS)
theorem x_aload_n (X : XC K g cc nL own rt R0) {j : Fin 4} {i : Nat} {x : Nat} (hdg : decode cc pc = .ok (.aload_n j, 1)) (hi : (j : Nat) = i) (q : Nat) (hq : lv[q]? = some (i, .ref x)) (k : XW K ce sl nL Q wd u (pc + 1) lv (.ref x :: rest)) : XW K ce sl nL Q wd u pc lv rest := fun H locs ls hl hP hD hS => lv_aload_n X.1.1 X.1.2.1 hdg hi (lv_at hl q hq) (k H locs ls hl hP hD hS)
theorem x_aload (X : XC K g cc nL own rt R0) {i : Nat} {x : Nat} (hdg : decode cc pc = .ok (.aload i, 2)) (q : Nat) (hq : lv[q]? = some (i, .ref x)) (k : XW K ce sl nL Q wd u (pc + 2) lv (.ref x :: rest)) : XW K ce sl nL Q wd u pc lv rest := fun H locs ls hl hP hD hS => lv_aload X.1.1 X.1.2.1 hdg (lv_at hl q hq) (k H locs ls hl hP hD hS)
theorem x_istore_n (X : XC K g cc nL own rt R0) {j : Fin 4} {i : Nat} {x : Int32} {lv2 : List (Nat × Value)} (hdg : decode cc pc = .ok (.istore_n j, 1)) (hi : (j : Nat) = i) (hn : i < nL) (hf : (i, Value.int x) :: lv.filter (fun q => !(q.1 == i) && !(q.1 + 1 == i && q.2.category == 2)) = lv2) (k : XW K ce sl nL Q wd u (pc + 1) lv2 rest) : XW K ce sl nL Q wd u pc lv (.int x :: rest) := fun H locs _ hl hP hD hS => lv_istore_n X.1.1 X.1.2.1 hdg hi hl hn hf (fun ls hl => k H locs ls hl hP hD hS)
theorem x_istore (X : XC K g cc nL own rt R0) {i : Nat} {x : Int32} {lv2 : List (Nat × Value)} (hdg : decode cc pc = .ok (.istore i, 2)) (hn : i < nL) (hf : (i, Value.int x) :: lv.filter (fun q => !(q.1 == i) && !(q.1 + 1 == i && q.2.category == 2)) = lv2) (k : XW K ce sl nL Q wd u (pc + 2) lv2 rest) : XW K ce sl nL Q wd u pc lv (.int x :: rest) := fun H locs _ hl hP hD hS => lv_istore X.1.1 X.1.2.1 hdg hl hn hf (fun ls hl => k H locs ls hl hP hD hS)
theorem x_lstore_n (X : XC K g cc nL own rt R0) {j : Fin 4} {i : Nat} {x : Int64} {lv2 : List (Nat × Value)} (hdg : decode cc pc = .ok (.lstore_n j, 1)) (hi : (j : Nat) = i) (hn : i + 1 < nL) (hf : (i, Value.long x) :: lv.filter (fun q => !(q.1 == i) && (!(q.1 == i + 1) && !(q.1 + 1 == i && q.2.category == 2))) = lv2) (k : XW K ce sl nL Q wd u (pc + 1) lv2 rest) : XW K ce sl nL Q wd u pc lv (.long x :: rest) := fun H locs _ hl hP hD hS => lv_lstore_n X.1.1 X.1.2.1 hdg hi hl hn hf (fun ls hl => k H locs ls hl hP hD hS)
theorem x_lstore (X : XC K g cc nL own rt R0) {i : Nat} {x : Int64} {lv2 : List (Nat × Value)} (hdg : decode cc pc = .ok (.lstore i, 2)) (hn : i + 1 < nL) (hf : (i, Value.long x) :: lv.filter (fun q => !(q.1 == i) && (!(q.1 == i + 1) && !(q.1 + 1 == i && q.2.category == 2))) = lv2) (k : XW K ce sl nL Q wd u (pc + 2) lv2 rest) : XW K ce sl nL Q wd u pc lv (.long x :: rest) := fun H locs _ hl hP hD hS => lv_lstore X.1.1 X.1.2.1 hdg hl hn hf (fun ls hl => k H locs ls hl hP hD hS)
theorem x_astore_n (X : XC K g cc nL own rt R0) {j : Fin 4} {i : Nat} {x : Nat} {lv2 : List (Nat × Value)} (hdg : decode cc pc = .ok (.astore_n j, 1)) (hi : (j : Nat) = i) (hn : i < nL) (hf : (i, Value.ref x) :: lv.filter (fun q => !(q.1 == i) && !(q.1 + 1 == i && q.2.category == 2)) = lv2) (k : XW K ce sl nL Q wd u (pc + 1) lv2 rest) : XW K ce sl nL Q wd u pc lv (.ref x :: rest) := fun H locs _ hl hP hD hS => lv_astore_n X.1.1 X.1.2.1 hdg hi hl hn hf (fun ls hl => k H locs ls hl hP hD hS)
theorem x_astore (X : XC K g cc nL own rt R0) {i : Nat} {x : Nat} {lv2 : List (Nat × Value)} (hdg : decode cc pc = .ok (.astore i, 2)) (hn : i < nL) (hf : (i, Value.ref x) :: lv.filter (fun q => !(q.1 == i) && !(q.1 + 1 == i && q.2.category == 2)) = lv2) (k : XW K ce sl nL Q wd u (pc + 2) lv2 rest) : XW K ce sl nL Q wd u pc lv (.ref x :: rest) := fun H locs _ hl hP hD hS => lv_astore X.1.1 X.1.2.1 hdg hl hn hf (fun ls hl => k H locs ls hl hP hD hS)
theorem x_iinc (X : XC K g cc nL own rt R0) {i : Nat} {n : Int} {x v : Int32} {lv2 : List (Nat × Value)} (hdg : decode cc pc = .ok (.iinc i n, 3)) (q : Nat) (hq : lv[q]? = some (i, .int x)) (hv : x + Int32.ofInt n = v) (hn : i < nL) (hf : (i, Value.int v) :: lv.filter (fun q => !(q.1 == i) && !(q.1 + 1 == i && q.2.category == 2)) = lv2) (k : XW K ce sl nL Q wd u (pc + 3) lv2 rest) : XW K ce sl nL Q wd u pc lv rest := fun H locs _ hl hP hD hS => lv_iinc X.1.1 X.1.2.1 hdg hl hq hv hn hf (fun ls hl => k H locs ls hl hP hD hS)
theorem x_dup (X : XC K g cc nL own rt R0) {a : Value} (hdg : decode cc pc = .ok (.dup, 1)) (ha : a.category = 1) (k : XW K ce sl nL Q wd u (pc + 1) lv (a :: a :: rest)) : XW K ce sl nL Q wd u pc lv (a :: rest) := fun H locs ls hl hP hD hS => lv_dup X.1.1 X.1.2.1 hdg ha (k H locs ls hl hP hD hS)
theorem x_pop (X : XC K g cc nL own rt R0) {a : Value} (hdg : decode cc pc = .ok (.pop, 1)) (ha : a.category = 1) (k : XW K ce sl nL Q wd u (pc + 1) lv rest) : XW K ce sl nL Q wd u pc lv (a :: rest) := fun H locs ls hl hP hD hS => lv_pop X.1.1 X.1.2.1 hdg ha (k H locs ls hl hP hD hS)
theorem x_pop2 (X : XC K g cc nL own rt R0) {a : Value} (hdg : decode cc pc = .ok (.pop2, 1)) (ha : a.category = 2) (k : XW K ce sl nL Q wd u (pc + 1) lv rest) : XW K ce sl nL Q wd u pc lv (a :: rest) := fun H locs ls hl hP hD hS => lv_pop2_2 X.1.1 X.1.2.1 hdg ha (k H locs ls hl hP hD hS)
theorem x_dup_x1 (X : XC K g cc nL own rt R0) {a b : Value} (hdg : decode cc pc = .ok (.dup_x1, 1)) (ha : a.category = 1) (hb : b.category = 1) (k : XW K ce sl nL Q wd u (pc + 1) lv (a :: b :: a :: rest)) : XW K ce sl nL Q wd u pc lv (a :: b :: rest) := fun H locs ls hl hP hD hS => lv_dup_x1 X.1.1 X.1.2.1 hdg ha hb (k H locs ls hl hP hD hS)
theorem x_dup_x2 (X : XC K g cc nL own rt R0) {a b d : Value} (hdg : decode cc pc = .ok (.dup_x2, 1)) (ha : a.category = 1) (hb : b.category = 1) (hd : d.category = 1) (k : XW K ce sl nL Q wd u (pc + 1) lv (a :: b :: d :: a :: rest)) : XW K ce sl nL Q wd u pc lv (a :: b :: d :: rest) := fun H locs ls hl hP hD hS => lv_dup_x2 X.1.1 X.1.2.1 hdg ha hb hd (k H locs ls hl hP hD hS)
theorem x_dup2 (X : XC K g cc nL own rt R0) {a b : Value} (hdg : decode cc pc = .ok (.dup2, 1)) (ha : a.category = 1) (hb : b.category = 1) (k : XW K ce sl nL Q wd u (pc + 1) lv (a :: b :: a :: b :: rest)) : XW K ce sl nL Q wd u pc lv (a :: b :: rest) := fun H locs ls hl hP hD hS => lv_dup2_11 X.1.1 X.1.2.1 hdg ha hb (k H locs ls hl hP hD hS)
theorem x_if_eq (X : XC K g cc nL own rt R0) {x : Int32} {off : Int} {tgt : Nat} (hdg : decode cc pc = .ok (.ifCond .eq off, 3)) (ht : (pc : Int) + off = (tgt : Int)) (kt : x = 0 → XW K ce sl nL Q wd u tgt lv rest) (kf : ¬ x = 0 → XW K ce sl nL Q wd u (pc + 3) lv rest) : XW K ce sl nL Q wd u pc lv (.int x :: rest) := fun H locs ls hl hP hD hS => lv_if_eq X.1.1 X.1.2.1 hdg ht (fun c => kt c H locs ls hl hP hD hS) (fun c => kf c H locs ls hl hP hD hS)
theorem x_icmp_eq (X : XC K g cc nL own rt R0) {x y : Int32} {off : Int} {tgt : Nat} (hdg : decode cc pc = .ok (.if_icmp .eq off, 3)) (ht : (pc : Int) + off = (tgt : Int)) (kt : x = y → XW K ce sl nL Q wd u tgt lv rest) (kf : ¬ x = y → XW K ce sl nL Q wd u (pc + 3) lv rest) : XW K ce sl nL Q wd u pc lv (.int y :: .int x :: rest) := fun H locs ls hl hP hD hS => lv_icmp_eq X.1.1 X.1.2.1 hdg ht (fun c => kt c H locs ls hl hP hD hS) (fun c => kf c H locs ls hl hP hD hS)
theorem x_if_ne (X : XC K g cc nL own rt R0) {x : Int32} {off : Int} {tgt : Nat} (hdg : decode cc pc = .ok (.ifCond .ne off, 3)) (ht : (pc : Int) + off = (tgt : Int)) (kt : ¬ x = 0 → XW K ce sl nL Q wd u tgt lv rest) (kf : x = 0 → XW K ce sl nL Q wd u (pc + 3) lv rest) : XW K ce sl nL Q wd u pc lv (.int x :: rest) := fun H locs ls hl hP hD hS => lv_if_ne X.1.1 X.1.2.1 hdg ht (fun c => kt c H locs ls hl hP hD hS) (fun c => kf c H locs ls hl hP hD hS)
theorem x_icmp_ne (X : XC K g cc nL own rt R0) {x y : Int32} {off : Int} {tgt : Nat} (hdg : decode cc pc = .ok (.if_icmp .ne off, 3)) (ht : (pc : Int) + off = (tgt : Int)) (kt : ¬ x = y → XW K ce sl nL Q wd u tgt lv rest) (kf : x = y → XW K ce sl nL Q wd u (pc + 3) lv rest) : XW K ce sl nL Q wd u pc lv (.int y :: .int x :: rest) := fun H locs ls hl hP hD hS => lv_icmp_ne X.1.1 X.1.2.1 hdg ht (fun c => kt c H locs ls hl hP hD hS) (fun c => kf c H locs ls hl hP hD hS)
theorem x_if_lt (X : XC K g cc nL own rt R0) {x : Int32} {off : Int} {tgt : Nat} (hdg : decode cc pc = .ok (.ifCond .lt off, 3)) (ht : (pc : Int) + off = (tgt : Int)) (kt : x < 0 → XW K ce sl nL Q wd u tgt lv rest) (kf : ¬ x < 0 → XW K ce sl nL Q wd u (pc + 3) lv rest) : XW K ce sl nL Q wd u pc lv (.int x :: rest) := fun H locs ls hl hP hD hS => lv_if_lt X.1.1 X.1.2.1 hdg ht (fun c => kt c H locs ls hl hP hD hS) (fun c => kf c H locs ls hl hP hD hS)
theorem x_icmp_lt (X : XC K g cc nL own rt R0) {x y : Int32} {off : Int} {tgt : Nat} (hdg : decode cc pc = .ok (.if_icmp .lt off, 3)) (ht : (pc : Int) + off = (tgt : Int)) (kt : x < y → XW K ce sl nL Q wd u tgt lv rest) (kf : ¬ x < y → XW K ce sl nL Q wd u (pc + 3) lv rest) : XW K ce sl nL Q wd u pc lv (.int y :: .int x :: rest) := fun H locs ls hl hP hD hS => lv_icmp_lt X.1.1 X.1.2.1 hdg ht (fun c => kt c H locs ls hl hP hD hS) (fun c => kf c H locs ls hl hP hD hS)
theorem x_if_ge (X : XC K g cc nL own rt R0) {x : Int32} {off : Int} {tgt : Nat} (hdg : decode cc pc = .ok (.ifCond .ge off, 3)) (ht : (pc : Int) + off = (tgt : Int)) (kt : 0 ≤ x → XW K ce sl nL Q wd u tgt lv rest) (kf : ¬ 0 ≤ x → XW K ce sl nL Q wd u (pc + 3) lv rest) : XW K ce sl nL Q wd u pc lv (.int x :: rest) := fun H locs ls hl hP hD hS => lv_if_ge X.1.1 X.1.2.1 hdg ht (fun c => kt c H locs ls hl hP hD hS) (fun c => kf c H locs ls hl hP hD hS)
theorem x_icmp_ge (X : XC K g cc nL own rt R0) {x y : Int32} {off : Int} {tgt : Nat} (hdg : decode cc pc = .ok (.if_icmp .ge off, 3)) (ht : (pc : Int) + off = (tgt : Int)) (kt : y ≤ x → XW K ce sl nL Q wd u tgt lv rest) (kf : ¬ y ≤ x → XW K ce sl nL Q wd u (pc + 3) lv rest) : XW K ce sl nL Q wd u pc lv (.int y :: .int x :: rest) := fun H locs ls hl hP hD hS => lv_icmp_ge X.1.1 X.1.2.1 hdg ht (fun c => kt c H locs ls hl hP hD hS) (fun c => kf c H locs ls hl hP hD hS)
theorem x_if_gt (X : XC K g cc nL own rt R0) {x : Int32} {off : Int} {tgt : Nat} (hdg : decode cc pc = .ok (.ifCond .gt off, 3)) (ht : (pc : Int) + off = (tgt : Int)) (kt : 0 < x → XW K ce sl nL Q wd u tgt lv rest) (kf : ¬ 0 < x → XW K ce sl nL Q wd u (pc + 3) lv rest) : XW K ce sl nL Q wd u pc lv (.int x :: rest) := fun H locs ls hl hP hD hS => lv_if_gt X.1.1 X.1.2.1 hdg ht (fun c => kt c H locs ls hl hP hD hS) (fun c => kf c H locs ls hl hP hD hS)
theorem x_icmp_gt (X : XC K g cc nL own rt R0) {x y : Int32} {off : Int} {tgt : Nat} (hdg : decode cc pc = .ok (.if_icmp .gt off, 3)) (ht : (pc : Int) + off = (tgt : Int)) (kt : y < x → XW K ce sl nL Q wd u tgt lv rest) (kf : ¬ y < x → XW K ce sl nL Q wd u (pc + 3) lv rest) : XW K ce sl nL Q wd u pc lv (.int y :: .int x :: rest) := fun H locs ls hl hP hD hS => lv_icmp_gt X.1.1 X.1.2.1 hdg ht (fun c => kt c H locs ls hl hP hD hS) (fun c => kf c H locs ls hl hP hD hS)
theorem x_if_le (X : XC K g cc nL own rt R0) {x : Int32} {off : Int} {tgt : Nat} (hdg : decode cc pc = .ok (.ifCond .le off, 3)) (ht : (pc : Int) + off = (tgt : Int)) (kt : x ≤ 0 → XW K ce sl nL Q wd u tgt lv rest) (kf : ¬ x ≤ 0 → XW K ce sl nL Q wd u (pc + 3) lv rest) : XW K ce sl nL Q wd u pc lv (.int x :: rest) := fun H locs ls hl hP hD hS => lv_if_le X.1.1 X.1.2.1 hdg ht (fun c => kt c H locs ls hl hP hD hS) (fun c => kf c H locs ls hl hP hD hS)
theorem x_icmp_le (X : XC K g cc nL own rt R0) {x y : Int32} {off : Int} {tgt : Nat} (hdg : decode cc pc = .ok (.if_icmp .le off, 3)) (ht : (pc : Int) + off = (tgt : Int)) (kt : x ≤ y → XW K ce sl nL Q wd u tgt lv rest) (kf : ¬ x ≤ y → XW K ce sl nL Q wd u (pc + 3) lv rest) : XW K ce sl nL Q wd u pc lv (.int y :: .int x :: rest) := fun H locs ls hl hP hD hS => lv_icmp_le X.1.1 X.1.2.1 hdg ht (fun c => kt c H locs ls hl hP hD hS) (fun c => kf c H locs ls hl hP hD hS)
theorem x_goto (X : XC K g cc nL own rt R0) {off : Int} {tgt : Nat} (hdg : decode cc pc = .ok (.goto off, 3)) (ht : (pc : Int) + off = (tgt : Int)) (k : XW K ce sl nL Q wd u tgt lv rest) : XW K ce sl nL Q wd u pc lv rest := fun H locs ls hl hP hD hS => lv_goto X.1.1 X.1.2.1 hdg ht (k H locs ls hl hP hD hS)
theorem x_lookup (X : XC K g cc nL own rt R0) {dflt : Int} {ps : Array (Int × Int)} {len : Nat} {x : Int32} {off : Int} {tgt : Nat} (hdg : decode cc pc = .ok (.lookupswitch dflt ps, len)) (hp : (ps.toList.zip (ps.toList.drop 1)).all (fun (a, next) => a.1 < next.1) = true) (ho : Op.lookupswitch.offset ps.toList dflt x.toInt = off) (ht : (pc : Int) + off = (tgt : Int)) (k : XW K ce sl nL Q wd u tgt lv rest) : XW K ce sl nL Q wd u pc lv (.int x :: rest) := fun H locs ls hl hP hD hS => lv_lookup X.1.1 X.1.2.1 hdg hp ho ht (k H locs ls hl hP hD hS)
theorem x_tableOut (X : XC K g cc nL own rt R0) {dflt lo hi : Int} {offs : Array Int} {len : Nat} {x : Int32} {tgt : Nat} (hdg : decode cc pc = .ok (.tableswitch dflt lo hi offs, len)) (h : x.toInt < lo ∨ hi < x.toInt) (ht : (pc : Int) + dflt = (tgt : Int)) (k : XW K ce sl nL Q wd u tgt lv rest) : XW K ce sl nL Q wd u pc lv (.int x :: rest) := fun H locs ls hl hP hD hS => lv_tableOut X.1.1 X.1.2.1 hdg h ht (k H locs ls hl hP hD hS)
theorem x_tableIn (X : XC K g cc nL own rt R0) {dflt lo hi : Int} {offs : Array Int} {len : Nat} {x : Int32} {off : Int} {tgt : Nat} (hdg : decode cc pc = .ok (.tableswitch dflt lo hi offs, len)) (h1 : ¬ x.toInt < lo) (h2 : ¬ hi < x.toInt) (ho : offs[(x.toInt - lo).toNat]? = some off) (ht : (pc : Int) + off = (tgt : Int)) (k : XW K ce sl nL Q wd u tgt lv rest) : XW K ce sl nL Q wd u pc lv (.int x :: rest) := fun H locs ls hl hP hD hS => lv_tableIn X.1.1 X.1.2.1 hdg h1 h2 ho ht (k H locs ls hl hP hD hS)
theorem x_ldc (X : XC K g cc nL own rt R0) {index : Nat} {v : Int32} (hm : Cond.constant own index v ∈ TBL) (hdg : decode cc pc = .ok (.ldc index, 2)) (k : XW K ce sl nL Q wd u (pc + 2) lv (.int v :: rest)) : XW K ce sl nL Q wd u pc lv rest := fun H locs ls hl hP hD hS => lv_ldc X.1.1 X.1.2.1 X.1.2.2.2.1 (X.1.2.2.2.2 _ hm) hdg (k H locs ls hl hP hD hS)
theorem x_ldc2 (X : XC K g cc nL own rt R0) {index : Nat} {v : Int64} (hm : Cond.constantLong own index v ∈ TBL) (hdg : decode cc pc = .ok (.ldc2_w index, 3)) (k : XW K ce sl nL Q wd u (pc + 3) lv (.long v :: rest)) : XW K ce sl nL Q wd u pc lv rest := fun H locs ls hl hP hD hS => lv_ldc2 X.1.1 X.1.2.1 X.1.2.2.2.1 (X.1.2.2.2.2 _ hm) hdg (k H locs ls hl hP hD hS)
theorem x_ldcS (X : XC K g cc nL own rt R0) {index q : Nat} {tx : String} (hZ : vk_R own index tx q K.s) (hdg : decode cc pc = .ok (.ldc index, 2)) (k : XW K ce sl nL Q wd u (pc + 2) lv (.ref q :: rest)) : XW K ce sl nL Q wd u pc lv rest := fun H locs ls hl hP hD hS => va_ldcS X.1.1 X.1.2.1 X.1.2.2.2.1 hZ hdg (k H locs ls hl hP hD hS)
theorem x_ldcw (X : XC K g cc nL own rt R0) {index : Nat} {v : Int32} (hm : Cond.constant own index v ∈ TBL) (hdg : decode cc pc = .ok (.ldc_w index, 3)) (k : XW K ce sl nL Q wd u (pc + 3) lv (.int v :: rest)) : XW K ce sl nL Q wd u pc lv rest := fun H locs ls hl hP hD hS => lv_ldcw X.1.1 X.1.2.1 X.1.2.2.2.1 (X.1.2.2.2.2 _ hm) hdg (k H locs ls hl hP hD hS)
theorem x_sub {lv2 : List (Nat × Value)} (ks : List Nat) (hf : lv_pick lv ks = lv2) (k : XW K ce sl nL Q wd u pc lv2 rest) : XW K ce sl nL Q wd u pc lv rest := fun H locs ls hl hP hD hS => k H locs ls (lv_sub hl ks hf) hP hD hS
theorem x_get (X : XC K g cc nL own rt R0) {a ci N index : Nat} {C : String} {T : u_T} {fs : List Value} {v : Value} (q0 k0 : Nat) (hin : ∀ w ∈ u_ws C T N, w ∈ TBL) (he : (wd u)[q0]? = some (a, .inr (ci, fs))) (hc : vwCl[ci]? = some (C, T, N)) (hk : k0 < N) (hm : Cond.fieldLink own index (T k0).1 (T k0).2.1 (T k0).2.2.1 ∈ TBL) (hv : fs[k0]? = some v) (hdg : decode cc pc = .ok (.getfield index, 3)) (k : XW K ce sl nL Q wd u (pc + 3) lv (v :: rest)) : XW K ce sl nL Q wd u pc lv (.ref a :: rest) := fun H locs ls hl hP hD hS => va_get X.1.1 X.1.2.1 X.1.2.2.2.2 hin X.1.2.2.2.1 X.2.1 hP q0 he hc k0 hk (X.1.2.2.2.2 _ hm) (fun _ h => h) hv hdg (k H locs ls hl hP hD hS)
theorem x_put (X : XC K g cc nL own rt R0) {a ci N index : Nat} {C : String} {T : u_T} {fs : List Value} {v : Value} {ty : FieldType} {ty0 : Nat → FieldType} {u2 : σ} (q0 k0 : Nat) (hin : ∀ w ∈ u_ws C T N, w ∈ TBL) (hty : ∀ k, k < N → parseFieldDescriptor (T k).2.2.1 = some (ty0 k)) (hnm : ∀ a, a < N → ∀ b, b < N → a ≠ b → (T a).2.1 ≠ (T b).2.1) (he : (wd u)[q0]? = some (a, .inr (ci, fs))) (hc : vwCl[ci]? = some (C, T, N)) (hk : k0 < N) (hm : Cond.fieldLink own index (T k0).1 (T k0).2.1 (T k0).2.2.1 ∈ TBL) (hfin : (T k0).2.2.2 = false) (hd : ty0 k0 = ty) (hn : narrow ty v = v) (hfit : fits ty v = true) (hl : k0 < fs.length) (hw : (wd u).set q0 (a, .inr (ci, fs.set k0 v)) = wd u2) (hdg : decode cc pc = .ok (.putfield index, 3)) (k : XW K ce sl nL Q wd u2 (pc + 3) lv rest) : XW K ce sl nL Q wd u pc lv (v :: .ref a :: rest) := fun H locs ls hls hP hD hS => va_put X.1.1 X.1.2.1 X.1.2.2.2.2 hin ty0 hty hnm X.1.2.2.2.1 X.2.1 hP hD hS q0 he hc k0 hk (X.1.2.2.2.2 _ hm) (fun _ h => h) hfin (hd ▸ hty k0 hk) hn hfit hl hdg (fun H1 locs1 hP1 hD1 hS1 => k H1 locs1 ls hls (hw ▸ hP1) (hw ▸ hD1) hS1)
theorem x_iald (X : XC K g cc nL own rt R0) {a n : Nat} {cA : ClassId} {f : Nat → Int32} {i : Int32} (q0 t0 : Nat) (ha : (wd u)[q0]? = some (a, .inl (cA, n, .inl f))) (ht : (tyXM g)[t0]? = some (cA, .int)) (hin : vp_in i n) (hdg : decode cc pc = .ok (.iaload, 1)) (k : XW K ce sl nL Q wd u (pc + 1) lv (.int (f i.toNatClampNeg) :: rest)) : XW K ce sl nL Q wd u pc lv (.int i :: .ref a :: rest) := fun H locs ls hl hP hD hS => va_iald X.1.1 X.1.2.1 X.2.1 hP q0 t0 ha ht hin hdg (k H locs ls hl hP hD hS)
theorem x_zald (X : XC K g cc nL own rt R0) {a n : Nat} {cA : ClassId} {f : Nat → Int32} {i : Int32} (q0 t0 : Nat) (ha : (wd u)[q0]? = some (a, .inl (cA, n, .inl f))) (ht : (tyXM g)[t0]? = some (cA, .boolean)) (hin : vp_in i n) (hdg : decode cc pc = .ok (.baload, 1)) (k : XW K ce sl nL Q wd u (pc + 1) lv (.int (f i.toNatClampNeg) :: rest)) : XW K ce sl nL Q wd u pc lv (.int i :: .ref a :: rest) := fun H locs ls hl hP hD hS => va_zald X.1.1 X.1.2.1 X.2.1 hP q0 t0 ha ht hin hdg (k H locs ls hl hP hD hS)
theorem x_bald (X : XC K g cc nL own rt R0) {a n : Nat} {cA : ClassId} {f : Nat → Int32} {i : Int32} (q0 t0 : Nat) (ha : (wd u)[q0]? = some (a, .inl (cA, n, .inl f))) (ht : (tyXM g)[t0]? = some (cA, .byte)) (hin : vp_in i n) (hdg : decode cc pc = .ok (.baload, 1)) (k : XW K ce sl nL Q wd u (pc + 1) lv (.int (f i.toNatClampNeg) :: rest)) : XW K ce sl nL Q wd u pc lv (.int i :: .ref a :: rest) := fun H locs ls hl hP hD hS => va_bald X.1.1 X.1.2.1 X.2.1 hP q0 t0 ha ht hin hdg (k H locs ls hl hP hD hS)
theorem x_iast (X : XC K g cc nL own rt R0) {a n : Nat} {cA : ClassId} {f : Nat → Int32} {i x : Int32} {u2 : σ} (q0 t0 : Nat) (ha : (wd u)[q0]? = some (a, .inl (cA, n, .inl f))) (ht : (tyXM g)[t0]? = some (cA, .int)) (hin : vp_in i n) (hw : (wd u).set q0 (a, .inl (cA, n, .inl (upd f i.toNatClampNeg x))) = wd u2) (hdg : decode cc pc = .ok (.iastore, 1)) (k : XW K ce sl nL Q wd u2 (pc + 1) lv rest) : XW K ce sl nL Q wd u pc lv (.int x :: .int i :: .ref a :: rest) := fun H locs ls hl hP hD hS => va_iast X.1.1 X.1.2.1 X.2.1 hP hD hS q0 t0 ha ht hin hdg (fun H1 locs1 hP1 hD1 hS1 => k H1 locs1 ls hl (hw ▸ hP1) (hw ▸ hD1) hS1)
theorem x_zast (X : XC K g cc nL own rt R0) {a n : Nat} {cA : ClassId} {f : Nat → Int32} {i x : Int32} {u2 : σ} (q0 t0 : Nat) (ha : (wd u)[q0]? = some (a, .inl (cA, n, .inl f))) (ht : (tyXM g)[t0]? = some (cA, .boolean)) (hin : vp_in i n) (hw : (wd u).set q0 (a, .inl (cA, n, .inl (upd f i.toNatClampNeg (vp_nar .boolean x)))) = wd u2) (hdg : decode cc pc = .ok (.bastore, 1)) (k : XW K ce sl nL Q wd u2 (pc + 1) lv rest) : XW K ce sl nL Q wd u pc lv (.int x :: .int i :: .ref a :: rest) := fun H locs ls hl hP hD hS => va_zast X.1.1 X.1.2.1 X.2.1 hP hD hS q0 t0 ha ht hin hdg (fun H1 locs1 hP1 hD1 hS1 => k H1 locs1 ls hl (hw ▸ hP1) (hw ▸ hD1) hS1)
theorem x_bast (X : XC K g cc nL own rt R0) {a n : Nat} {cA : ClassId} {f : Nat → Int32} {i x : Int32} {u2 : σ} (q0 t0 : Nat) (ha : (wd u)[q0]? = some (a, .inl (cA, n, .inl f))) (ht : (tyXM g)[t0]? = some (cA, .byte)) (hin : vp_in i n) (hw : (wd u).set q0 (a, .inl (cA, n, .inl (upd f i.toNatClampNeg (vp_nar .byte x)))) = wd u2) (hdg : decode cc pc = .ok (.bastore, 1)) (k : XW K ce sl nL Q wd u2 (pc + 1) lv rest) : XW K ce sl nL Q wd u pc lv (.int x :: .int i :: .ref a :: rest) := fun H locs ls hl hP hD hS => va_bast X.1.1 X.1.2.1 X.2.1 hP hD hS q0 t0 ha ht hin hdg (fun H1 locs1 hP1 hD1 hS1 => k H1 locs1 ls hl (hw ▸ hP1) (hw ▸ hD1) hS1)
theorem x_alen (X : XC K g cc nL own rt R0) {a : Nat} {cA : ClassId} {x : vp_A} {ty : FieldType} {v : Int32} (q0 t0 : Nat) (ha : (wd u)[q0]? = some (a, .inl (cA, x))) (ht : (tyXM g)[t0]? = some (cA, ty)) (hv : Int32.ofNat x.1 = v) (hdg : decode cc pc = .ok (.arraylength, 1)) (k : XW K ce sl nL Q wd u (pc + 1) lv (.int v :: rest)) : XW K ce sl nL Q wd u pc lv (.ref a :: rest) := fun H locs ls hl hP hD hS => va_alen X.1.1 X.1.2.1 X.2.1 hP q0 t0 ha ht hv hdg (k H locs ls hl hP hD hS)
theorem x_copyi (X : XC K g cc nL own rt R0) {a0 a index : Nat} {c0 c1 : ClassId} {n0 n1 : Nat} {fa fb : Nat → Int32} {sp dp n : Int32} {u2 : σ} (q0 q1 t0 t1 : Nat) (hm1 : Cond.methodLink own index arraycopyName ∈ TBL) (hm2 : Cond.native arraycopyName ∈ TBL) (hm3 : Cond.static arraycopyName ∈ TBL) (hm4 : Cond.initialized "java/lang/System" ∈ TBL) (ha0 : (wd u)[q0]? = some (a0, .inl (c0, n0, .inl fa))) (ha1 : (wd u)[q1]? = some (a, .inl (c1, n1, .inl fb))) (ht0 : (tyXM g)[t0]? = some (c0, .int)) (ht1 : (tyXM g)[t1]? = some (c1, .int)) (hcc : ¬ sp < 0 ∧ ¬ dp < 0 ∧ ¬ n < 0 ∧ sp.toNatClampNeg + n.toNatClampNeg ≤ n0 ∧ dp.toNatClampNeg + n.toNatClampNeg ≤ n1) (hframes : 1 ≤ R0.frames) (hlocals : (rest.map fun v => v.category).sum + (nativeFrameWords "java/lang/System" "arraycopy" 5 + 11) ≤ R0.locals) (hw : (wd u).set q1 (a, .inl (c1, n1, .inl (va_cpy fa fb sp.toNatClampNeg dp.toNatClampNeg n.toNatClampNeg))) = wd u2) (hdg : decode cc pc = .ok (.invokestatic index, 3)) (k : XW K ce sl nL Q wd u2 (pc + 3) lv rest) : XW K ce sl nL Q wd u pc lv (.int n :: .int dp :: .ref a :: .int sp :: .ref a0 :: rest) := fun H locs ls hl hP hD hS => va_copyi X.1.1 X.1.2.1 (X.1.2.2.1.trans hl.1.symm) X.1.2.2.2.1 (X.1.2.2.2.2 _ hm1) (X.1.2.2.2.2 _ hm2) (X.1.2.2.2.2 _ hm3) (X.1.2.2.2.2 _ hm4) X.2.1 hP hD hS q0 q1 t0 t1 ha0 ha1 ht0 ht1 rfl hcc.1 hcc.2.1 hcc.2.2.1 hcc.2.2.2.1 hcc.2.2.2.2 (fun _ _ => rfl) (by rw [X.2.2.2.2.2.2]; exact hframes) (by rw [X.2.2.2.2.2.2]; exact hlocals) hdg (fun H1 locs1 hP1 hD1 hS1 => k H1 locs1 ls hl (hw ▸ hP1) (hw ▸ hD1) hS1)
theorem x_mmax (X : XC K g cc nL own rt R0) {index : Nat} {x y : Int32} (hm1 : Cond.methodLink own index Lib.Math.max.name ∈ TBL) (hm2 : Cond.static Lib.Math.max.name ∈ TBL) (hm3 : Cond.initialized "java/lang/Math" ∈ TBL) (hm4 : Cond.code Lib.Math.max.name Lib.Math.max.code 2 (some .int) ∈ TBL) (hframes : 1 ≤ R0.frames) (hlocals : (rest.map fun v => v.category).sum + 13 ≤ R0.locals) (hCS : ce ≤ R0.cells ∧ sl ≤ R0.slots) (hdg : decode cc pc = .ok (.invokestatic index, 3)) (k : XW K ce sl nL Q wd u (pc + 3) lv (.int (if x < y then y else x) :: rest)) : XW K ce sl nL Q wd u pc lv (.int y :: .int x :: rest) := fun H locs ls hl hP hD hS => va_mmax X.1.1 X.1.2.1 (X.1.2.2.1.trans hl.1.symm) X.1.2.2.2.1 (X.1.2.2.2.2 _ hm1) (X.1.2.2.2.2 _ hm2) (X.1.2.2.2.2 _ hm3) (X.1.2.2.2.2 _ hm4) (by rw [X.2.2.2.2.2.2]; exact hframes) (by rw [X.2.2.2.2.2.2]; exact hlocals) (by rw [X.2.2.2.2.2.2]; exact hCS.1) (by rw [X.2.2.2.2.2.2]; exact hCS.2) hdg (k H locs ls hl hP hD hS)
end XROWS
section XRET
variable {σ : Type} {K : Cx} {g : Gw} {cc : ByteArray} {nL : Nat} {own : String} {R0 : Room} {wd : σ → va_W} {u : σ} {pc ce sl : Nat} {lv : List (Nat × Value)}
theorem x_iret (X : XC K g cc nL own (some .int) R0) {r : Int32} {res : Int32 × σ} (h : (r, u) = res) (hdg : decode cc pc = .ok (.ireturn, 1)) : XW K 0 0 nL (QI K g wd res) wd u pc lv [.int r] := fun H locs ls hl hP hD hS => W.iret (v := r) X.1.1 X.1.2.1 X.2.2.2.2.1 (fun t ht hW => ⟨⟨r, u, rfl, h, by rw [ht]; exact hP, va_K.moved hW.alike X.2.1, hD⟩, hS.F ht⟩) hS.2.2 hdg X.2.2.2.2.2.1
theorem x_zret (X : XC K g cc nL own (some .boolean) R0) {r : Int32} {res : Int32 × σ} (hb : narrow .boolean (.int r) = .int r) (h : (r, u) = res) (hdg : decode cc pc = .ok (.ireturn, 1)) : XW K 0 0 nL (QI K g wd res) wd u pc lv [.int r] := fun H locs ls hl hP hD hS => W.zret (v := r) X.1.1 X.1.2.1 X.2.2.2.2.1 hb (fun t ht hW => ⟨⟨r, u, rfl, h, by rw [ht]; exact hP, va_K.moved hW.alike X.2.1, hD⟩, hS.F ht⟩) hS.2.2 hdg X.2.2.2.2.2.1
theorem x_lret (X : XC K g cc nL own (some .long) R0) {r : Int64} {res : Int64 × σ} (h : (r, u) = res) (hdg : decode cc pc = .ok (.lreturn, 1)) : XW K 0 0 nL (QL K g wd res) wd u pc lv [.long r] := fun H locs ls hl hP hD hS => W.lret (v := r) X.1.1 X.1.2.1 X.2.2.2.2.1 (fun t ht hW => ⟨⟨r, u, rfl, h, by rw [ht]; exact hP, va_K.moved hW.alike X.2.1, hD⟩, hS.F ht⟩) hS.2.2 hdg X.2.2.2.2.2.1
theorem x_vret (X : XC K g cc nL own none R0) {res : σ} (h : u = res) (hdg : decode cc pc = .ok (.return_, 1)) : XW K 0 0 nL (QV K g wd res) wd u pc lv [] := fun H locs ls hl hP hD hS => W.vret X.1.1 X.1.2.1 X.2.2.2.2.1 (fun t ht hW => ⟨⟨u, rfl, h, by rw [ht]; exact hP, va_K.moved hW.alike X.2.1, hD⟩, hS.F ht⟩) hS.2.2 hdg X.2.2.2.2.2.1
end XRET
/-- what a contract starts from -/
def mPre {σ : Type} (D : va_G) (g : Gw) (wd : σ → va_W) (u : σ) (sz : Nat) (U : State) : Prop := U.heap.size = sz ∧ va_P D vwCl (wd u) U.heap ∧ va_K D vwCl (tyXM g) U ∧ va_D (fun _ => True) (wd u) ∧ exOk g (va_A (wd u) sz) U U.heap
/-- the contract of a method that answers an int (or a truth value): res = (answer, state behind it) -/
def metI {σ : Type} (l : Launch) (D : va_G) (g : Gw) (wd : σ → va_W) (y : MethodName) (b : ByteArray) (n : Nat) (ty : FieldType) (rm : Room) (av : List Value) (u : σ) (res : Int32 × σ) : Prop :=
  ∀ sz : Nat, Met l y (Cond.code y b n (some ty) :: TBL) rm (va_Pc av (mPre D g wd u sz)) (va_Qi (fun r u2 => (r, u2) = res) (fun (u2 : σ) t => va_P D vwCl (wd u2) t.heap ∧ va_K D vwCl (tyXM g) t ∧ va_D (va_A (wd u) sz) (wd u2)) (va_A (wd u) sz)) 0 0 (va_A (wd u) sz)
def metL {σ : Type} (l : Launch) (D : va_G) (g : Gw) (wd : σ → va_W) (y : MethodName) (b : ByteArray) (n : Nat) (rm : Room) (av : List Value) (u : σ) (res : Int64 × σ) : Prop :=
  ∀ sz : Nat, Met l y (Cond.code y b n (some .long) :: TBL) rm (va_Pc av (mPre D g wd u sz)) (va_Ql (fun r u2 => (r, u2) = res) (fun (u2 : σ) t => va_P D vwCl (wd u2) t.heap ∧ va_K D vwCl (tyXM g) t ∧ va_D (va_A (wd u) sz) (wd u2)) (va_A (wd u) sz)) 0 0 (va_A (wd u) sz)
def metV {σ : Type} (l : Launch) (D : va_G) (g : Gw) (wd : σ → va_W) (y : MethodName) (b : ByteArray) (n : Nat) (rm : Room) (av : List Value) (u : σ) (res : σ) : Prop :=
  ∀ sz : Nat, Met l y (Cond.code y b n none :: TBL) rm (va_Pc av (mPre D g wd u sz)) (va_Qv (fun u2 => u2 = res) (fun (u2 : σ) t => va_P D vwCl (wd u2) t.heap ∧ va_K D vwCl (tyXM g) t ∧ va_D (va_A (wd u) sz) (wd u2)) (va_A (wd u) sz)) 0 0 (va_A (wd u) sz)
theorem metI_of {σ : Type} {l : Launch} {D : va_G} {g : Gw} {wd : σ → va_W} {y : MethodName} {b : ByteArray} {n : Nat} {ty : FieldType} {rm : Room} {av : List Value} {u : σ} {res : Int32 × σ} {own : String} {lv : List (Nat × Value)} (hy : plainName y.cls = true) (hcls : y.cls = own) (hlv : lv_args 0 av = lv) (hle : (lg_sl av).length ≤ n)
    (body : ∀ K : Cx, K.l = l → K.D = D → XC K g b n own (some ty) rm → XW K 0 0 n (QI K g wd res) wd u 0 lv []) : metI l D g wd y b n ty rm av u res := by
  intro sz
  refine Met.ofW (cc := b) (maxL := n) (ret := some ty) hy rfl ?_
  intro p e s m args below meth c s₁ B hml hv
  obtain ⟨rfl, hsz, hP, hK, hD0, hN⟩ := hv
  subst hsz
  have hts := atoms_spec (ws := Cond.code y b n (some ty) :: TBL) B.pre
  have hown : s.vm.findClass own = some m.cls := by rw [← hcls]; exact findClass_of_methodNamed B.named
  have X := body (p, l, e, rm, s, m, av.toArray, below, meth, c, D, va_A (wd u) s.heap.size) rfl rfl ⟨⟨B.exec, B.bytes, hml, hown, fun w h => hts w (List.mem_cons_of_mem _ h)⟩, hK, fun q h => Or.inr h, hN, B.returns, B.notSynchronized, rfl⟩
  have hl := lv_entry av (n := n) hle
  rw [lg_entry_eq]
  rw [hlv] at hl
  exact X s.heap [] _ hl hP (hD0.self (sz := s.heap.size)) va_S.rf
theorem metL_of {σ : Type} {l : Launch} {D : va_G} {g : Gw} {wd : σ → va_W} {y : MethodName} {b : ByteArray} {n : Nat} {rm : Room} {av : List Value} {u : σ} {res : Int64 × σ} {own : String} {lv : List (Nat × Value)} (hy : plainName y.cls = true) (hcls : y.cls = own) (hlv : lv_args 0 av = lv) (hle : (lg_sl av).length ≤ n)
    (body : ∀ K : Cx, K.l = l → K.D = D → XC K g b n own (some .long) rm → XW K 0 0 n (QL K g wd res) wd u 0 lv []) : metL l D g wd y b n rm av u res := by
  intro sz
  refine Met.ofW (cc := b) (maxL := n) (ret := some .long) hy rfl ?_
  intro p e s m args below meth c s₁ B hml hv
  obtain ⟨rfl, hsz, hP, hK, hD0, hN⟩ := hv
  subst hsz
  have hts := atoms_spec (ws := Cond.code y b n (some .long) :: TBL) B.pre
  have hown : s.vm.findClass own = some m.cls := by rw [← hcls]; exact findClass_of_methodNamed B.named
  have X := body (p, l, e, rm, s, m, av.toArray, below, meth, c, D, va_A (wd u) s.heap.size) rfl rfl ⟨⟨B.exec, B.bytes, hml, hown, fun w h => hts w (List.mem_cons_of_mem _ h)⟩, hK, fun q h => Or.inr h, hN, B.returns, B.notSynchronized, rfl⟩
  have hl := lv_entry av (n := n) hle
  rw [lg_entry_eq]
  rw [hlv] at hl
  exact X s.heap [] _ hl hP (hD0.self (sz := s.heap.size)) va_S.rf
theorem metV_of {σ : Type} {l : Launch} {D : va_G} {g : Gw} {wd : σ → va_W} {y : MethodName} {b : ByteArray} {n : Nat} {rm : Room} {av : List Value} {u : σ} {res : σ} {own : String} {lv : List (Nat × Value)} (hy : plainName y.cls = true) (hcls : y.cls = own) (hlv : lv_args 0 av = lv) (hle : (lg_sl av).length ≤ n)
    (body : ∀ K : Cx, K.l = l → K.D = D → XC K g b n own none rm → XW K 0 0 n (QV K g wd res) wd u 0 lv []) : metV l D g wd y b n rm av u res := by
  intro sz
  refine Met.ofW (cc := b) (maxL := n) (ret := none) hy rfl ?_
  intro p e s m args below meth c s₁ B hml hv
  obtain ⟨rfl, hsz, hP, hK, hD0, hN⟩ := hv
  subst hsz
  have hts := atoms_spec (ws := Cond.code y b n none :: TBL) B.pre
  have hown : s.vm.findClass own = some m.cls := by rw [← hcls]; exact findClass_of_methodNamed B.named
  have X := body (p, l, e, rm, s, m, av.toArray, below, meth, c, D, va_A (wd u) s.heap.size) rfl rfl ⟨⟨B.exec, B.bytes, hml, hown, fun w h => hts w (List.mem_cons_of_mem _ h)⟩, hK, fun q h => Or.inr h, hN, B.returns, B.notSynchronized, rfl⟩
  have hl := lv_entry av (n := n) hle
  rw [lg_entry_eq]
  rw [hlv] at hl
  exact X s.heap [] _ hl hP (hD0.self (sz := s.heap.size)) va_S.rf
theorem mPre_blind {σ : Type} {D : va_G} {g : Gw} {wd : σ → va_W} {u : σ} {sz : Nat} {av : List Value} : FrameBlind (va_Pc av (mPre D g wd u sz)) := fun a U g0 mk q => by
  obtain ⟨q0, q1, qP, qK, qD, qN⟩ := q
  exact ⟨q0, q1, qP, va_K.moved (u := U) (U := U.calling g0 mk a) (Vm.Alike.refl U.vm) qK, qD, exOk.same (u := U) (U := U.calling g0 mk a) rfl rfl qN⟩
/-- a callee's words, and its shape -/
def okV (y : MethodName) (C : String) (b : ByteArray) (n : Nat) (ret : Option FieldType) (nA : Nat) : Prop :=
  (Cond.instanceMethod y ∈ TBL ∧ Cond.selects C y y ∈ TBL ∧ Cond.initialized C ∈ TBL ∧ Cond.code y b n ret ∈ TBL) ∧ (y.cls = C ∧ y.cls ≠ "java/lang/invoke/MethodHandle" ∧ y.cls ≠ "java/lang/invoke/VarHandle" ∧ (parseMethodDescriptor y.desc).map (fun d => d.parameters.length) = some nA)
def okS (y : MethodName) (b : ByteArray) (n : Nat) (ret : Option FieldType) (nA : Nat) : Prop :=
  (Cond.static y ∈ TBL ∧ Cond.initialized y.cls ∈ TBL ∧ Cond.code y b n ret ∈ TBL) ∧ (y.cls ≠ "java/lang/invoke/MethodHandle" ∧ y.cls ≠ "java/lang/invoke/VarHandle" ∧ (parseMethodDescriptor y.desc).map (fun d => d.parameters.length) = some nA)
theorem TBL_good {w : Cond} (h : w ∈ TBL) : (w.onTables && w.keeps) = true ∨ ∃ ty, w = .arrayClass ty := good_of_word (List.mem_filter.mp h).2
theorem TBL_in {ws : List Cond} (h : ∀ w ∈ ws, w ∈ TBL) : GoodIn TBL ws := fun w hw => ⟨h w hw, TBL_good (h w hw)⟩
theorem okV_in {own : String} {index : Nat} {y : MethodName} {C : String} {b : ByteArray} {n nA : Nat} {ret : Option FieldType} (ok : okV y C b n ret nA) (hm : Cond.methodLink own index y ∈ TBL) : GoodIn TBL (wsV own index C y (Cond.code y b n ret :: TBL)) := TBL_in (fun w hw => by
  obtain ⟨⟨h1, h2, h3, h4⟩, -⟩ := ok
  simp only [wsV, List.cons_append, List.nil_append, List.mem_cons] at hw
  rcases hw with rfl | rfl | rfl | rfl | rfl | hw <;> assumption)
theorem okS_in {own : String} {index : Nat} {y : MethodName} {b : ByteArray} {n nA : Nat} {ret : Option FieldType} (ok : okS y b n ret nA) (hm : Cond.methodLink own index y ∈ TBL) : GoodIn TBL (va_wsS own index y (Cond.code y b n ret :: TBL)) := TBL_in (fun w hw => by
  obtain ⟨⟨h1, h2, h4⟩, -⟩ := ok
  simp only [va_wsS, List.cons_append, List.nil_append, List.mem_cons] at hw
  rcases hw with rfl | rfl | rfl | rfl | hw <;> assumption)
theorem x_free {D : va_G} {A : Nat → Prop} {ws : va_W} {H0 H : Heap} {locs : List Loc} (hD : va_D A ws) (hS : va_S A H0 H locs) (hA : ∀ q, H0.size ≤ q → A q) : ∀ q, va_A ws H.size q → A q := fun q h => by
  rcases h with ⟨k, e, hk⟩ | h
  · exact hD.2 k (q, e) hk
  · exact hA q (Nat.le_trans hS.1 h)
section XCALL
variable {σ : Type} {K : Cx} {g : Gw} {cc : ByteArray} {nL : Nat} {own : String} {rt : Option FieldType} {R0 : Room} {Q : State → Prop} {wd : σ → va_W} {u : σ} {pc ce sl : Nat} {lv : List (Nat × Value)} {st : List Value} {y : MethodName} {C : String} {b : ByteArray} {n nA index : Nat} {ty : FieldType} {rm : Room} {a ci N : Nat} {T : u_T} {fs : List Value}
theorem x_callI (X : XC K g cc nL own rt R0) {res : Int32 × σ} (As rest : List Value) (hM : metI K.l K.D g wd y b n ty rm (.ref a :: As) u res) (ok : okV y C b n (some ty) nA) (hm : Cond.methodLink own index y ∈ TBL) (q0 : Nat) (he : (wd u)[q0]? = some (a, .inr (ci, fs))) (hc : vwCl[ci]? = some (C, T, N)) (hn : As.length = nA) (hst : st = As.reverse ++ .ref a :: rest) (hrm : (rest.map fun v => v.category).sum ≤ 8) (hCS : ce ≤ R0.cells ∧ sl ≤ R0.slots) (hRm : rm.cells = 0 ∧ rm.slots = 0 ∧ rm.frames + 1 ≤ R0.frames ∧ 8 + (n + 11) + rm.locals ≤ R0.locals) (hdg : decode cc pc = .ok (.invokevirtual index, 3)) (k : XW K ce sl nL Q wd res.2 (pc + 3) lv (.int res.1 :: rest)) : XW K ce sl nL Q wd u pc lv st := fun H locs ls hl hP hD hS => by
  have hF := x_free (D := K.D) hD hS X.2.2.1
  refine va_calli (va_runV (As := As) (rest := rest) X.1 (hM H.size) (cwV nA X.1.2.2.2.2 (okV_in ok hm) rfl hRm.1 hRm.2.1 ok.2 (by rw [X.2.2.2.2.2.2]; exact hRm.2.2)) ⟨mPre_blind, va_recv X.2.1 hP hc he, fun U hU hW => ⟨rfl, by rw [hU], by rw [hU]; exact hP, va_K.moved hW.alike X.2.1, hD.weaken (fun _ _ _ _ => trivial), X.2.2.2.1.call hS hF hU hW⟩⟩ rfl hn hl.1 hst (lv_room hrm) hdg (by rw [X.2.2.2.2.2.2]; exact hCS)) hS (fun q _ h => hF q h) hF (fun r u2 t H1 locs1 ht hvm hw hB hz1 hk1 hS1 => ?_)
  subst hw
  obtain ⟨hP1, -, hD1⟩ := hB
  rw [ht] at hP1
  exact k H1 locs1 ls hl hP1 (hD1.weaken (fun _ q _ h => hF q.1 h)) hS1
theorem x_scallI (X : XC K g cc nL own rt R0) {res : Int32 × σ} (As rest : List Value) (hM : metI K.l K.D g wd y b n ty rm As u res) (ok : okS y b n (some ty) nA) (hm : Cond.methodLink own index y ∈ TBL) (hn : As.length = nA) (hst : st = As.reverse ++ rest) (hrm : (rest.map fun v => v.category).sum ≤ 8) (hCS : ce ≤ R0.cells ∧ sl ≤ R0.slots) (hRm : rm.cells = 0 ∧ rm.slots = 0 ∧ rm.frames + 1 ≤ R0.frames ∧ 8 + (n + 11) + rm.locals ≤ R0.locals) (hdg : decode cc pc = .ok (.invokestatic index, 3)) (k : XW K ce sl nL Q wd res.2 (pc + 3) lv (.int res.1 :: rest)) : XW K ce sl nL Q wd u pc lv st := fun H locs ls hl hP hD hS => by
  have hF := x_free (D := K.D) hD hS X.2.2.1
  refine va_calli (va_runS (As := As) (rest := rest) X.1 (hM H.size) (va_cwS nA X.1.2.2.2.2 (okS_in ok hm) rfl hRm.1 hRm.2.1 ok.2 (by rw [X.2.2.2.2.2.2]; exact hRm.2.2)) ⟨mPre_blind, fun U hU hW => ⟨rfl, by rw [hU], by rw [hU]; exact hP, va_K.moved hW.alike X.2.1, hD.weaken (fun _ _ _ _ => trivial), X.2.2.2.1.call hS hF hU hW⟩⟩ rfl hn hl.1 hst (lv_room hrm) hdg (by rw [X.2.2.2.2.2.2]; exact hCS)) hS (fun q _ h => hF q h) hF (fun r u2 t H1 locs1 ht hvm hw hB hz1 hk1 hS1 => ?_)
  subst hw
  obtain ⟨hP1, -, hD1⟩ := hB
  rw [ht] at hP1
  exact k H1 locs1 ls hl hP1 (hD1.weaken (fun _ q _ h => hF q.1 h)) hS1
theorem x_callV (X : XC K g cc nL own rt R0) {res : σ} (As rest : List Value) (hM : metV K.l K.D g wd y b n rm (.ref a :: As) u res) (ok : okV y C b n none nA) (hm : Cond.methodLink own index y ∈ TBL) (q0 : Nat) (he : (wd u)[q0]? = some (a, .inr (ci, fs))) (hc : vwCl[ci]? = some (C, T, N)) (hn : As.length = nA) (hst : st = As.reverse ++ .ref a :: rest) (hrm : (rest.map fun v => v.category).sum ≤ 8) (hCS : ce ≤ R0.cells ∧ sl ≤ R0.slots) (hRm : rm.cells = 0 ∧ rm.slots = 0 ∧ rm.frames + 1 ≤ R0.frames ∧ 8 + (n + 11) + rm.locals ≤ R0.locals) (hdg : decode cc pc = .ok (.invokevirtual index, 3)) (k : XW K ce sl nL Q wd res (pc + 3) lv rest) : XW K ce sl nL Q wd u pc lv st := fun H locs ls hl hP hD hS => by
  have hF := x_free (D := K.D) hD hS X.2.2.1
  refine va_callv (va_runV (As := As) (rest := rest) X.1 (hM H.size) (cwV nA X.1.2.2.2.2 (okV_in ok hm) rfl hRm.1 hRm.2.1 ok.2 (by rw [X.2.2.2.2.2.2]; exact hRm.2.2)) ⟨mPre_blind, va_recv X.2.1 hP hc he, fun U hU hW => ⟨rfl, by rw [hU], by rw [hU]; exact hP, va_K.moved hW.alike X.2.1, hD.weaken (fun _ _ _ _ => trivial), X.2.2.2.1.call hS hF hU hW⟩⟩ rfl hn hl.1 hst (lv_room hrm) hdg (by rw [X.2.2.2.2.2.2]; exact hCS)) hS (fun q _ h => hF q h) hF (fun u2 t H1 locs1 ht hvm hw hB hz1 hk1 hS1 => ?_)
  subst hw
  obtain ⟨hP1, -, hD1⟩ := hB
  rw [ht] at hP1
  exact k H1 locs1 ls hl hP1 (hD1.weaken (fun _ q _ h => hF q.1 h)) hS1
theorem x_scallV (X : XC K g cc nL own rt R0) {res : σ} (As rest : List Value) (hM : metV K.l K.D g wd y b n rm As u res) (ok : okS y b n none nA) (hm : Cond.methodLink own index y ∈ TBL) (hn : As.length = nA) (hst : st = As.reverse ++ rest) (hrm : (rest.map fun v => v.category).sum ≤ 8) (hCS : ce ≤ R0.cells ∧ sl ≤ R0.slots) (hRm : rm.cells = 0 ∧ rm.slots = 0 ∧ rm.frames + 1 ≤ R0.frames ∧ 8 + (n + 11) + rm.locals ≤ R0.locals) (hdg : decode cc pc = .ok (.invokestatic index, 3)) (k : XW K ce sl nL Q wd res (pc + 3) lv rest) : XW K ce sl nL Q wd u pc lv st := fun H locs ls hl hP hD hS => by
  have hF := x_free (D := K.D) hD hS X.2.2.1
  refine va_callv (va_runS (As := As) (rest := rest) X.1 (hM H.size) (va_cwS nA X.1.2.2.2.2 (okS_in ok hm) rfl hRm.1 hRm.2.1 ok.2 (by rw [X.2.2.2.2.2.2]; exact hRm.2.2)) ⟨mPre_blind, fun U hU hW => ⟨rfl, by rw [hU], by rw [hU]; exact hP, va_K.moved hW.alike X.2.1, hD.weaken (fun _ _ _ _ => trivial), X.2.2.2.1.call hS hF hU hW⟩⟩ rfl hn hl.1 hst (lv_room hrm) hdg (by rw [X.2.2.2.2.2.2]; exact hCS)) hS (fun q _ h => hF q h) hF (fun u2 t H1 locs1 ht hvm hw hB hz1 hk1 hS1 => ?_)
  subst hw
  obtain ⟨hP1, -, hD1⟩ := hB
  rw [ht] at hP1
  exact k H1 locs1 ls hl hP1 (hD1.weaken (fun _ q _ h => hF q.1 h)) hS1
theorem x_callL (X : XC K g cc nL own rt R0) {res : Int64 × σ} (As rest : List Value) (hM : metL K.l K.D g wd y b n rm (.ref a :: As) u res) (ok : okV y C b n (some .long) nA) (hm : Cond.methodLink own index y ∈ TBL) (q0 : Nat) (he : (wd u)[q0]? = some (a, .inr (ci, fs))) (hc : vwCl[ci]? = some (C, T, N)) (hn : As.length = nA) (hst : st = As.reverse ++ .ref a :: rest) (hrm : (rest.map fun v => v.category).sum ≤ 8) (hCS : ce ≤ R0.cells ∧ sl ≤ R0.slots) (hRm : rm.cells = 0 ∧ rm.slots = 0 ∧ rm.frames + 1 ≤ R0.frames ∧ 8 + (n + 11) + rm.locals ≤ R0.locals) (hdg : decode cc pc = .ok (.invokevirtual index, 3)) (k : XW K ce sl nL Q wd res.2 (pc + 3) lv (.long res.1 :: rest)) : XW K ce sl nL Q wd u pc lv st := fun H locs ls hl hP hD hS => by
  have hF := x_free (D := K.D) hD hS X.2.2.1
  refine va_calll (va_runV (As := As) (rest := rest) X.1 (hM H.size) (cwV nA X.1.2.2.2.2 (okV_in ok hm) rfl hRm.1 hRm.2.1 ok.2 (by rw [X.2.2.2.2.2.2]; exact hRm.2.2)) ⟨mPre_blind, va_recv X.2.1 hP hc he, fun U hU hW => ⟨rfl, by rw [hU], by rw [hU]; exact hP, va_K.moved hW.alike X.2.1, hD.weaken (fun _ _ _ _ => trivial), X.2.2.2.1.call hS hF hU hW⟩⟩ rfl hn hl.1 hst (lv_room hrm) hdg (by rw [X.2.2.2.2.2.2]; exact hCS)) hS (fun q _ h => hF q h) hF (fun r u2 t H1 locs1 ht hvm hw hB hz1 hk1 hS1 => ?_)
  subst hw
  obtain ⟨hP1, -, hD1⟩ := hB
  rw [ht] at hP1
  exact k H1 locs1 ls hl hP1 (hD1.weaken (fun _ q _ h => hF q.1 h)) hS1
theorem x_scallL (X : XC K g cc nL own rt R0) {res : Int64 × σ} (As rest : List Value) (hM : metL K.l K.D g wd y b n rm As u res) (ok : okS y b n (some .long) nA) (hm : Cond.methodLink own index y ∈ TBL) (hn : As.length = nA) (hst : st = As.reverse ++ rest) (hrm : (rest.map fun v => v.category).sum ≤ 8) (hCS : ce ≤ R0.cells ∧ sl ≤ R0.slots) (hRm : rm.cells = 0 ∧ rm.slots = 0 ∧ rm.frames + 1 ≤ R0.frames ∧ 8 + (n + 11) + rm.locals ≤ R0.locals) (hdg : decode cc pc = .ok (.invokestatic index, 3)) (k : XW K ce sl nL Q wd res.2 (pc + 3) lv (.long res.1 :: rest)) : XW K ce sl nL Q wd u pc lv st := fun H locs ls hl hP hD hS => by
  have hF := x_free (D := K.D) hD hS X.2.2.1
  refine va_calll (va_runS (As := As) (rest := rest) X.1 (hM H.size) (va_cwS nA X.1.2.2.2.2 (okS_in ok hm) rfl hRm.1 hRm.2.1 ok.2 (by rw [X.2.2.2.2.2.2]; exact hRm.2.2)) ⟨mPre_blind, fun U hU hW => ⟨rfl, by rw [hU], by rw [hU]; exact hP, va_K.moved hW.alike X.2.1, hD.weaken (fun _ _ _ _ => trivial), X.2.2.2.1.call hS hF hU hW⟩⟩ rfl hn hl.1 hst (lv_room hrm) hdg (by rw [X.2.2.2.2.2.2]; exact hCS)) hS (fun q _ h => hF q h) hF (fun r u2 t H1 locs1 ht hvm hw hB hz1 hk1 hS1 => ?_)
  subst hw
  obtain ⟨hP1, -, hD1⟩ := hB
  rw [ht] at hP1
  exact k H1 locs1 ls hl hP1 (hD1.weaken (fun _ q _ h => hF q.1 h)) hS1
theorem x_callR (X : XC K g cc nL own rt R0) {r : Int32} (As rest : List Value) (hM : metI K.l K.D g wd y b n ty rm (.ref a :: As) u (r, u)) (ok : okV y C b n (some ty) nA) (hm : Cond.methodLink own index y ∈ TBL) (q0 : Nat) (he : (wd u)[q0]? = some (a, .inr (ci, fs))) (hc : vwCl[ci]? = some (C, T, N)) (hn : As.length = nA) (hst : st = As.reverse ++ .ref a :: rest) (hrm : (rest.map fun v => v.category).sum ≤ 8) (hCS : ce ≤ R0.cells ∧ sl ≤ R0.slots) (hRm : rm.cells = 0 ∧ rm.slots = 0 ∧ rm.frames + 1 ≤ R0.frames ∧ 8 + (n + 11) + rm.locals ≤ R0.locals) (hdg : decode cc pc = .ok (.invokevirtual index, 3)) (k : XW K ce sl nL Q wd u (pc + 3) lv (.int r :: rest)) : XW K ce sl nL Q wd u pc lv st := x_callI X As rest hM ok hm q0 he hc hn hst hrm hCS hRm hdg k
theorem x_scallR (X : XC K g cc nL own rt R0) {r : Int32} (As rest : List Value) (hM : metI K.l K.D g wd y b n ty rm As u (r, u)) (ok : okS y b n (some ty) nA) (hm : Cond.methodLink own index y ∈ TBL) (hn : As.length = nA) (hst : st = As.reverse ++ rest) (hrm : (rest.map fun v => v.category).sum ≤ 8) (hCS : ce ≤ R0.cells ∧ sl ≤ R0.slots) (hRm : rm.cells = 0 ∧ rm.slots = 0 ∧ rm.frames + 1 ≤ R0.frames ∧ 8 + (n + 11) + rm.locals ≤ R0.locals) (hdg : decode cc pc = .ok (.invokestatic index, 3)) (k : XW K ce sl nL Q wd u (pc + 3) lv (.int r :: rest)) : XW K ce sl nL Q wd u pc lv st := x_scallI X As rest hM ok hm hn hst hrm hCS hRm hdg k
end XCALL
theorem roE {α β : Type} {a b : α} {u : β} (h : a = b) : (a, u) = (b, u) := by rw [h]
theorem sl {α β γ : Type} {f : α → Option γ} {k : β → Option γ} {q : α} {r : γ} (h : Sum.elim f k (.inl q) = some r) : f q = some r := h
theorem sr {α β γ : Type} {f : α → Option γ} {k : β → Option γ} {q : β} {r : γ} (h : Sum.elim f k (.inr q) = some r) : k q = some r := h
/-- loops, pure: body answers an end (inl) or the next state at the head (inr) -/
def loopF {α β : Type} (body : α → Option (β ⊕ α)) : Nat → α → Option β
  | 0, _ => none
  | n + 1, a => match body a with
    | none => none
    | some (.inl r) => some r
    | some (.inr a2) => loopF body n a2
theorem loopF_w {α β : Type} {body : α → Option (β ⊕ α)} {WH : α → Prop} {KB : β → Prop} (hs : ∀ a r, body a = some r → (∀ q, r = .inl q → KB q) → (∀ q, r = .inr q → WH q) → WH a) : ∀ n a r, loopF body n a = some r → KB r → WH a := by
  intro n
  induction n with
  | zero => intro a r h; cases h
  | succ n ih =>
    intro a r h hk
    rw [loopF] at h
    cases hb : body a with
    | none => rw [hb] at h; cases h
    | some q =>
      rw [hb] at h
      cases q with
      | inl x => cases h; exact hs a _ hb (fun q e => by cases e; exact hk) (fun q e => by cases e)
      | inr x => exact hs a _ hb (fun q e => by cases e) (fun q e => by cases e; exact ih x r h hk)
/-- an index is looked at -/
def chk {α : Type} (n : Nat) (i : Int32) (k : Option α) : Option α := if i < 0 ∨ n ≤ i.toNatClampNeg then none else k
theorem chk_some {α : Type} {n : Nat} {i : Int32} {k : Option α} {r : α} (h : chk n i k = some r) : vp_in i n ∧ k = some r := by
  unfold chk at h
  by_cases c : i < 0 ∨ n ≤ i.toNatClampNeg
  · rw [if_pos c] at h; cases h
  · rw [if_neg c] at h; exact ⟨c, h⟩
/-- a truth value is looked at -/
def bchk {α : Type} (v : Int32) (k : Option α) : Option α := if v = 0 ∨ v = 1 then k else none
theorem bchk_some {α : Type} {v : Int32} {k : Option α} {r : α} (h : bchk v k = some r) : narrow .boolean (.int v) = .int v ∧ k = some r := by
  unfold bchk at h
  by_cases c : v = 0 ∨ v = 1
  · rw [if_pos c] at h
    refine ⟨?_, h⟩
    rcases c with rfl | rfl <;> rfl
  · rw [if_neg c] at h; cases h
/-- the ranges of a copy are looked at -/
def cchk {α : Type} (sp dp n : Int32) (n0 n1 : Nat) (k : Option α) : Option α := if ¬ sp < 0 ∧ ¬ dp < 0 ∧ ¬ n < 0 ∧ sp.toNatClampNeg + n.toNatClampNeg ≤ n0 ∧ dp.toNatClampNeg + n.toNatClampNeg ≤ n1 then k else none
theorem cchk_some {α : Type} {sp dp n : Int32} {n0 n1 : Nat} {k : Option α} {r : α} (h : cchk sp dp n n0 n1 k = some r) : (¬ sp < 0 ∧ ¬ dp < 0 ∧ ¬ n < 0 ∧ sp.toNatClampNeg + n.toNatClampNeg ≤ n0 ∧ dp.toNatClampNeg + n.toNatClampNeg ≤ n1) ∧ k = some r := by
  unfold cchk at h
  by_cases c : ¬ sp < 0 ∧ ¬ dp < 0 ∧ ¬ n < 0 ∧ sp.toNatClampNeg + n.toNatClampNeg ≤ n0 ∧ dp.toNatClampNeg + n.toNatClampNeg ≤ n1
  · rw [if_pos c] at h; exact ⟨c, h⟩
  · rw [if_neg c] at h; cases h
theorem if_t {α : Type} {c : Prop} {i : Decidable c} {a b : Option α} {r : α} (hc : c) (h : (@ite _ c i a b) = some r) : a = some r := by rw [if_pos hc] at h; exact h
theorem if_f {α : Type} {c : Prop} {i : Decidable c} {a b : Option α} {r : α} (hc : ¬ c) (h : (@ite _ c i a b) = some r) : b = some r := by rw [if_neg hc] at h; exact h
theorem bd {α β : Type} {o : Option α} {k : α → Option β} {r : β} (h : o.bind k = some r) : ∃ q, o = some q ∧ k q = some r := by
  cases o with
  | none => cases h
  | some q => exact ⟨q, rfl, h⟩
/-- the pure state: cells by number, places in them -/
abbrev St : Type := Nat → Nat → Int32
def up (u : St) (k i : Nat) (v : Int32) : St := fun k2 => bif Nat.beq k2 k then upd (u k) i v else u k2
def upA (u : St) (k : Nat) (f : Nat → Int32) : St := fun k2 => bif Nat.beq k2 k then f else u k2
/-- how often a loop may turn -/
def FU : Nat := 1000000
