def wdX (g : Gw) (u : St) : va_W := [(g.1 0, .inr (5, [.ref (g.1 1), .ref (g.1 2), .ref (g.1 6), .ref (g.1 7), .int (u 0 0)])),
  (g.1 1, .inr (1, [.ref (g.1 8), .int (u 1 0)])),
  (g.1 2, .inr (2, [.ref (g.1 3), .ref (g.1 9), .ref (g.1 1), .ref (g.1 4), .ref (g.1 5), .ref (g.1 10), .int (u 14 0)])),
  (g.1 3, .inr (4, [.ref (g.1 1), .int (u 2 0), .int (u 3 0), .int (u 4 0), .int (u 5 0), .int (u 6 0), .int (u 7 0)])),
  (g.1 4, .inr (3, [.ref (g.1 1), .ref (g.1 3), .ref (g.1 11), .ref (g.1 12), .int (u 8 0)])),
  (g.1 5, .inr (0, [.ref (g.1 1), .ref (g.1 3), .ref (g.1 4), .ref (g.1 13), .ref (g.1 14), .int (u 9 0), .int (u 10 0), .int (u 11 0), .int (u 12 0), .int (u 13 0)])),
  (g.1 6, .inl (g.2 0, 29, .inl (u 20))),
  (g.1 7, .inl (g.2 0, 32, .inl (u 21))),
  (g.1 8, .inl (g.2 0, 400, .inl (u 22))),
  (g.1 9, .inl (g.2 0, 7, .inl (u 23))),
  (g.1 10, .inl (g.2 0, 51, .inl (u 24))),
  (g.1 11, .inl (g.2 0, 135, .inl (u 25))),
  (g.1 12, .inl (g.2 0, 135, .inl (u 26))),
  (g.1 13, .inl (g.2 1, 64, .inl (u 27))),
  (g.1 14, .inl (g.2 0, 64, .inl (u 28)))]
def wdM (g : Gw) (u : St) : va_W := [(g.1 0, .inr (6, [.ref (g.1 1), .int (u 0 0), .ref (g.1 2), .int (u 1 0), .int (u 2 0), .int (u 3 0), .int (u 4 0), .int (u 5 0), .int (u 6 0), .int (u 7 0), .int (u 8 0), .ref (g.1 3), .ref (g.1 4), .ref (g.1 5), .ref (g.1 6), .ref (g.1 7), .int (u 9 0), .ref (g.1 8), .ref (g.1 9), .ref (g.1 10), .ref (g.1 11), .int (u 10 0), .int (u 11 0), .int (u 12 0), .int (u 13 0), .int (u 14 0), .int (u 15 0), .int (u 16 0), .ref (g.1 12), .ref (g.1 13), .ref (g.1 14), .ref (g.1 15), .ref (g.1 16)])),
  (g.1 1, .inl (g.2 0, 400, .inl (u 30))),
  (g.1 2, .inl (g.2 0, 29, .inl (u 31))),
  (g.1 3, .inl (g.2 0, 7, .inl (u 32))),
  (g.1 4, .inl (g.2 0, 420, .inl (u 33))),
  (g.1 5, .inl (g.2 0, 420, .inl (u 34))),
  (g.1 6, .inl (g.2 0, 420, .inl (u 35))),
  (g.1 7, .inl (g.2 0, 420, .inl (u 36))),
  (g.1 8, .inl (g.2 0, 200, .inl (u 37))),
  (g.1 9, .inl (g.2 0, 60, .inl (u 38))),
  (g.1 10, .inl (g.2 0, 60, .inl (u 39))),
  (g.1 11, .inl (g.2 1, 65, .inl (u 40))),
  (g.1 12, .inl (g.2 0, 6, .inl (u 41))),
  (g.1 13, .inl (g.2 0, 8, .inl (u 42))),
  (g.1 14, .inl (g.2 0, 4, .inl (u 43))),
  (g.1 15, .inl (g.2 0, 13, .inl (u 44))),
  (g.1 16, .inl (g.2 0, 32, .inl (u 45)))]
theorem wdX_0 (g : Gw) (u : St) (v : Int32) : (wdX g u).set 0 (g.1 0, .inr (5, [.ref (g.1 1), .ref (g.1 2), .ref (g.1 6), .ref (g.1 7), .int (u 0 0)].set 4 (.int v))) = wdX g (up u 0 0 v) := rfl
theorem wdX_1 (g : Gw) (u : St) (v : Int32) : (wdX g u).set 1 (g.1 1, .inr (1, [.ref (g.1 8), .int (u 1 0)].set 1 (.int v))) = wdX g (up u 1 0 v) := rfl
theorem wdX_14 (g : Gw) (u : St) (v : Int32) : (wdX g u).set 2 (g.1 2, .inr (2, [.ref (g.1 3), .ref (g.1 9), .ref (g.1 1), .ref (g.1 4), .ref (g.1 5), .ref (g.1 10), .int (u 14 0)].set 6 (.int v))) = wdX g (up u 14 0 v) := rfl
theorem wdX_2 (g : Gw) (u : St) (v : Int32) : (wdX g u).set 3 (g.1 3, .inr (4, [.ref (g.1 1), .int (u 2 0), .int (u 3 0), .int (u 4 0), .int (u 5 0), .int (u 6 0), .int (u 7 0)].set 1 (.int v))) = wdX g (up u 2 0 v) := rfl
theorem wdX_3 (g : Gw) (u : St) (v : Int32) : (wdX g u).set 3 (g.1 3, .inr (4, [.ref (g.1 1), .int (u 2 0), .int (u 3 0), .int (u 4 0), .int (u 5 0), .int (u 6 0), .int (u 7 0)].set 2 (.int v))) = wdX g (up u 3 0 v) := rfl
theorem wdX_4 (g : Gw) (u : St) (v : Int32) : (wdX g u).set 3 (g.1 3, .inr (4, [.ref (g.1 1), .int (u 2 0), .int (u 3 0), .int (u 4 0), .int (u 5 0), .int (u 6 0), .int (u 7 0)].set 3 (.int v))) = wdX g (up u 4 0 v) := rfl
theorem wdX_5 (g : Gw) (u : St) (v : Int32) : (wdX g u).set 3 (g.1 3, .inr (4, [.ref (g.1 1), .int (u 2 0), .int (u 3 0), .int (u 4 0), .int (u 5 0), .int (u 6 0), .int (u 7 0)].set 4 (.int v))) = wdX g (up u 5 0 v) := rfl
theorem wdX_6 (g : Gw) (u : St) (v : Int32) : (wdX g u).set 3 (g.1 3, .inr (4, [.ref (g.1 1), .int (u 2 0), .int (u 3 0), .int (u 4 0), .int (u 5 0), .int (u 6 0), .int (u 7 0)].set 5 (.int v))) = wdX g (up u 6 0 v) := rfl
theorem wdX_7 (g : Gw) (u : St) (v : Int32) : (wdX g u).set 3 (g.1 3, .inr (4, [.ref (g.1 1), .int (u 2 0), .int (u 3 0), .int (u 4 0), .int (u 5 0), .int (u 6 0), .int (u 7 0)].set 6 (.int v))) = wdX g (up u 7 0 v) := rfl
theorem wdX_8 (g : Gw) (u : St) (v : Int32) : (wdX g u).set 4 (g.1 4, .inr (3, [.ref (g.1 1), .ref (g.1 3), .ref (g.1 11), .ref (g.1 12), .int (u 8 0)].set 4 (.int v))) = wdX g (up u 8 0 v) := rfl
theorem wdX_9 (g : Gw) (u : St) (v : Int32) : (wdX g u).set 5 (g.1 5, .inr (0, [.ref (g.1 1), .ref (g.1 3), .ref (g.1 4), .ref (g.1 13), .ref (g.1 14), .int (u 9 0), .int (u 10 0), .int (u 11 0), .int (u 12 0), .int (u 13 0)].set 5 (.int v))) = wdX g (up u 9 0 v) := rfl
theorem wdX_10 (g : Gw) (u : St) (v : Int32) : (wdX g u).set 5 (g.1 5, .inr (0, [.ref (g.1 1), .ref (g.1 3), .ref (g.1 4), .ref (g.1 13), .ref (g.1 14), .int (u 9 0), .int (u 10 0), .int (u 11 0), .int (u 12 0), .int (u 13 0)].set 6 (.int v))) = wdX g (up u 10 0 v) := rfl
theorem wdX_11 (g : Gw) (u : St) (v : Int32) : (wdX g u).set 5 (g.1 5, .inr (0, [.ref (g.1 1), .ref (g.1 3), .ref (g.1 4), .ref (g.1 13), .ref (g.1 14), .int (u 9 0), .int (u 10 0), .int (u 11 0), .int (u 12 0), .int (u 13 0)].set 7 (.int v))) = wdX g (up u 11 0 v) := rfl
theorem wdX_12 (g : Gw) (u : St) (v : Int32) : (wdX g u).set 5 (g.1 5, .inr (0, [.ref (g.1 1), .ref (g.1 3), .ref (g.1 4), .ref (g.1 13), .ref (g.1 14), .int (u 9 0), .int (u 10 0), .int (u 11 0), .int (u 12 0), .int (u 13 0)].set 8 (.int v))) = wdX g (up u 12 0 v) := rfl
theorem wdX_13 (g : Gw) (u : St) (v : Int32) : (wdX g u).set 5 (g.1 5, .inr (0, [.ref (g.1 1), .ref (g.1 3), .ref (g.1 4), .ref (g.1 13), .ref (g.1 14), .int (u 9 0), .int (u 10 0), .int (u 11 0), .int (u 12 0), .int (u 13 0)].set 9 (.int v))) = wdX g (up u 13 0 v) := rfl
theorem wdX_20 (g : Gw) (u : St) (i : Nat) (v : Int32) : (wdX g u).set 6 (g.1 6, .inl (g.2 0, 29, .inl (upd (u 20) i v))) = wdX g (up u 20 i v) := rfl
theorem wdXA_20 (g : Gw) (u : St) (f : Nat → Int32) : (wdX g u).set 6 (g.1 6, .inl (g.2 0, 29, .inl f)) = wdX g (upA u 20 f) := rfl
theorem wdX_21 (g : Gw) (u : St) (i : Nat) (v : Int32) : (wdX g u).set 7 (g.1 7, .inl (g.2 0, 32, .inl (upd (u 21) i v))) = wdX g (up u 21 i v) := rfl
theorem wdXA_21 (g : Gw) (u : St) (f : Nat → Int32) : (wdX g u).set 7 (g.1 7, .inl (g.2 0, 32, .inl f)) = wdX g (upA u 21 f) := rfl
theorem wdX_22 (g : Gw) (u : St) (i : Nat) (v : Int32) : (wdX g u).set 8 (g.1 8, .inl (g.2 0, 400, .inl (upd (u 22) i v))) = wdX g (up u 22 i v) := rfl
theorem wdXA_22 (g : Gw) (u : St) (f : Nat → Int32) : (wdX g u).set 8 (g.1 8, .inl (g.2 0, 400, .inl f)) = wdX g (upA u 22 f) := rfl
theorem wdX_23 (g : Gw) (u : St) (i : Nat) (v : Int32) : (wdX g u).set 9 (g.1 9, .inl (g.2 0, 7, .inl (upd (u 23) i v))) = wdX g (up u 23 i v) := rfl
theorem wdXA_23 (g : Gw) (u : St) (f : Nat → Int32) : (wdX g u).set 9 (g.1 9, .inl (g.2 0, 7, .inl f)) = wdX g (upA u 23 f) := rfl
theorem wdX_24 (g : Gw) (u : St) (i : Nat) (v : Int32) : (wdX g u).set 10 (g.1 10, .inl (g.2 0, 51, .inl (upd (u 24) i v))) = wdX g (up u 24 i v) := rfl
theorem wdXA_24 (g : Gw) (u : St) (f : Nat → Int32) : (wdX g u).set 10 (g.1 10, .inl (g.2 0, 51, .inl f)) = wdX g (upA u 24 f) := rfl
theorem wdX_25 (g : Gw) (u : St) (i : Nat) (v : Int32) : (wdX g u).set 11 (g.1 11, .inl (g.2 0, 135, .inl (upd (u 25) i v))) = wdX g (up u 25 i v) := rfl
theorem wdXA_25 (g : Gw) (u : St) (f : Nat → Int32) : (wdX g u).set 11 (g.1 11, .inl (g.2 0, 135, .inl f)) = wdX g (upA u 25 f) := rfl
theorem wdX_26 (g : Gw) (u : St) (i : Nat) (v : Int32) : (wdX g u).set 12 (g.1 12, .inl (g.2 0, 135, .inl (upd (u 26) i v))) = wdX g (up u 26 i v) := rfl
theorem wdXA_26 (g : Gw) (u : St) (f : Nat → Int32) : (wdX g u).set 12 (g.1 12, .inl (g.2 0, 135, .inl f)) = wdX g (upA u 26 f) := rfl
theorem wdX_27 (g : Gw) (u : St) (i : Nat) (v : Int32) : (wdX g u).set 13 (g.1 13, .inl (g.2 1, 64, .inl (upd (u 27) i v))) = wdX g (up u 27 i v) := rfl
theorem wdXA_27 (g : Gw) (u : St) (f : Nat → Int32) : (wdX g u).set 13 (g.1 13, .inl (g.2 1, 64, .inl f)) = wdX g (upA u 27 f) := rfl
theorem wdX_28 (g : Gw) (u : St) (i : Nat) (v : Int32) : (wdX g u).set 14 (g.1 14, .inl (g.2 0, 64, .inl (upd (u 28) i v))) = wdX g (up u 28 i v) := rfl
theorem wdXA_28 (g : Gw) (u : St) (f : Nat → Int32) : (wdX g u).set 14 (g.1 14, .inl (g.2 0, 64, .inl f)) = wdX g (upA u 28 f) := rfl
theorem wdM_0 (g : Gw) (u : St) (v : Int32) : (wdM g u).set 0 (g.1 0, .inr (6, [.ref (g.1 1), .int (u 0 0), .ref (g.1 2), .int (u 1 0), .int (u 2 0), .int (u 3 0), .int (u 4 0), .int (u 5 0), .int (u 6 0), .int (u 7 0), .int (u 8 0), .ref (g.1 3), .ref (g.1 4), .ref (g.1 5), .ref (g.1 6), .ref (g.1 7), .int (u 9 0), .ref (g.1 8), .ref (g.1 9), .ref (g.1 10), .ref (g.1 11), .int (u 10 0), .int (u 11 0), .int (u 12 0), .int (u 13 0), .int (u 14 0), .int (u 15 0), .int (u 16 0), .ref (g.1 12), .ref (g.1 13), .ref (g.1 14), .ref (g.1 15), .ref (g.1 16)].set 1 (.int v))) = wdM g (up u 0 0 v) := rfl
theorem wdM_1 (g : Gw) (u : St) (v : Int32) : (wdM g u).set 0 (g.1 0, .inr (6, [.ref (g.1 1), .int (u 0 0), .ref (g.1 2), .int (u 1 0), .int (u 2 0), .int (u 3 0), .int (u 4 0), .int (u 5 0), .int (u 6 0), .int (u 7 0), .int (u 8 0), .ref (g.1 3), .ref (g.1 4), .ref (g.1 5), .ref (g.1 6), .ref (g.1 7), .int (u 9 0), .ref (g.1 8), .ref (g.1 9), .ref (g.1 10), .ref (g.1 11), .int (u 10 0), .int (u 11 0), .int (u 12 0), .int (u 13 0), .int (u 14 0), .int (u 15 0), .int (u 16 0), .ref (g.1 12), .ref (g.1 13), .ref (g.1 14), .ref (g.1 15), .ref (g.1 16)].set 3 (.int v))) = wdM g (up u 1 0 v) := rfl
theorem wdM_2 (g : Gw) (u : St) (v : Int32) : (wdM g u).set 0 (g.1 0, .inr (6, [.ref (g.1 1), .int (u 0 0), .ref (g.1 2), .int (u 1 0), .int (u 2 0), .int (u 3 0), .int (u 4 0), .int (u 5 0), .int (u 6 0), .int (u 7 0), .int (u 8 0), .ref (g.1 3), .ref (g.1 4), .ref (g.1 5), .ref (g.1 6), .ref (g.1 7), .int (u 9 0), .ref (g.1 8), .ref (g.1 9), .ref (g.1 10), .ref (g.1 11), .int (u 10 0), .int (u 11 0), .int (u 12 0), .int (u 13 0), .int (u 14 0), .int (u 15 0), .int (u 16 0), .ref (g.1 12), .ref (g.1 13), .ref (g.1 14), .ref (g.1 15), .ref (g.1 16)].set 4 (.int v))) = wdM g (up u 2 0 v) := rfl
theorem wdM_3 (g : Gw) (u : St) (v : Int32) : (wdM g u).set 0 (g.1 0, .inr (6, [.ref (g.1 1), .int (u 0 0), .ref (g.1 2), .int (u 1 0), .int (u 2 0), .int (u 3 0), .int (u 4 0), .int (u 5 0), .int (u 6 0), .int (u 7 0), .int (u 8 0), .ref (g.1 3), .ref (g.1 4), .ref (g.1 5), .ref (g.1 6), .ref (g.1 7), .int (u 9 0), .ref (g.1 8), .ref (g.1 9), .ref (g.1 10), .ref (g.1 11), .int (u 10 0), .int (u 11 0), .int (u 12 0), .int (u 13 0), .int (u 14 0), .int (u 15 0), .int (u 16 0), .ref (g.1 12), .ref (g.1 13), .ref (g.1 14), .ref (g.1 15), .ref (g.1 16)].set 5 (.int v))) = wdM g (up u 3 0 v) := rfl
theorem wdM_4 (g : Gw) (u : St) (v : Int32) : (wdM g u).set 0 (g.1 0, .inr (6, [.ref (g.1 1), .int (u 0 0), .ref (g.1 2), .int (u 1 0), .int (u 2 0), .int (u 3 0), .int (u 4 0), .int (u 5 0), .int (u 6 0), .int (u 7 0), .int (u 8 0), .ref (g.1 3), .ref (g.1 4), .ref (g.1 5), .ref (g.1 6), .ref (g.1 7), .int (u 9 0), .ref (g.1 8), .ref (g.1 9), .ref (g.1 10), .ref (g.1 11), .int (u 10 0), .int (u 11 0), .int (u 12 0), .int (u 13 0), .int (u 14 0), .int (u 15 0), .int (u 16 0), .ref (g.1 12), .ref (g.1 13), .ref (g.1 14), .ref (g.1 15), .ref (g.1 16)].set 6 (.int v))) = wdM g (up u 4 0 v) := rfl
theorem wdM_5 (g : Gw) (u : St) (v : Int32) : (wdM g u).set 0 (g.1 0, .inr (6, [.ref (g.1 1), .int (u 0 0), .ref (g.1 2), .int (u 1 0), .int (u 2 0), .int (u 3 0), .int (u 4 0), .int (u 5 0), .int (u 6 0), .int (u 7 0), .int (u 8 0), .ref (g.1 3), .ref (g.1 4), .ref (g.1 5), .ref (g.1 6), .ref (g.1 7), .int (u 9 0), .ref (g.1 8), .ref (g.1 9), .ref (g.1 10), .ref (g.1 11), .int (u 10 0), .int (u 11 0), .int (u 12 0), .int (u 13 0), .int (u 14 0), .int (u 15 0), .int (u 16 0), .ref (g.1 12), .ref (g.1 13), .ref (g.1 14), .ref (g.1 15), .ref (g.1 16)].set 7 (.int v))) = wdM g (up u 5 0 v) := rfl
theorem wdM_6 (g : Gw) (u : St) (v : Int32) : (wdM g u).set 0 (g.1 0, .inr (6, [.ref (g.1 1), .int (u 0 0), .ref (g.1 2), .int (u 1 0), .int (u 2 0), .int (u 3 0), .int (u 4 0), .int (u 5 0), .int (u 6 0), .int (u 7 0), .int (u 8 0), .ref (g.1 3), .ref (g.1 4), .ref (g.1 5), .ref (g.1 6), .ref (g.1 7), .int (u 9 0), .ref (g.1 8), .ref (g.1 9), .ref (g.1 10), .ref (g.1 11), .int (u 10 0), .int (u 11 0), .int (u 12 0), .int (u 13 0), .int (u 14 0), .int (u 15 0), .int (u 16 0), .ref (g.1 12), .ref (g.1 13), .ref (g.1 14), .ref (g.1 15), .ref (g.1 16)].set 8 (.int v))) = wdM g (up u 6 0 v) := rfl
theorem wdM_7 (g : Gw) (u : St) (v : Int32) : (wdM g u).set 0 (g.1 0, .inr (6, [.ref (g.1 1), .int (u 0 0), .ref (g.1 2), .int (u 1 0), .int (u 2 0), .int (u 3 0), .int (u 4 0), .int (u 5 0), .int (u 6 0), .int (u 7 0), .int (u 8 0), .ref (g.1 3), .ref (g.1 4), .ref (g.1 5), .ref (g.1 6), .ref (g.1 7), .int (u 9 0), .ref (g.1 8), .ref (g.1 9), .ref (g.1 10), .ref (g.1 11), .int (u 10 0), .int (u 11 0), .int (u 12 0), .int (u 13 0), .int (u 14 0), .int (u 15 0), .int (u 16 0), .ref (g.1 12), .ref (g.1 13), .ref (g.1 14), .ref (g.1 15), .ref (g.1 16)].set 9 (.int v))) = wdM g (up u 7 0 v) := rfl
theorem wdM_8 (g : Gw) (u : St) (v : Int32) : (wdM g u).set 0 (g.1 0, .inr (6, [.ref (g.1 1), .int (u 0 0), .ref (g.1 2), .int (u 1 0), .int (u 2 0), .int (u 3 0), .int (u 4 0), .int (u 5 0), .int (u 6 0), .int (u 7 0), .int (u 8 0), .ref (g.1 3), .ref (g.1 4), .ref (g.1 5), .ref (g.1 6), .ref (g.1 7), .int (u 9 0), .ref (g.1 8), .ref (g.1 9), .ref (g.1 10), .ref (g.1 11), .int (u 10 0), .int (u 11 0), .int (u 12 0), .int (u 13 0), .int (u 14 0), .int (u 15 0), .int (u 16 0), .ref (g.1 12), .ref (g.1 13), .ref (g.1 14), .ref (g.1 15), .ref (g.1 16)].set 10 (.int v))) = wdM g (up u 8 0 v) := rfl
theorem wdM_9 (g : Gw) (u : St) (v : Int32) : (wdM g u).set 0 (g.1 0, .inr (6, [.ref (g.1 1), .int (u 0 0), .ref (g.1 2), .int (u 1 0), .int (u 2 0), .int (u 3 0), .int (u 4 0), .int (u 5 0), .int (u 6 0), .int (u 7 0), .int (u 8 0), .ref (g.1 3), .ref (g.1 4), .ref (g.1 5), .ref (g.1 6), .ref (g.1 7), .int (u 9 0), .ref (g.1 8), .ref (g.1 9), .ref (g.1 10), .ref (g.1 11), .int (u 10 0), .int (u 11 0), .int (u 12 0), .int (u 13 0), .int (u 14 0), .int (u 15 0), .int (u 16 0), .ref (g.1 12), .ref (g.1 13), .ref (g.1 14), .ref (g.1 15), .ref (g.1 16)].set 16 (.int v))) = wdM g (up u 9 0 v) := rfl
theorem wdM_10 (g : Gw) (u : St) (v : Int32) : (wdM g u).set 0 (g.1 0, .inr (6, [.ref (g.1 1), .int (u 0 0), .ref (g.1 2), .int (u 1 0), .int (u 2 0), .int (u 3 0), .int (u 4 0), .int (u 5 0), .int (u 6 0), .int (u 7 0), .int (u 8 0), .ref (g.1 3), .ref (g.1 4), .ref (g.1 5), .ref (g.1 6), .ref (g.1 7), .int (u 9 0), .ref (g.1 8), .ref (g.1 9), .ref (g.1 10), .ref (g.1 11), .int (u 10 0), .int (u 11 0), .int (u 12 0), .int (u 13 0), .int (u 14 0), .int (u 15 0), .int (u 16 0), .ref (g.1 12), .ref (g.1 13), .ref (g.1 14), .ref (g.1 15), .ref (g.1 16)].set 21 (.int v))) = wdM g (up u 10 0 v) := rfl
theorem wdM_11 (g : Gw) (u : St) (v : Int32) : (wdM g u).set 0 (g.1 0, .inr (6, [.ref (g.1 1), .int (u 0 0), .ref (g.1 2), .int (u 1 0), .int (u 2 0), .int (u 3 0), .int (u 4 0), .int (u 5 0), .int (u 6 0), .int (u 7 0), .int (u 8 0), .ref (g.1 3), .ref (g.1 4), .ref (g.1 5), .ref (g.1 6), .ref (g.1 7), .int (u 9 0), .ref (g.1 8), .ref (g.1 9), .ref (g.1 10), .ref (g.1 11), .int (u 10 0), .int (u 11 0), .int (u 12 0), .int (u 13 0), .int (u 14 0), .int (u 15 0), .int (u 16 0), .ref (g.1 12), .ref (g.1 13), .ref (g.1 14), .ref (g.1 15), .ref (g.1 16)].set 22 (.int v))) = wdM g (up u 11 0 v) := rfl
theorem wdM_12 (g : Gw) (u : St) (v : Int32) : (wdM g u).set 0 (g.1 0, .inr (6, [.ref (g.1 1), .int (u 0 0), .ref (g.1 2), .int (u 1 0), .int (u 2 0), .int (u 3 0), .int (u 4 0), .int (u 5 0), .int (u 6 0), .int (u 7 0), .int (u 8 0), .ref (g.1 3), .ref (g.1 4), .ref (g.1 5), .ref (g.1 6), .ref (g.1 7), .int (u 9 0), .ref (g.1 8), .ref (g.1 9), .ref (g.1 10), .ref (g.1 11), .int (u 10 0), .int (u 11 0), .int (u 12 0), .int (u 13 0), .int (u 14 0), .int (u 15 0), .int (u 16 0), .ref (g.1 12), .ref (g.1 13), .ref (g.1 14), .ref (g.1 15), .ref (g.1 16)].set 23 (.int v))) = wdM g (up u 12 0 v) := rfl
theorem wdM_13 (g : Gw) (u : St) (v : Int32) : (wdM g u).set 0 (g.1 0, .inr (6, [.ref (g.1 1), .int (u 0 0), .ref (g.1 2), .int (u 1 0), .int (u 2 0), .int (u 3 0), .int (u 4 0), .int (u 5 0), .int (u 6 0), .int (u 7 0), .int (u 8 0), .ref (g.1 3), .ref (g.1 4), .ref (g.1 5), .ref (g.1 6), .ref (g.1 7), .int (u 9 0), .ref (g.1 8), .ref (g.1 9), .ref (g.1 10), .ref (g.1 11), .int (u 10 0), .int (u 11 0), .int (u 12 0), .int (u 13 0), .int (u 14 0), .int (u 15 0), .int (u 16 0), .ref (g.1 12), .ref (g.1 13), .ref (g.1 14), .ref (g.1 15), .ref (g.1 16)].set 24 (.int v))) = wdM g (up u 13 0 v) := rfl
theorem wdM_14 (g : Gw) (u : St) (v : Int32) : (wdM g u).set 0 (g.1 0, .inr (6, [.ref (g.1 1), .int (u 0 0), .ref (g.1 2), .int (u 1 0), .int (u 2 0), .int (u 3 0), .int (u 4 0), .int (u 5 0), .int (u 6 0), .int (u 7 0), .int (u 8 0), .ref (g.1 3), .ref (g.1 4), .ref (g.1 5), .ref (g.1 6), .ref (g.1 7), .int (u 9 0), .ref (g.1 8), .ref (g.1 9), .ref (g.1 10), .ref (g.1 11), .int (u 10 0), .int (u 11 0), .int (u 12 0), .int (u 13 0), .int (u 14 0), .int (u 15 0), .int (u 16 0), .ref (g.1 12), .ref (g.1 13), .ref (g.1 14), .ref (g.1 15), .ref (g.1 16)].set 25 (.int v))) = wdM g (up u 14 0 v) := rfl
theorem wdM_15 (g : Gw) (u : St) (v : Int32) : (wdM g u).set 0 (g.1 0, .inr (6, [.ref (g.1 1), .int (u 0 0), .ref (g.1 2), .int (u 1 0), .int (u 2 0), .int (u 3 0), .int (u 4 0), .int (u 5 0), .int (u 6 0), .int (u 7 0), .int (u 8 0), .ref (g.1 3), .ref (g.1 4), .ref (g.1 5), .ref (g.1 6), .ref (g.1 7), .int (u 9 0), .ref (g.1 8), .ref (g.1 9), .ref (g.1 10), .ref (g.1 11), .int (u 10 0), .int (u 11 0), .int (u 12 0), .int (u 13 0), .int (u 14 0), .int (u 15 0), .int (u 16 0), .ref (g.1 12), .ref (g.1 13), .ref (g.1 14), .ref (g.1 15), .ref (g.1 16)].set 26 (.int v))) = wdM g (up u 15 0 v) := rfl
theorem wdM_16 (g : Gw) (u : St) (v : Int32) : (wdM g u).set 0 (g.1 0, .inr (6, [.ref (g.1 1), .int (u 0 0), .ref (g.1 2), .int (u 1 0), .int (u 2 0), .int (u 3 0), .int (u 4 0), .int (u 5 0), .int (u 6 0), .int (u 7 0), .int (u 8 0), .ref (g.1 3), .ref (g.1 4), .ref (g.1 5), .ref (g.1 6), .ref (g.1 7), .int (u 9 0), .ref (g.1 8), .ref (g.1 9), .ref (g.1 10), .ref (g.1 11), .int (u 10 0), .int (u 11 0), .int (u 12 0), .int (u 13 0), .int (u 14 0), .int (u 15 0), .int (u 16 0), .ref (g.1 12), .ref (g.1 13), .ref (g.1 14), .ref (g.1 15), .ref (g.1 16)].set 27 (.int v))) = wdM g (up u 16 0 v) := rfl
theorem wdM_30 (g : Gw) (u : St) (i : Nat) (v : Int32) : (wdM g u).set 1 (g.1 1, .inl (g.2 0, 400, .inl (upd (u 30) i v))) = wdM g (up u 30 i v) := rfl
theorem wdMA_30 (g : Gw) (u : St) (f : Nat → Int32) : (wdM g u).set 1 (g.1 1, .inl (g.2 0, 400, .inl f)) = wdM g (upA u 30 f) := rfl
theorem wdM_31 (g : Gw) (u : St) (i : Nat) (v : Int32) : (wdM g u).set 2 (g.1 2, .inl (g.2 0, 29, .inl (upd (u 31) i v))) = wdM g (up u 31 i v) := rfl
theorem wdMA_31 (g : Gw) (u : St) (f : Nat → Int32) : (wdM g u).set 2 (g.1 2, .inl (g.2 0, 29, .inl f)) = wdM g (upA u 31 f) := rfl
theorem wdM_32 (g : Gw) (u : St) (i : Nat) (v : Int32) : (wdM g u).set 3 (g.1 3, .inl (g.2 0, 7, .inl (upd (u 32) i v))) = wdM g (up u 32 i v) := rfl
theorem wdMA_32 (g : Gw) (u : St) (f : Nat → Int32) : (wdM g u).set 3 (g.1 3, .inl (g.2 0, 7, .inl f)) = wdM g (upA u 32 f) := rfl
theorem wdM_33 (g : Gw) (u : St) (i : Nat) (v : Int32) : (wdM g u).set 4 (g.1 4, .inl (g.2 0, 420, .inl (upd (u 33) i v))) = wdM g (up u 33 i v) := rfl
theorem wdMA_33 (g : Gw) (u : St) (f : Nat → Int32) : (wdM g u).set 4 (g.1 4, .inl (g.2 0, 420, .inl f)) = wdM g (upA u 33 f) := rfl
theorem wdM_34 (g : Gw) (u : St) (i : Nat) (v : Int32) : (wdM g u).set 5 (g.1 5, .inl (g.2 0, 420, .inl (upd (u 34) i v))) = wdM g (up u 34 i v) := rfl
theorem wdMA_34 (g : Gw) (u : St) (f : Nat → Int32) : (wdM g u).set 5 (g.1 5, .inl (g.2 0, 420, .inl f)) = wdM g (upA u 34 f) := rfl
theorem wdM_35 (g : Gw) (u : St) (i : Nat) (v : Int32) : (wdM g u).set 6 (g.1 6, .inl (g.2 0, 420, .inl (upd (u 35) i v))) = wdM g (up u 35 i v) := rfl
theorem wdMA_35 (g : Gw) (u : St) (f : Nat → Int32) : (wdM g u).set 6 (g.1 6, .inl (g.2 0, 420, .inl f)) = wdM g (upA u 35 f) := rfl
theorem wdM_36 (g : Gw) (u : St) (i : Nat) (v : Int32) : (wdM g u).set 7 (g.1 7, .inl (g.2 0, 420, .inl (upd (u 36) i v))) = wdM g (up u 36 i v) := rfl
theorem wdMA_36 (g : Gw) (u : St) (f : Nat → Int32) : (wdM g u).set 7 (g.1 7, .inl (g.2 0, 420, .inl f)) = wdM g (upA u 36 f) := rfl
theorem wdM_37 (g : Gw) (u : St) (i : Nat) (v : Int32) : (wdM g u).set 8 (g.1 8, .inl (g.2 0, 200, .inl (upd (u 37) i v))) = wdM g (up u 37 i v) := rfl
theorem wdMA_37 (g : Gw) (u : St) (f : Nat → Int32) : (wdM g u).set 8 (g.1 8, .inl (g.2 0, 200, .inl f)) = wdM g (upA u 37 f) := rfl
theorem wdM_38 (g : Gw) (u : St) (i : Nat) (v : Int32) : (wdM g u).set 9 (g.1 9, .inl (g.2 0, 60, .inl (upd (u 38) i v))) = wdM g (up u 38 i v) := rfl
theorem wdMA_38 (g : Gw) (u : St) (f : Nat → Int32) : (wdM g u).set 9 (g.1 9, .inl (g.2 0, 60, .inl f)) = wdM g (upA u 38 f) := rfl
theorem wdM_39 (g : Gw) (u : St) (i : Nat) (v : Int32) : (wdM g u).set 10 (g.1 10, .inl (g.2 0, 60, .inl (upd (u 39) i v))) = wdM g (up u 39 i v) := rfl
theorem wdMA_39 (g : Gw) (u : St) (f : Nat → Int32) : (wdM g u).set 10 (g.1 10, .inl (g.2 0, 60, .inl f)) = wdM g (upA u 39 f) := rfl
theorem wdM_40 (g : Gw) (u : St) (i : Nat) (v : Int32) : (wdM g u).set 11 (g.1 11, .inl (g.2 1, 65, .inl (upd (u 40) i v))) = wdM g (up u 40 i v) := rfl
theorem wdMA_40 (g : Gw) (u : St) (f : Nat → Int32) : (wdM g u).set 11 (g.1 11, .inl (g.2 1, 65, .inl f)) = wdM g (upA u 40 f) := rfl
theorem wdM_41 (g : Gw) (u : St) (i : Nat) (v : Int32) : (wdM g u).set 12 (g.1 12, .inl (g.2 0, 6, .inl (upd (u 41) i v))) = wdM g (up u 41 i v) := rfl
theorem wdMA_41 (g : Gw) (u : St) (f : Nat → Int32) : (wdM g u).set 12 (g.1 12, .inl (g.2 0, 6, .inl f)) = wdM g (upA u 41 f) := rfl
theorem wdM_42 (g : Gw) (u : St) (i : Nat) (v : Int32) : (wdM g u).set 13 (g.1 13, .inl (g.2 0, 8, .inl (upd (u 42) i v))) = wdM g (up u 42 i v) := rfl
theorem wdMA_42 (g : Gw) (u : St) (f : Nat → Int32) : (wdM g u).set 13 (g.1 13, .inl (g.2 0, 8, .inl f)) = wdM g (upA u 42 f) := rfl
theorem wdM_43 (g : Gw) (u : St) (i : Nat) (v : Int32) : (wdM g u).set 14 (g.1 14, .inl (g.2 0, 4, .inl (upd (u 43) i v))) = wdM g (up u 43 i v) := rfl
theorem wdMA_43 (g : Gw) (u : St) (f : Nat → Int32) : (wdM g u).set 14 (g.1 14, .inl (g.2 0, 4, .inl f)) = wdM g (upA u 43 f) := rfl
theorem wdM_44 (g : Gw) (u : St) (i : Nat) (v : Int32) : (wdM g u).set 15 (g.1 15, .inl (g.2 0, 13, .inl (upd (u 44) i v))) = wdM g (up u 44 i v) := rfl
theorem wdMA_44 (g : Gw) (u : St) (f : Nat → Int32) : (wdM g u).set 15 (g.1 15, .inl (g.2 0, 13, .inl f)) = wdM g (upA u 44 f) := rfl
theorem wdM_45 (g : Gw) (u : St) (i : Nat) (v : Int32) : (wdM g u).set 16 (g.1 16, .inl (g.2 0, 32, .inl (upd (u 45) i v))) = wdM g (up u 45 i v) := rfl
theorem wdMA_45 (g : Gw) (u : St) (f : Nat → Int32) : (wdM g u).set 16 (g.1 16, .inl (g.2 0, 32, .inl f)) = wdM g (upA u 45 f) := rfl
def rm_X6_at : Room := { frames := 1, cells := 0, slots := 0, locals := 22 }
def rm_X6_clear : Room := { frames := 0, cells := 0, slots := 0, locals := 0 }
def rm_X6_count : Room := { frames := 1, cells := 0, slots := 0, locals := 22 }
def rm_X6_cut : Room := { frames := 2, cells := 0, slots := 0, locals := 86 }
def rm_X6_found : Room := { frames := 0, cells := 0, slots := 0, locals := 0 }
def rm_X6_judge : Room := { frames := 10, cells := 0, slots := 0, locals := 224 }
def rm_X6_patch : Room := { frames := 1, cells := 0, slots := 0, locals := 22 }
def rm_X6_place : Room := { frames := 0, cells := 0, slots := 0, locals := 0 }
def rm_X6_put : Room := { frames := 1, cells := 0, slots := 0, locals := 23 }
def rm_X6_read : Room := { frames := 0, cells := 0, slots := 0, locals := 0 }
def rm_X6_rulesFound : Room := { frames := 0, cells := 0, slots := 0, locals := 0 }
def rm_X6_shrink : Room := { frames := 10, cells := 0, slots := 0, locals := 224 }
def rm_X6_text : Room := { frames := 1, cells := 0, slots := 0, locals := 23 }
def rm_X6_twice : Room := { frames := 2, cells := 0, slots := 0, locals := 86 }
def rm_X0_handlerFits : Room := { frames := 1, cells := 0, slots := 0, locals := 22 }
def rm_X0_isInstruction : Room := { frames := 0, cells := 0, slots := 0, locals := 0 }
def rm_X0_judgeHandlers : Room := { frames := 2, cells := 0, slots := 0, locals := 46 }
def rm_X0_judgeInstructions : Room := { frames := 3, cells := 0, slots := 0, locals := 68 }
def rm_X0_judgeJumps : Room := { frames := 3, cells := 0, slots := 0, locals := 67 }
def rm_X0_judgeLast : Room := { frames := 1, cells := 0, slots := 0, locals := 22 }
def rm_X0_jumpsFit : Room := { frames := 2, cells := 0, slots := 0, locals := 46 }
def rm_X0_lookAt : Room := { frames := 1, cells := 0, slots := 0, locals := 21 }
def rm_X0_operandsFit : Room := { frames := 1, cells := 0, slots := 0, locals := 21 }
def rm_X0_sizeOf : Room := { frames := 2, cells := 0, slots := 0, locals := 47 }
def rm_X0_tableFits : Room := { frames := 1, cells := 0, slots := 0, locals := 22 }
def rm_X0_tableOf : Room := { frames := 0, cells := 0, slots := 0, locals := 0 }
def rm_X0_tableSize : Room := { frames := 1, cells := 0, slots := 0, locals := 21 }
def rm_X0_wideSize : Room := { frames := 0, cells := 0, slots := 0, locals := 0 }
def rm_X1_append : Room := { frames := 0, cells := 0, slots := 0, locals := 0 }
def rm_X1_close : Room := { frames := 1, cells := 0, slots := 0, locals := 64 }
def rm_X1_hasRoomFor : Room := { frames := 0, cells := 0, slots := 0, locals := 0 }
def rm_X1_holds : Room := { frames := 0, cells := 0, slots := 0, locals := 0 }
def rm_X1_open : Room := { frames := 1, cells := 0, slots := 0, locals := 64 }
def rm_X1_u2 : Room := { frames := 0, cells := 0, slots := 0, locals := 0 }
def rm_X1_u4 : Room := { frames := 0, cells := 0, slots := 0, locals := 0 }
def rm_X2_addMember : Room := { frames := 3, cells := 0, slots := 0, locals := 66 }
def rm_X2_classFlagsFit : Room := { frames := 0, cells := 0, slots := 0, locals := 0 }
def rm_X2_constantFits : Room := { frames := 1, cells := 0, slots := 0, locals := 21 }
def rm_X2_countBrackets : Room := { frames := 3, cells := 0, slots := 0, locals := 64 }
def rm_X2_fieldFlagsFit : Room := { frames := 2, cells := 0, slots := 0, locals := 40 }
def rm_X2_hasAtMostOneAccess : Room := { frames := 1, cells := 0, slots := 0, locals := 20 }
def rm_X2_methodFlagsFit : Room := { frames := 2, cells := 0, slots := 0, locals := 40 }
def rm_X2_passAttributes : Room := { frames := 2, cells := 0, slots := 0, locals := 43 }
def rm_X2_readAttributeName : Room := { frames := 1, cells := 0, slots := 0, locals := 22 }
def rm_X2_readClass : Room := { frames := 2, cells := 0, slots := 0, locals := 43 }
def rm_X2_readClassNumber : Room := { frames := 1, cells := 0, slots := 0, locals := 22 }
def rm_X2_readCode : Room := { frames := 3, cells := 0, slots := 0, locals := 65 }
def rm_X2_readFieldAttribute : Room := { frames := 6, cells := 0, slots := 0, locals := 131 }
def rm_X2_readFields : Room := { frames := 8, cells := 0, slots := 0, locals := 179 }
def rm_X2_readHead : Room := { frames := 1, cells := 0, slots := 0, locals := 22 }
def rm_X2_readInterfaces : Room := { frames := 2, cells := 0, slots := 0, locals := 43 }
def rm_X2_readMemberHead : Room := { frames := 7, cells := 0, slots := 0, locals := 153 }
def rm_X2_readMethodAttribute : Room := { frames := 6, cells := 0, slots := 0, locals := 131 }
def rm_X2_readMethods : Room := { frames := 8, cells := 0, slots := 0, locals := 179 }
def rm_X2_readNumber : Room := { frames := 1, cells := 0, slots := 0, locals := 21 }
def rm_X2_run : Room := { frames := 9, cells := 0, slots := 0, locals := 203 }
def rm_X2_stepAttributeBytes : Room := { frames := 1, cells := 0, slots := 0, locals := 21 }
def rm_X2_stepInstructions : Room := { frames := 1, cells := 0, slots := 0, locals := 22 }
def rm_X3_brackets : Room := { frames := 0, cells := 0, slots := 0, locals := 0 }
def rm_X3_characterSize : Room := { frames := 0, cells := 0, slots := 0, locals := 0 }
def rm_X3_fieldTypeEnd : Room := { frames := 1, cells := 0, slots := 0, locals := 25 }
def rm_X3_firstNoCharacter : Room := { frames := 1, cells := 0, slots := 0, locals := 20 }
def rm_X3_isClassName : Room := { frames := 0, cells := 0, slots := 0, locals := 0 }
def rm_X3_isFieldName : Room := { frames := 0, cells := 0, slots := 0, locals := 0 }
def rm_X3_isFieldType : Room := { frames := 2, cells := 0, slots := 0, locals := 49 }
def rm_X3_isMemberName : Room := { frames := 5, cells := 0, slots := 0, locals := 109 }
def rm_X3_isMethodType : Room := { frames := 2, cells := 0, slots := 0, locals := 49 }
def rm_X3_isPlainType : Room := { frames := 0, cells := 0, slots := 0, locals := 0 }
def rm_X3_isWord : Room := { frames := 4, cells := 0, slots := 0, locals := 85 }
def rm_X4_first : Room := { frames := 1, cells := 0, slots := 0, locals := 21 }
def rm_X4_fixedSize : Room := { frames := 0, cells := 0, slots := 0, locals := 0 }
def rm_X4_forget : Room := { frames := 0, cells := 0, slots := 0, locals := 0 }
def rm_X4_isFieldName : Room := { frames := 3, cells := 0, slots := 0, locals := 63 }
def rm_X4_isFieldType : Room := { frames := 3, cells := 0, slots := 0, locals := 71 }
def rm_X4_isMemberName : Room := { frames := 6, cells := 0, slots := 0, locals := 132 }
def rm_X4_isMethodType : Room := { frames := 3, cells := 0, slots := 0, locals := 74 }
def rm_X4_isWord : Room := { frames := 5, cells := 0, slots := 0, locals := 109 }
def rm_X4_judgeReferences : Room := { frames := 3, cells := 0, slots := 0, locals := 63 }
def rm_X4_judgeTexts : Room := { frames := 8, cells := 0, slots := 0, locals := 175 }
def rm_X4_kindOf : Room := { frames := 0, cells := 0, slots := 0, locals := 0 }
def rm_X4_readEntries : Room := { frames := 4, cells := 0, slots := 0, locals := 92 }
def rm_X4_readEntry : Room := { frames := 3, cells := 0, slots := 0, locals := 67 }
def rm_X4_readLetters : Room := { frames := 2, cells := 0, slots := 0, locals := 45 }
def rm_X4_referencesFit : Room := { frames := 2, cells := 0, slots := 0, locals := 42 }
def rm_X4_sameTexts : Room := { frames := 2, cells := 0, slots := 0, locals := 42 }
def rm_X4_second : Room := { frames := 1, cells := 0, slots := 0, locals := 21 }
def rm_X4_takeSecondNumber : Room := { frames := 1, cells := 0, slots := 0, locals := 22 }
def rm_X4_textEnd : Room := { frames := 2, cells := 0, slots := 0, locals := 42 }
def rm_X4_textRule : Room := { frames := 7, cells := 0, slots := 0, locals := 153 }
def rm_X4_textStart : Room := { frames := 0, cells := 0, slots := 0, locals := 0 }
def rm_X5_broken : Room := { frames := 0, cells := 0, slots := 0, locals := 0 }
def rm_X5_confine : Room := { frames := 0, cells := 0, slots := 0, locals := 0 }
def rm_X5_release : Room := { frames := 0, cells := 0, slots := 0, locals := 0 }
def rm_X5_restart : Room := { frames := 1, cells := 0, slots := 0, locals := 20 }
def rm_X5_step : Room := { frames := 0, cells := 0, slots := 0, locals := 0 }
def rm_X8_bitCount : Room := { frames := 0, cells := 0, slots := 0, locals := 0 }
def rm_X7_at : Room := { frames := 0, cells := 0, slots := 0, locals := 0 }
def rm_X7_attributes : Room := { frames := 4, cells := 0, slots := 0, locals := 88 }
def rm_X7_base : Room := { frames := 0, cells := 0, slots := 0, locals := 0 }
def rm_X7_brackets : Room := { frames := 1, cells := 0, slots := 0, locals := 22 }
def rm_X7_byteAt : Room := { frames := 0, cells := 0, slots := 0, locals := 0 }
def rm_X7_characters : Room := { frames := 1, cells := 0, slots := 0, locals := 22 }
def rm_X7_checkPool : Room := { frames := 4, cells := 0, slots := 0, locals := 97 }
def rm_X7_classAt : Room := { frames := 3, cells := 0, slots := 0, locals := 66 }
def rm_X7_className : Room := { frames := 1, cells := 0, slots := 0, locals := 22 }
def rm_X7_clear : Room := { frames := 0, cells := 0, slots := 0, locals := 0 }
def rm_X7_constantFits : Room := { frames := 1, cells := 0, slots := 0, locals := 22 }
def rm_X7_count : Room := { frames := 0, cells := 0, slots := 0, locals := 0 }
def rm_X7_cut : Room := { frames := 1, cells := 0, slots := 0, locals := 23 }
def rm_X7_entry : Room := { frames := 3, cells := 0, slots := 0, locals := 66 }
def rm_X7_equal : Room := { frames := 1, cells := 0, slots := 0, locals := 22 }
def rm_X7_fail : Room := { frames := 0, cells := 0, slots := 0, locals := 0 }
def rm_X7_fieldAttributes : Room := { frames := 4, cells := 0, slots := 0, locals := 88 }
def rm_X7_fieldName : Room := { frames := 1, cells := 0, slots := 0, locals := 22 }
def rm_X7_fieldType : Room := { frames := 3, cells := 0, slots := 0, locals := 74 }
def rm_X7_fields : Room := { frames := 5, cells := 0, slots := 0, locals := 127 }
def rm_X7_found : Room := { frames := 0, cells := 0, slots := 0, locals := 0 }
def rm_X7_handlerFits : Room := { frames := 1, cells := 0, slots := 0, locals := 22 }
def rm_X7_header : Room := { frames := 3, cells := 0, slots := 0, locals := 66 }
def rm_X7_interfaces : Room := { frames := 3, cells := 0, slots := 0, locals := 66 }
def rm_X7_is : Room := { frames := 0, cells := 0, slots := 0, locals := 0 }
def rm_X7_isStart : Room := { frames := 0, cells := 0, slots := 0, locals := 0 }
def rm_X7_judge : Room := { frames := 10, cells := 0, slots := 0, locals := 235 }
def rm_X7_judgeCode : Room := { frames := 5, cells := 0, slots := 0, locals := 112 }
def rm_X7_jumpsFit : Room := { frames := 3, cells := 0, slots := 0, locals := 63 }
def rm_X7_lengthAt : Room := { frames := 2, cells := 0, slots := 0, locals := 46 }
def rm_X7_letter : Room := { frames := 0, cells := 0, slots := 0, locals := 0 }
def rm_X7_member : Room := { frames := 4, cells := 0, slots := 0, locals := 97 }
def rm_X7_memberName : Room := { frames := 2, cells := 0, slots := 0, locals := 45 }
def rm_X7_methodAttributes : Room := { frames := 7, cells := 0, slots := 0, locals := 160 }
def rm_X7_methodType : Room := { frames := 3, cells := 0, slots := 0, locals := 74 }
def rm_X7_methods : Room := { frames := 8, cells := 0, slots := 0, locals := 189 }
def rm_X7_missing : Room := { frames := 0, cells := 0, slots := 0, locals := 0 }
def rm_X7_names : Room := { frames := 1, cells := 0, slots := 0, locals := 22 }
def rm_X7_operandFits : Room := { frames := 2, cells := 0, slots := 0, locals := 42 }
def rm_X7_patch : Room := { frames := 0, cells := 0, slots := 0, locals := 0 }
def rm_X7_place : Room := { frames := 0, cells := 0, slots := 0, locals := 0 }
def rm_X7_put : Room := { frames := 0, cells := 0, slots := 0, locals := 0 }
def rm_X7_read : Room := { frames := 0, cells := 0, slots := 0, locals := 0 }
def rm_X7_readCode : Room := { frames := 6, cells := 0, slots := 0, locals := 134 }
def rm_X7_readPool : Room := { frames := 4, cells := 0, slots := 0, locals := 91 }
def rm_X7_run : Room := { frames := 9, cells := 0, slots := 0, locals := 214 }
def rm_X7_several : Room := { frames := 0, cells := 0, slots := 0, locals := 0 }
def rm_X7_shortAt : Room := { frames := 1, cells := 0, slots := 0, locals := 21 }
def rm_X7_shrink : Room := { frames := 11, cells := 0, slots := 0, locals := 259 }
def rm_X7_size : Room := { frames := 3, cells := 0, slots := 0, locals := 63 }
def rm_X7_skip : Room := { frames := 1, cells := 0, slots := 0, locals := 22 }
def rm_X7_spells : Room := { frames := 1, cells := 0, slots := 0, locals := 22 }
def rm_X7_tableAt : Room := { frames := 0, cells := 0, slots := 0, locals := 0 }
def rm_X7_take : Room := { frames := 0, cells := 0, slots := 0, locals := 0 }
def rm_X7_text : Room := { frames := 0, cells := 0, slots := 0, locals := 0 }
def rm_X7_textAt : Room := { frames := 3, cells := 0, slots := 0, locals := 66 }
def rm_X7_top : Room := { frames := 4, cells := 0, slots := 0, locals := 91 }
def rm_X7_twice : Room := { frames := 1, cells := 0, slots := 0, locals := 22 }
def rm_X7_typeEnd : Room := { frames := 2, cells := 0, slots := 0, locals := 48 }
def rm_X7_u : Room := { frames := 1, cells := 0, slots := 0, locals := 22 }
def rm_X7_u1 : Room := { frames := 2, cells := 0, slots := 0, locals := 46 }
def rm_X7_u2 : Room := { frames := 2, cells := 0, slots := 0, locals := 46 }
def rm_X7_walk : Room := { frames := 4, cells := 0, slots := 0, locals := 90 }
def rm_X7_without : Room := { frames := 10, cells := 0, slots := 0, locals := 235 }
def rm_X7_wordAt : Room := { frames := 2, cells := 0, slots := 0, locals := 42 }
