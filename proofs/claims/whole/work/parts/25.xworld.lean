/-! THE WORLD OF CLASS X: object, reader, texts, net, what is kept of one, sheets; behind them strips and texts as they were made (tl). N, R: numbers and rows that last, K: rows of references, r: the rules, S, T: what calls leave behind -/
def XF0 (x : Nat → Nat) (N : Nat → Int32) (r : Nat → Nat) (S : Nat → Int32) : List Value := [.ref (x 1), .ref (x 5), .int (N 1), .ref (x 6), .ref (x 14), .int (N 5), .ref (x 22)]
def XF1 (x : Nat → Nat) (N : Nat → Int32) (r : Nat → Nat) (S : Nat → Int32) : List Value := [.int (N 0), .ref (x 2), .int (S 0), .int (S 1), .int (S 2), .int (S 3), .int (S 4), .ref (x 3), .int (S 5), .ref (x 4)]
def XF6 (x : Nat → Nat) (N : Nat → Int32) (r : Nat → Nat) (S : Nat → Int32) : List Value := [.ref (x 7), .ref (x 8), .ref (x 9), .ref (x 10), .int (N 2), .int (N 3), .int (N 4), .ref (r 0), .ref (x 11), .ref (x 12), .ref (x 13)]
def XF13 (x : Nat → Nat) (N : Nat → Int32) (r : Nat → Nat) (S : Nat → Int32) : List Value := [.int (S 6), .int (S 7)]
def XF14 (x : Nat → Nat) (N : Nat → Int32) (r : Nat → Nat) (S : Nat → Int32) : List Value := [.ref (x 15), .ref (x 16), .ref (x 17), .ref (x 18), .int (N 6), .int (N 7), .int (N 8), .ref (r 1), .ref (x 19), .ref (x 20), .ref (x 21)]
def XF21 (x : Nat → Nat) (N : Nat → Int32) (r : Nat → Nat) (S : Nat → Int32) : List Value := [.int (S 8), .int (S 9)]
def XF23 (x : Nat → Nat) (N : Nat → Int32) (r : Nat → Nat) (S : Nat → Int32) : List Value := [.int (N 10), .int (N 11), .ref (x 24)]
def XF25 (x : Nat → Nat) (N : Nat → Int32) (r : Nat → Nat) (S : Nat → Int32) : List Value := [.int (N 12), .int (N 13), .ref (x 26)]
def XF27 (x : Nat → Nat) (N : Nat → Int32) (r : Nat → Nat) (S : Nat → Int32) : List Value := [.int (N 14), .int (N 15), .ref (x 28)]
def XF29 (x : Nat → Nat) (N : Nat → Int32) (r : Nat → Nat) (S : Nat → Int32) : List Value := [.int (N 16), .int (N 17), .ref (x 30)]
def XW (G : GT) (x : Nat → Nat) (N : Nat → Int32) (R : Nat → Nat → Int32) (K : Nat → Nat → Option Nat) (r : Nat → Nat) (S : Nat → Int32) (T : Nat → Nat → Int32) (tl : va_W) : va_W := (x 0, .inr (11, XF0 x N r S)) :: (x 1, .inr (6, XF1 x N r S)) :: (x 2, .inl (G.2.1 1, 160, .inl (R 0))) :: (x 3, .inl (G.2.1 0, 160, .inl (T 0))) :: (x 4, .inl (G.2.1 0, 3, .inl (T 1))) :: (x 5, .inl (G.2.1 4, 6, .inr (.inr (.inr (.inr (K 2)))))) :: (x 6, .inr (4, XF6 x N r S)) :: (x 7, .inl (G.2.1 3, 16, .inr (.inr (.inr (.inr (K 0)))))) :: (x 8, .inl (G.2.1 0, 16, .inl (R 1))) :: (x 9, .inl (G.2.1 0, 16, .inl (R 2))) :: (x 10, .inl (G.2.1 0, 25, .inl (R 3))) :: (x 11, .inl (G.2.1 0, 6, .inl (T 2))) :: (x 12, .inl (G.2.1 0, 160, .inl (T 3))) :: (x 13, .inr (0, XF13 x N r S)) :: (x 14, .inr (4, XF14 x N r S)) :: (x 15, .inl (G.2.1 3, 16, .inr (.inr (.inr (.inr (K 1)))))) :: (x 16, .inl (G.2.1 0, 16, .inl (R 4))) :: (x 17, .inl (G.2.1 0, 16, .inl (R 5))) :: (x 18, .inl (G.2.1 0, 25, .inl (R 6))) :: (x 19, .inl (G.2.1 0, 6, .inl (T 4))) :: (x 20, .inl (G.2.1 0, 160, .inl (T 5))) :: (x 21, .inr (0, XF21 x N r S)) :: (x 22, .inl (G.2.1 5, 4, .inr (.inr (.inr (.inr (fun j => some (x (23 + 2 * j)))))))) :: (x 23, .inr (7, XF23 x N r S)) :: (x 24, .inl (G.2.1 0, 40, .inl (R 7))) :: (x 25, .inr (7, XF25 x N r S)) :: (x 26, .inl (G.2.1 0, 40, .inl (R 8))) :: (x 27, .inr (7, XF27 x N r S)) :: (x 28, .inl (G.2.1 0, 40, .inl (R 9))) :: (x 29, .inr (7, XF29 x N r S)) :: (x 30, .inl (G.2.1 0, 40, .inl (R 10))) :: tl
theorem xf_0_2 (G : GT) (x : Nat → Nat) (N : Nat → Int32) (R : Nat → Nat → Int32) (K : Nat → Nat → Option Nat) (r : Nat → Nat) (S : Nat → Int32) (T : Nat → Nat → Int32) (tl : va_W) (v : Int32) : (XW G x N R K r S T tl).set 0 (x 0, .inr (11, (XF0 x N r S).set 2 (.int v))) = XW G x (upd N 1 v) R K r S T tl := rfl
theorem xf_0_5 (G : GT) (x : Nat → Nat) (N : Nat → Int32) (R : Nat → Nat → Int32) (K : Nat → Nat → Option Nat) (r : Nat → Nat) (S : Nat → Int32) (T : Nat → Nat → Int32) (tl : va_W) (v : Int32) : (XW G x N R K r S T tl).set 0 (x 0, .inr (11, (XF0 x N r S).set 5 (.int v))) = XW G x (upd N 5 v) R K r S T tl := rfl
theorem xf_1_0 (G : GT) (x : Nat → Nat) (N : Nat → Int32) (R : Nat → Nat → Int32) (K : Nat → Nat → Option Nat) (r : Nat → Nat) (S : Nat → Int32) (T : Nat → Nat → Int32) (tl : va_W) (v : Int32) : (XW G x N R K r S T tl).set 1 (x 1, .inr (6, (XF1 x N r S).set 0 (.int v))) = XW G x (upd N 0 v) R K r S T tl := rfl
theorem xf_1_2 (G : GT) (x : Nat → Nat) (N : Nat → Int32) (R : Nat → Nat → Int32) (K : Nat → Nat → Option Nat) (r : Nat → Nat) (S : Nat → Int32) (T : Nat → Nat → Int32) (tl : va_W) (v : Int32) : (XW G x N R K r S T tl).set 1 (x 1, .inr (6, (XF1 x N r S).set 2 (.int v))) = XW G x N R K r (upd S 0 v) T tl := rfl
theorem xf_1_3 (G : GT) (x : Nat → Nat) (N : Nat → Int32) (R : Nat → Nat → Int32) (K : Nat → Nat → Option Nat) (r : Nat → Nat) (S : Nat → Int32) (T : Nat → Nat → Int32) (tl : va_W) (v : Int32) : (XW G x N R K r S T tl).set 1 (x 1, .inr (6, (XF1 x N r S).set 3 (.int v))) = XW G x N R K r (upd S 1 v) T tl := rfl
theorem xf_1_4 (G : GT) (x : Nat → Nat) (N : Nat → Int32) (R : Nat → Nat → Int32) (K : Nat → Nat → Option Nat) (r : Nat → Nat) (S : Nat → Int32) (T : Nat → Nat → Int32) (tl : va_W) (v : Int32) : (XW G x N R K r S T tl).set 1 (x 1, .inr (6, (XF1 x N r S).set 4 (.int v))) = XW G x N R K r (upd S 2 v) T tl := rfl
theorem xf_1_5 (G : GT) (x : Nat → Nat) (N : Nat → Int32) (R : Nat → Nat → Int32) (K : Nat → Nat → Option Nat) (r : Nat → Nat) (S : Nat → Int32) (T : Nat → Nat → Int32) (tl : va_W) (v : Int32) : (XW G x N R K r S T tl).set 1 (x 1, .inr (6, (XF1 x N r S).set 5 (.int v))) = XW G x N R K r (upd S 3 v) T tl := rfl
theorem xf_1_6 (G : GT) (x : Nat → Nat) (N : Nat → Int32) (R : Nat → Nat → Int32) (K : Nat → Nat → Option Nat) (r : Nat → Nat) (S : Nat → Int32) (T : Nat → Nat → Int32) (tl : va_W) (v : Int32) : (XW G x N R K r S T tl).set 1 (x 1, .inr (6, (XF1 x N r S).set 6 (.int v))) = XW G x N R K r (upd S 4 v) T tl := rfl
theorem xf_1_8 (G : GT) (x : Nat → Nat) (N : Nat → Int32) (R : Nat → Nat → Int32) (K : Nat → Nat → Option Nat) (r : Nat → Nat) (S : Nat → Int32) (T : Nat → Nat → Int32) (tl : va_W) (v : Int32) : (XW G x N R K r S T tl).set 1 (x 1, .inr (6, (XF1 x N r S).set 8 (.int v))) = XW G x N R K r (upd S 5 v) T tl := rfl
theorem xf_6_4 (G : GT) (x : Nat → Nat) (N : Nat → Int32) (R : Nat → Nat → Int32) (K : Nat → Nat → Option Nat) (r : Nat → Nat) (S : Nat → Int32) (T : Nat → Nat → Int32) (tl : va_W) (v : Int32) : (XW G x N R K r S T tl).set 6 (x 6, .inr (4, (XF6 x N r S).set 4 (.int v))) = XW G x (upd N 2 v) R K r S T tl := rfl
theorem xf_6_5 (G : GT) (x : Nat → Nat) (N : Nat → Int32) (R : Nat → Nat → Int32) (K : Nat → Nat → Option Nat) (r : Nat → Nat) (S : Nat → Int32) (T : Nat → Nat → Int32) (tl : va_W) (v : Int32) : (XW G x N R K r S T tl).set 6 (x 6, .inr (4, (XF6 x N r S).set 5 (.int v))) = XW G x (upd N 3 v) R K r S T tl := rfl
theorem xf_6_6 (G : GT) (x : Nat → Nat) (N : Nat → Int32) (R : Nat → Nat → Int32) (K : Nat → Nat → Option Nat) (r : Nat → Nat) (S : Nat → Int32) (T : Nat → Nat → Int32) (tl : va_W) (v : Int32) : (XW G x N R K r S T tl).set 6 (x 6, .inr (4, (XF6 x N r S).set 6 (.int v))) = XW G x (upd N 4 v) R K r S T tl := rfl
theorem xf_6_7 (G : GT) (x : Nat → Nat) (N : Nat → Int32) (R : Nat → Nat → Int32) (K : Nat → Nat → Option Nat) (r : Nat → Nat) (S : Nat → Int32) (T : Nat → Nat → Int32) (tl : va_W) (v : Nat) : (XW G x N R K r S T tl).set 6 (x 6, .inr (4, (XF6 x N r S).set 7 (.ref v))) = XW G x N R K (va_up r 0 v) S T tl := rfl
theorem xf_13_0 (G : GT) (x : Nat → Nat) (N : Nat → Int32) (R : Nat → Nat → Int32) (K : Nat → Nat → Option Nat) (r : Nat → Nat) (S : Nat → Int32) (T : Nat → Nat → Int32) (tl : va_W) (v : Int32) : (XW G x N R K r S T tl).set 13 (x 13, .inr (0, (XF13 x N r S).set 0 (.int v))) = XW G x N R K r (upd S 6 v) T tl := rfl
theorem xf_13_1 (G : GT) (x : Nat → Nat) (N : Nat → Int32) (R : Nat → Nat → Int32) (K : Nat → Nat → Option Nat) (r : Nat → Nat) (S : Nat → Int32) (T : Nat → Nat → Int32) (tl : va_W) (v : Int32) : (XW G x N R K r S T tl).set 13 (x 13, .inr (0, (XF13 x N r S).set 1 (.int v))) = XW G x N R K r (upd S 7 v) T tl := rfl
theorem xf_14_4 (G : GT) (x : Nat → Nat) (N : Nat → Int32) (R : Nat → Nat → Int32) (K : Nat → Nat → Option Nat) (r : Nat → Nat) (S : Nat → Int32) (T : Nat → Nat → Int32) (tl : va_W) (v : Int32) : (XW G x N R K r S T tl).set 14 (x 14, .inr (4, (XF14 x N r S).set 4 (.int v))) = XW G x (upd N 6 v) R K r S T tl := rfl
theorem xf_14_5 (G : GT) (x : Nat → Nat) (N : Nat → Int32) (R : Nat → Nat → Int32) (K : Nat → Nat → Option Nat) (r : Nat → Nat) (S : Nat → Int32) (T : Nat → Nat → Int32) (tl : va_W) (v : Int32) : (XW G x N R K r S T tl).set 14 (x 14, .inr (4, (XF14 x N r S).set 5 (.int v))) = XW G x (upd N 7 v) R K r S T tl := rfl
theorem xf_14_6 (G : GT) (x : Nat → Nat) (N : Nat → Int32) (R : Nat → Nat → Int32) (K : Nat → Nat → Option Nat) (r : Nat → Nat) (S : Nat → Int32) (T : Nat → Nat → Int32) (tl : va_W) (v : Int32) : (XW G x N R K r S T tl).set 14 (x 14, .inr (4, (XF14 x N r S).set 6 (.int v))) = XW G x (upd N 8 v) R K r S T tl := rfl
theorem xf_14_7 (G : GT) (x : Nat → Nat) (N : Nat → Int32) (R : Nat → Nat → Int32) (K : Nat → Nat → Option Nat) (r : Nat → Nat) (S : Nat → Int32) (T : Nat → Nat → Int32) (tl : va_W) (v : Nat) : (XW G x N R K r S T tl).set 14 (x 14, .inr (4, (XF14 x N r S).set 7 (.ref v))) = XW G x N R K (va_up r 1 v) S T tl := rfl
theorem xf_21_0 (G : GT) (x : Nat → Nat) (N : Nat → Int32) (R : Nat → Nat → Int32) (K : Nat → Nat → Option Nat) (r : Nat → Nat) (S : Nat → Int32) (T : Nat → Nat → Int32) (tl : va_W) (v : Int32) : (XW G x N R K r S T tl).set 21 (x 21, .inr (0, (XF21 x N r S).set 0 (.int v))) = XW G x N R K r (upd S 8 v) T tl := rfl
theorem xf_21_1 (G : GT) (x : Nat → Nat) (N : Nat → Int32) (R : Nat → Nat → Int32) (K : Nat → Nat → Option Nat) (r : Nat → Nat) (S : Nat → Int32) (T : Nat → Nat → Int32) (tl : va_W) (v : Int32) : (XW G x N R K r S T tl).set 21 (x 21, .inr (0, (XF21 x N r S).set 1 (.int v))) = XW G x N R K r (upd S 9 v) T tl := rfl
theorem xf_23_0 (G : GT) (x : Nat → Nat) (N : Nat → Int32) (R : Nat → Nat → Int32) (K : Nat → Nat → Option Nat) (r : Nat → Nat) (S : Nat → Int32) (T : Nat → Nat → Int32) (tl : va_W) (v : Int32) : (XW G x N R K r S T tl).set 23 (x 23, .inr (7, (XF23 x N r S).set 0 (.int v))) = XW G x (upd N 10 v) R K r S T tl := rfl
theorem xf_23_1 (G : GT) (x : Nat → Nat) (N : Nat → Int32) (R : Nat → Nat → Int32) (K : Nat → Nat → Option Nat) (r : Nat → Nat) (S : Nat → Int32) (T : Nat → Nat → Int32) (tl : va_W) (v : Int32) : (XW G x N R K r S T tl).set 23 (x 23, .inr (7, (XF23 x N r S).set 1 (.int v))) = XW G x (upd N 11 v) R K r S T tl := rfl
theorem xf_25_0 (G : GT) (x : Nat → Nat) (N : Nat → Int32) (R : Nat → Nat → Int32) (K : Nat → Nat → Option Nat) (r : Nat → Nat) (S : Nat → Int32) (T : Nat → Nat → Int32) (tl : va_W) (v : Int32) : (XW G x N R K r S T tl).set 25 (x 25, .inr (7, (XF25 x N r S).set 0 (.int v))) = XW G x (upd N 12 v) R K r S T tl := rfl
theorem xf_25_1 (G : GT) (x : Nat → Nat) (N : Nat → Int32) (R : Nat → Nat → Int32) (K : Nat → Nat → Option Nat) (r : Nat → Nat) (S : Nat → Int32) (T : Nat → Nat → Int32) (tl : va_W) (v : Int32) : (XW G x N R K r S T tl).set 25 (x 25, .inr (7, (XF25 x N r S).set 1 (.int v))) = XW G x (upd N 13 v) R K r S T tl := rfl
theorem xf_27_0 (G : GT) (x : Nat → Nat) (N : Nat → Int32) (R : Nat → Nat → Int32) (K : Nat → Nat → Option Nat) (r : Nat → Nat) (S : Nat → Int32) (T : Nat → Nat → Int32) (tl : va_W) (v : Int32) : (XW G x N R K r S T tl).set 27 (x 27, .inr (7, (XF27 x N r S).set 0 (.int v))) = XW G x (upd N 14 v) R K r S T tl := rfl
theorem xf_27_1 (G : GT) (x : Nat → Nat) (N : Nat → Int32) (R : Nat → Nat → Int32) (K : Nat → Nat → Option Nat) (r : Nat → Nat) (S : Nat → Int32) (T : Nat → Nat → Int32) (tl : va_W) (v : Int32) : (XW G x N R K r S T tl).set 27 (x 27, .inr (7, (XF27 x N r S).set 1 (.int v))) = XW G x (upd N 15 v) R K r S T tl := rfl
theorem xf_29_0 (G : GT) (x : Nat → Nat) (N : Nat → Int32) (R : Nat → Nat → Int32) (K : Nat → Nat → Option Nat) (r : Nat → Nat) (S : Nat → Int32) (T : Nat → Nat → Int32) (tl : va_W) (v : Int32) : (XW G x N R K r S T tl).set 29 (x 29, .inr (7, (XF29 x N r S).set 0 (.int v))) = XW G x (upd N 16 v) R K r S T tl := rfl
theorem xf_29_1 (G : GT) (x : Nat → Nat) (N : Nat → Int32) (R : Nat → Nat → Int32) (K : Nat → Nat → Option Nat) (r : Nat → Nat) (S : Nat → Int32) (T : Nat → Nat → Int32) (tl : va_W) (v : Int32) : (XW G x N R K r S T tl).set 29 (x 29, .inr (7, (XF29 x N r S).set 1 (.int v))) = XW G x (upd N 17 v) R K r S T tl := rfl
theorem xa_2 (G : GT) (x : Nat → Nat) (N : Nat → Int32) (R : Nat → Nat → Int32) (K : Nat → Nat → Option Nat) (r : Nat → Nat) (S : Nat → Int32) (T : Nat → Nat → Int32) (tl : va_W) (g : Nat → Int32) : (XW G x N R K r S T tl).set 2 (x 2, .inl (G.2.1 1, 160, .inl g)) = XW G x N (vf_upd R 0 g) K r S T tl := rfl
theorem xa_3 (G : GT) (x : Nat → Nat) (N : Nat → Int32) (R : Nat → Nat → Int32) (K : Nat → Nat → Option Nat) (r : Nat → Nat) (S : Nat → Int32) (T : Nat → Nat → Int32) (tl : va_W) (g : Nat → Int32) : (XW G x N R K r S T tl).set 3 (x 3, .inl (G.2.1 0, 160, .inl g)) = XW G x N R K r S (vf_upd T 0 g) tl := rfl
theorem xa_4 (G : GT) (x : Nat → Nat) (N : Nat → Int32) (R : Nat → Nat → Int32) (K : Nat → Nat → Option Nat) (r : Nat → Nat) (S : Nat → Int32) (T : Nat → Nat → Int32) (tl : va_W) (g : Nat → Int32) : (XW G x N R K r S T tl).set 4 (x 4, .inl (G.2.1 0, 3, .inl g)) = XW G x N R K r S (vf_upd T 1 g) tl := rfl
theorem xa_5 (G : GT) (x : Nat → Nat) (N : Nat → Int32) (R : Nat → Nat → Int32) (K : Nat → Nat → Option Nat) (r : Nat → Nat) (S : Nat → Int32) (T : Nat → Nat → Int32) (tl : va_W) (g : Nat → Option Nat) : (XW G x N R K r S T tl).set 5 (x 5, .inl (G.2.1 4, 6, .inr (.inr (.inr (.inr g))))) = XW G x N R (vf_upd K 2 g) r S T tl := rfl
theorem xa_7 (G : GT) (x : Nat → Nat) (N : Nat → Int32) (R : Nat → Nat → Int32) (K : Nat → Nat → Option Nat) (r : Nat → Nat) (S : Nat → Int32) (T : Nat → Nat → Int32) (tl : va_W) (g : Nat → Option Nat) : (XW G x N R K r S T tl).set 7 (x 7, .inl (G.2.1 3, 16, .inr (.inr (.inr (.inr g))))) = XW G x N R (vf_upd K 0 g) r S T tl := rfl
theorem xa_8 (G : GT) (x : Nat → Nat) (N : Nat → Int32) (R : Nat → Nat → Int32) (K : Nat → Nat → Option Nat) (r : Nat → Nat) (S : Nat → Int32) (T : Nat → Nat → Int32) (tl : va_W) (g : Nat → Int32) : (XW G x N R K r S T tl).set 8 (x 8, .inl (G.2.1 0, 16, .inl g)) = XW G x N (vf_upd R 1 g) K r S T tl := rfl
theorem xa_9 (G : GT) (x : Nat → Nat) (N : Nat → Int32) (R : Nat → Nat → Int32) (K : Nat → Nat → Option Nat) (r : Nat → Nat) (S : Nat → Int32) (T : Nat → Nat → Int32) (tl : va_W) (g : Nat → Int32) : (XW G x N R K r S T tl).set 9 (x 9, .inl (G.2.1 0, 16, .inl g)) = XW G x N (vf_upd R 2 g) K r S T tl := rfl
theorem xa_10 (G : GT) (x : Nat → Nat) (N : Nat → Int32) (R : Nat → Nat → Int32) (K : Nat → Nat → Option Nat) (r : Nat → Nat) (S : Nat → Int32) (T : Nat → Nat → Int32) (tl : va_W) (g : Nat → Int32) : (XW G x N R K r S T tl).set 10 (x 10, .inl (G.2.1 0, 25, .inl g)) = XW G x N (vf_upd R 3 g) K r S T tl := rfl
theorem xa_11 (G : GT) (x : Nat → Nat) (N : Nat → Int32) (R : Nat → Nat → Int32) (K : Nat → Nat → Option Nat) (r : Nat → Nat) (S : Nat → Int32) (T : Nat → Nat → Int32) (tl : va_W) (g : Nat → Int32) : (XW G x N R K r S T tl).set 11 (x 11, .inl (G.2.1 0, 6, .inl g)) = XW G x N R K r S (vf_upd T 2 g) tl := rfl
theorem xa_12 (G : GT) (x : Nat → Nat) (N : Nat → Int32) (R : Nat → Nat → Int32) (K : Nat → Nat → Option Nat) (r : Nat → Nat) (S : Nat → Int32) (T : Nat → Nat → Int32) (tl : va_W) (g : Nat → Int32) : (XW G x N R K r S T tl).set 12 (x 12, .inl (G.2.1 0, 160, .inl g)) = XW G x N R K r S (vf_upd T 3 g) tl := rfl
theorem xa_15 (G : GT) (x : Nat → Nat) (N : Nat → Int32) (R : Nat → Nat → Int32) (K : Nat → Nat → Option Nat) (r : Nat → Nat) (S : Nat → Int32) (T : Nat → Nat → Int32) (tl : va_W) (g : Nat → Option Nat) : (XW G x N R K r S T tl).set 15 (x 15, .inl (G.2.1 3, 16, .inr (.inr (.inr (.inr g))))) = XW G x N R (vf_upd K 1 g) r S T tl := rfl
theorem xa_16 (G : GT) (x : Nat → Nat) (N : Nat → Int32) (R : Nat → Nat → Int32) (K : Nat → Nat → Option Nat) (r : Nat → Nat) (S : Nat → Int32) (T : Nat → Nat → Int32) (tl : va_W) (g : Nat → Int32) : (XW G x N R K r S T tl).set 16 (x 16, .inl (G.2.1 0, 16, .inl g)) = XW G x N (vf_upd R 4 g) K r S T tl := rfl
theorem xa_17 (G : GT) (x : Nat → Nat) (N : Nat → Int32) (R : Nat → Nat → Int32) (K : Nat → Nat → Option Nat) (r : Nat → Nat) (S : Nat → Int32) (T : Nat → Nat → Int32) (tl : va_W) (g : Nat → Int32) : (XW G x N R K r S T tl).set 17 (x 17, .inl (G.2.1 0, 16, .inl g)) = XW G x N (vf_upd R 5 g) K r S T tl := rfl
theorem xa_18 (G : GT) (x : Nat → Nat) (N : Nat → Int32) (R : Nat → Nat → Int32) (K : Nat → Nat → Option Nat) (r : Nat → Nat) (S : Nat → Int32) (T : Nat → Nat → Int32) (tl : va_W) (g : Nat → Int32) : (XW G x N R K r S T tl).set 18 (x 18, .inl (G.2.1 0, 25, .inl g)) = XW G x N (vf_upd R 6 g) K r S T tl := rfl
theorem xa_19 (G : GT) (x : Nat → Nat) (N : Nat → Int32) (R : Nat → Nat → Int32) (K : Nat → Nat → Option Nat) (r : Nat → Nat) (S : Nat → Int32) (T : Nat → Nat → Int32) (tl : va_W) (g : Nat → Int32) : (XW G x N R K r S T tl).set 19 (x 19, .inl (G.2.1 0, 6, .inl g)) = XW G x N R K r S (vf_upd T 4 g) tl := rfl
theorem xa_20 (G : GT) (x : Nat → Nat) (N : Nat → Int32) (R : Nat → Nat → Int32) (K : Nat → Nat → Option Nat) (r : Nat → Nat) (S : Nat → Int32) (T : Nat → Nat → Int32) (tl : va_W) (g : Nat → Int32) : (XW G x N R K r S T tl).set 20 (x 20, .inl (G.2.1 0, 160, .inl g)) = XW G x N R K r S (vf_upd T 5 g) tl := rfl
theorem xa_24 (G : GT) (x : Nat → Nat) (N : Nat → Int32) (R : Nat → Nat → Int32) (K : Nat → Nat → Option Nat) (r : Nat → Nat) (S : Nat → Int32) (T : Nat → Nat → Int32) (tl : va_W) (g : Nat → Int32) : (XW G x N R K r S T tl).set 24 (x 24, .inl (G.2.1 0, 40, .inl g)) = XW G x N (vf_upd R 7 g) K r S T tl := rfl
theorem xa_26 (G : GT) (x : Nat → Nat) (N : Nat → Int32) (R : Nat → Nat → Int32) (K : Nat → Nat → Option Nat) (r : Nat → Nat) (S : Nat → Int32) (T : Nat → Nat → Int32) (tl : va_W) (g : Nat → Int32) : (XW G x N R K r S T tl).set 26 (x 26, .inl (G.2.1 0, 40, .inl g)) = XW G x N (vf_upd R 8 g) K r S T tl := rfl
theorem xa_28 (G : GT) (x : Nat → Nat) (N : Nat → Int32) (R : Nat → Nat → Int32) (K : Nat → Nat → Option Nat) (r : Nat → Nat) (S : Nat → Int32) (T : Nat → Nat → Int32) (tl : va_W) (g : Nat → Int32) : (XW G x N R K r S T tl).set 28 (x 28, .inl (G.2.1 0, 40, .inl g)) = XW G x N (vf_upd R 9 g) K r S T tl := rfl
theorem xa_30 (G : GT) (x : Nat → Nat) (N : Nat → Int32) (R : Nat → Nat → Int32) (K : Nat → Nat → Option Nat) (r : Nat → Nat) (S : Nat → Int32) (T : Nat → Nat → Int32) (tl : va_W) (g : Nat → Int32) : (XW G x N R K r S T tl).set 30 (x 30, .inl (G.2.1 0, 40, .inl g)) = XW G x N (vf_upd R 10 g) K r S T tl := rfl
theorem xw_tl {G : GT} {x : Nat → Nat} {N : Nat → Int32} {R : Nat → Nat → Int32} {K : Nat → Nat → Option Nat} {r : Nat → Nat} {S : Nat → Int32} {T : Nat → Nat → Int32} {tl : va_W} {i : Nat} {q : Nat × va_E} (h : tl[i]? = some q) : (XW G x N R K r S T tl)[i + 31]? = some q := h
theorem xw_app (G : GT) (x : Nat → Nat) (N : Nat → Int32) (R : Nat → Nat → Int32) (K : Nat → Nat → Option Nat) (r : Nat → Nat) (S : Nat → Int32) (T : Nat → Nat → Int32) (tl : va_W) (u : va_W) : XW G x N R K r S T tl ++ u = XW G x N R K r S T (tl ++ u) := rfl
def stX (w : Int32) : Int32 := if irm (w / 10) 10 = 0 then 1 else 5
theorem inB_iff {x : Int32} {lo hi : Int} : inB x lo hi = true ↔ lo ≤ x.toInt ∧ x.toInt ≤ hi := by simp only [inB, Bool.and_eq_true, decide_eq_true_eq]
theorem b01_i {p q : Bool} (h : p = true ↔ q = true) : b01 p = b01 q := by cases p <;> cases q <;> simp_all
set_option maxHeartbeats 4000000 in
set_option maxRecDepth 100000 in
theorem t_X11_firstOf (G : GT) (w : Int32) (ws : va_W)  : Ct G mX11_firstOf 0 0 0 [.int w] ws (Pi (w / 100) ws) := by
  refine Ct.intro [(0, .int w)] (by decide) rfl (Nat.le_of_ble_eq_true rfl) ?_
  refine z_iload_n d_X11_firstOf_0 0 rfl ?_
  refine z_bipush (v := 100) d_X11_firstOf_1 (by decide) ?_
  refine z_idiv d_X11_firstOf_3 (by decide) ?_
  exact z_iret _ d_X11_firstOf_4 rfl (Pi.of rfl)
set_option maxHeartbeats 4000000 in
set_option maxRecDepth 100000 in
theorem t_X11_wayOf (G : GT) (w : Int32) (ws : va_W)  : Ct G mX11_wayOf 0 0 0 [.int w] ws (Pi (irm (w / 10) 10) ws) := by
  refine Ct.intro [(0, .int w)] (by decide) rfl (Nat.le_of_ble_eq_true rfl) ?_
  refine z_iload_n d_X11_wayOf_0 0 rfl ?_
  refine z_bipush (v := 10) d_X11_wayOf_1 (by decide) ?_
  refine z_idiv d_X11_wayOf_3 (by decide) ?_
  refine z_bipush (v := 10) d_X11_wayOf_4 (by decide) ?_
  refine z_irm d_X11_wayOf_6 (by decide) ?_
  exact z_iret _ d_X11_wayOf_7 rfl (Pi.of rfl)
set_option maxHeartbeats 4000000 in
set_option maxRecDepth 100000 in
theorem t_X11_longOf (G : GT) (w : Int32) (ws : va_W)  : Ct G mX11_longOf 0 0 0 [.int w] ws (Pi (irm w 10) ws) := by
  refine Ct.intro [(0, .int w)] (by decide) rfl (Nat.le_of_ble_eq_true rfl) ?_
  refine z_iload_n d_X11_longOf_0 0 rfl ?_
  refine z_bipush (v := 10) d_X11_longOf_1 (by decide) ?_
  refine z_irm d_X11_longOf_3 (by decide) ?_
  exact z_iret _ d_X11_longOf_4 rfl (Pi.of rfl)
set_option maxHeartbeats 4000000 in
set_option maxRecDepth 100000 in
theorem t_X11_stepOf (G : GT) (w : Int32) (ws : va_W)  : Ct G mX11_stepOf 0 0 0 [.int w] ws (Pi (stX w) ws) := by
  refine Ct.intro [(0, .int w)] (by decide) rfl (Nat.le_of_ble_eq_true rfl) ?_
  refine z_iload_n d_X11_stepOf_0 0 rfl ?_
  refine z_bipush (v := 10) d_X11_stepOf_1 (by decide) ?_
  refine z_idiv d_X11_stepOf_3 (by decide) ?_
  refine z_bipush (v := 10) d_X11_stepOf_4 (by decide) ?_
  refine z_irm d_X11_stepOf_6 (by decide) ?_
  refine z_if_ne d_X11_stepOf_7 (fun c_7 => ?_) (fun c_7 => ?_)
  · refine z_iconst (v := 5) d_X11_stepOf_14 (by decide) ?_
    exact z_iret _ d_X11_stepOf_15 rfl (Pi.of (by simp [stX, *]))
  · refine z_iconst (v := 1) d_X11_stepOf_10 (by decide) ?_
    refine z_goto d_X11_stepOf_11 ?_
    exact z_iret _ d_X11_stepOf_15 rfl (Pi.of (by simp [stX, *]))
theorem l_25 : (25 : Int32).toInt = 25 := by decide
theorem l_6 : (6 : Int32).toInt = 6 := by decide
theorem l_4 : (4 : Int32).toInt = 4 := by decide
theorem l_3 : (3 : Int32).toInt = 3 := by decide
theorem l_999 : (999 : Int32).toInt = 999 := by decide
theorem l_99 : (99 : Int32).toInt = 99 := by decide
theorem l_40 : (40 : Int32).toInt = 40 := by decide
theorem l_16 : (16 : Int32).toInt = 16 := by decide
set_option maxHeartbeats 4000000 in
set_option maxRecDepth 100000 in
theorem t_X11_isCrossing (G : GT) (w : Int32) (ws : va_W)  : Ct G mX11_isCrossing 0 0 0 [.int w] ws (Pi (b01 (okC w)) ws) := by
  refine Ct.intro [(0, .int w)] (by decide) rfl (Nat.le_of_ble_eq_true rfl) ?_
  refine z_iload_n d_X11_isCrossing_0 0 rfl ?_
  refine z_if_lt d_X11_isCrossing_1 (fun c_1 => ?_) (fun c_1 => ?_)
  · refine z_iconst (v := 0) d_X11_isCrossing_14 (by decide) ?_
    exact z_zret _ d_X11_isCrossing_15 rfl (by first | rfl | decide) (Pi.of (b01_f (by simp only [lt_i, i_0, i_1, i_5, i_10, l_25, l_6, l_4, l_3, l_999, l_99, l_40, l_16] at *; simp only [okC, Bool.and_eq_true, Bool.or_eq_true, decide_eq_true_eq, inB_iff]; omega)))
  · refine z_iload_n d_X11_isCrossing_4 0 rfl ?_
    refine z_bipush (v := 25) d_X11_isCrossing_5 (by decide) ?_
    refine z_icmp_ge d_X11_isCrossing_7 (fun c_7 => ?_) (fun c_7 => ?_)
    · refine z_iconst (v := 0) d_X11_isCrossing_14 (by decide) ?_
      exact z_zret _ d_X11_isCrossing_15 rfl (by first | rfl | decide) (Pi.of (b01_f (by simp only [lt_i, i_0, i_1, i_5, i_10, l_25, l_6, l_4, l_3, l_999, l_99, l_40, l_16] at *; simp only [okC, Bool.and_eq_true, Bool.or_eq_true, decide_eq_true_eq, inB_iff]; omega)))
    · refine z_iconst (v := 1) d_X11_isCrossing_10 (by decide) ?_
      refine z_goto d_X11_isCrossing_11 ?_
      exact z_zret _ d_X11_isCrossing_15 rfl (by first | rfl | decide) (Pi.of (b01_t (by simp only [lt_i, i_0, i_1, i_5, i_10, l_25, l_6, l_4, l_3, l_999, l_99, l_40, l_16] at *; simp only [okC, Bool.and_eq_true, Bool.or_eq_true, decide_eq_true_eq, inB_iff]; omega)))
set_option maxHeartbeats 4000000 in
set_option maxRecDepth 100000 in
theorem t_X11_isLong (G : GT) (w : Int32) (ws : va_W)  : Ct G mX11_isLong 0 0 0 [.int w] ws (Pi (b01 (inB w 1 5)) ws) := by
  refine Ct.intro [(0, .int w)] (by decide) rfl (Nat.le_of_ble_eq_true rfl) ?_
  refine z_iload_n d_X11_isLong_0 0 rfl ?_
  refine z_iconst (v := 1) d_X11_isLong_1 (by decide) ?_
  refine z_icmp_lt d_X11_isLong_2 (fun c_2 => ?_) (fun c_2 => ?_)
  · refine z_iconst (v := 0) d_X11_isLong_14 (by decide) ?_
    exact z_zret _ d_X11_isLong_15 rfl (by first | rfl | decide) (Pi.of (b01_f (by simp only [lt_i, i_0, i_1, i_5, i_10, l_25, l_6, l_4, l_3, l_999, l_99, l_40, l_16] at *; simp only [okC, Bool.and_eq_true, Bool.or_eq_true, decide_eq_true_eq, inB_iff]; omega)))
  · refine z_iload_n d_X11_isLong_5 0 rfl ?_
    refine z_iconst (v := 5) d_X11_isLong_6 (by decide) ?_
    refine z_icmp_gt d_X11_isLong_7 (fun c_7 => ?_) (fun c_7 => ?_)
    · refine z_iconst (v := 0) d_X11_isLong_14 (by decide) ?_
      exact z_zret _ d_X11_isLong_15 rfl (by first | rfl | decide) (Pi.of (b01_f (by simp only [lt_i, i_0, i_1, i_5, i_10, l_25, l_6, l_4, l_3, l_999, l_99, l_40, l_16] at *; simp only [okC, Bool.and_eq_true, Bool.or_eq_true, decide_eq_true_eq, inB_iff]; omega)))
    · refine z_iconst (v := 1) d_X11_isLong_10 (by decide) ?_
      refine z_goto d_X11_isLong_11 ?_
      exact z_zret _ d_X11_isLong_15 rfl (by first | rfl | decide) (Pi.of (b01_t (by simp only [lt_i, i_0, i_1, i_5, i_10, l_25, l_6, l_4, l_3, l_999, l_99, l_40, l_16] at *; simp only [okC, Bool.and_eq_true, Bool.or_eq_true, decide_eq_true_eq, inB_iff]; omega)))
set_option maxHeartbeats 4000000 in
set_option maxRecDepth 100000 in
theorem t_X11_isSheet (G : GT) (w : Int32) (ws : va_W)  : Ct G mX11_isSheet 0 0 0 [.int w] ws (Pi (b01 (inB w 0 3)) ws) := by
  refine Ct.intro [(0, .int w)] (by decide) rfl (Nat.le_of_ble_eq_true rfl) ?_
  refine z_iload_n d_X11_isSheet_0 0 rfl ?_
  refine z_if_lt d_X11_isSheet_1 (fun c_1 => ?_) (fun c_1 => ?_)
  · refine z_iconst (v := 0) d_X11_isSheet_13 (by decide) ?_
    exact z_zret _ d_X11_isSheet_14 rfl (by first | rfl | decide) (Pi.of (b01_f (by simp only [lt_i, i_0, i_1, i_5, i_10, l_25, l_6, l_4, l_3, l_999, l_99, l_40, l_16] at *; simp only [okC, Bool.and_eq_true, Bool.or_eq_true, decide_eq_true_eq, inB_iff]; omega)))
  · refine z_iload_n d_X11_isSheet_4 0 rfl ?_
    refine z_iconst (v := 4) d_X11_isSheet_5 (by decide) ?_
    refine z_icmp_ge d_X11_isSheet_6 (fun c_6 => ?_) (fun c_6 => ?_)
    · refine z_iconst (v := 0) d_X11_isSheet_13 (by decide) ?_
      exact z_zret _ d_X11_isSheet_14 rfl (by first | rfl | decide) (Pi.of (b01_f (by simp only [lt_i, i_0, i_1, i_5, i_10, l_25, l_6, l_4, l_3, l_999, l_99, l_40, l_16] at *; simp only [okC, Bool.and_eq_true, Bool.or_eq_true, decide_eq_true_eq, inB_iff]; omega)))
    · refine z_iconst (v := 1) d_X11_isSheet_9 (by decide) ?_
      refine z_goto d_X11_isSheet_10 ?_
      exact z_zret _ d_X11_isSheet_14 rfl (by first | rfl | decide) (Pi.of (b01_t (by simp only [lt_i, i_0, i_1, i_5, i_10, l_25, l_6, l_4, l_3, l_999, l_99, l_40, l_16] at *; simp only [okC, Bool.and_eq_true, Bool.or_eq_true, decide_eq_true_eq, inB_iff]; omega)))
set_option maxHeartbeats 4000000 in
set_option maxRecDepth 100000 in
theorem t_X11_isSort (G : GT) (w : Int32) (ws : va_W)  : Ct G mX11_isSort 0 0 0 [.int w] ws (Pi (b01 (inB w 0 2)) ws) := by
  refine Ct.intro [(0, .int w)] (by decide) rfl (Nat.le_of_ble_eq_true rfl) ?_
  refine z_iload_n d_X11_isSort_0 0 rfl ?_
  refine z_if_lt d_X11_isSort_1 (fun c_1 => ?_) (fun c_1 => ?_)
  · refine z_iconst (v := 0) d_X11_isSort_13 (by decide) ?_
    exact z_zret _ d_X11_isSort_14 rfl (by first | rfl | decide) (Pi.of (b01_f (by simp only [lt_i, i_0, i_1, i_5, i_10, l_25, l_6, l_4, l_3, l_999, l_99, l_40, l_16] at *; simp only [okC, Bool.and_eq_true, Bool.or_eq_true, decide_eq_true_eq, inB_iff]; omega)))
  · refine z_iload_n d_X11_isSort_4 0 rfl ?_
    refine z_iconst (v := 3) d_X11_isSort_5 (by decide) ?_
    refine z_icmp_ge d_X11_isSort_6 (fun c_6 => ?_) (fun c_6 => ?_)
    · refine z_iconst (v := 0) d_X11_isSort_13 (by decide) ?_
      exact z_zret _ d_X11_isSort_14 rfl (by first | rfl | decide) (Pi.of (b01_f (by simp only [lt_i, i_0, i_1, i_5, i_10, l_25, l_6, l_4, l_3, l_999, l_99, l_40, l_16] at *; simp only [okC, Bool.and_eq_true, Bool.or_eq_true, decide_eq_true_eq, inB_iff]; omega)))
    · refine z_iconst (v := 1) d_X11_isSort_9 (by decide) ?_
      refine z_goto d_X11_isSort_10 ?_
      exact z_zret _ d_X11_isSort_14 rfl (by first | rfl | decide) (Pi.of (b01_t (by simp only [lt_i, i_0, i_1, i_5, i_10, l_25, l_6, l_4, l_3, l_999, l_99, l_40, l_16] at *; simp only [okC, Bool.and_eq_true, Bool.or_eq_true, decide_eq_true_eq, inB_iff]; omega)))
theorem fit_e {w : Int32} (h0 : 0 ≤ w.toInt) : (irm (w / 10) 10).toInt = w.toInt % 100 / 10 ∧ (irm w 10).toInt = w.toInt % 10 ∧ (w / 100).toInt = w.toInt / 100 ∧ (w / 10).toInt = w.toInt / 10 ∧ (irm (w / 10) 10 = 0 ↔ irm w 100 / 10 = 0) ∧ stX w = stW w := by
  have e1 : (w / 10).toInt = w.toInt / 10 := by rw [div_i h0 (by decide)]; rfl
  have e2 : (irm (w / 10) 10).toInt = w.toInt % 100 / 10 := by rw [irm_i (by rw [e1]; omega) (by decide), e1, i_10]; omega
  have e3 : (irm w 100).toInt = w.toInt % 100 := by rw [irm_i h0 (by decide)]; rfl
  have e4 : (irm w 100 / 10).toInt = w.toInt % 100 / 10 := by rw [div_i (by rw [e3]; omega) (by decide), e3]; rfl
  have e5 : irm (w / 10) 10 = 0 ↔ irm w 100 / 10 = 0 := by rw [eq_i, eq_i, e2, e4]
  refine ⟨e2, by rw [irm_i h0 (by decide)]; rfl, by rw [div_i h0 (by decide)]; rfl, e1, e5, ?_⟩
  unfold stX stW
  by_cases h : irm w 100 / 10 = 0
  · rw [if_pos h, if_pos (e5.mpr h)]
  · rw [if_neg h, if_neg (fun q => h (e5.mp q))]
set_option maxHeartbeats 4000000 in
set_option maxRecDepth 100000 in
theorem t_X11_fits (G : GT) (w : Int32) (ws : va_W)  : Ct G mX11_fits 1 0 0 [.int w] ws (Pi (b01 (okW w)) ws) := by
  refine Ct.intro [(0, .int w)] (by decide) rfl (Nat.le_of_ble_eq_true rfl) ?_
  refine z_iload_n d_X11_fits_0 0 rfl ?_
  refine z_if_lt d_X11_fits_1 (fun c_1 => ?_) (fun c_1 => ?_)
  · refine z_iconst (v := 0) d_X11_fits_32 (by decide) ?_
    exact z_zret _ d_X11_fits_33 rfl (by first | rfl | decide) (Pi.of (b01_f (fun hh => by
      obtain ⟨g1, g2, g3, g4, g5, g6⟩ := okW_iff.mp hh
      obtain ⟨e1, e2, e3, e4, e5, e6⟩ := fit_e g1
      obtain ⟨-, f2, f3, f4, f5, f6, f7⟩ := W_i (w := w) g1 g2
      rw [lt_i, i_0] at c_1
      clear e4 e5 e6
      split at g6 <;> omega)))
  · refine z_iload_n d_X11_fits_4 0 rfl ?_
    refine z_callSp c_X11_283 (t_X11_firstOf G w ws) rfl rfl (Nat.le_of_ble_eq_true rfl) rfl d_X11_fits_5 ?_
    refine z_callSp c_X11_149 (t_X11_isCrossing G (w / 100) ws) rfl rfl (Nat.le_of_ble_eq_true rfl) rfl d_X11_fits_8 ?_
    refine z_if_eq d_X11_fits_11 (fun c_11 => ?_) (fun c_11 => ?_)
    · refine z_iconst (v := 0) d_X11_fits_32 (by decide) ?_
      exact z_zret _ d_X11_fits_33 rfl (by first | rfl | decide) (Pi.of (b01_f (fun hh => by
      obtain ⟨g1, g2, g3, g4, g5, g6⟩ := okW_iff.mp hh
      obtain ⟨e1, e2, e3, e4, e5, e6⟩ := fit_e g1
      obtain ⟨-, f2, f3, f4, f5, f6, f7⟩ := W_i (w := w) g1 g2
      rw [lt_i, i_0] at c_1
      simp only [b01_0, b01_n0, okC, inB, Bool.and_eq_false_iff, Bool.and_eq_true, decide_eq_true_eq, decide_eq_false_iff_not, e2, e3] at c_11
      clear e4 e5 e6
      split at g6 <;> omega)))
    · refine z_iload_n d_X11_fits_14 0 rfl ?_
      refine z_callSp c_X11_286 (t_X11_wayOf G w ws) rfl rfl (Nat.le_of_ble_eq_true rfl) rfl d_X11_fits_15 ?_
      refine z_iconst (v := 1) d_X11_fits_18 (by decide) ?_
      refine z_icmp_gt d_X11_fits_19 (fun c_19 => ?_) (fun c_19 => ?_)
      · refine z_iconst (v := 0) d_X11_fits_32 (by decide) ?_
        exact z_zret _ d_X11_fits_33 rfl (by first | rfl | decide) (Pi.of (b01_f (fun hh => by
      obtain ⟨g1, g2, g3, g4, g5, g6⟩ := okW_iff.mp hh
      obtain ⟨e1, e2, e3, e4, e5, e6⟩ := fit_e g1
      obtain ⟨-, f2, f3, f4, f5, f6, f7⟩ := W_i (w := w) g1 g2
      rw [lt_i, i_0] at c_1
      simp only [b01_0, b01_n0, okC, inB, Bool.and_eq_false_iff, Bool.and_eq_true, decide_eq_true_eq, decide_eq_false_iff_not, e2, e3] at c_11
      rw [lt_i, i_1, e1] at c_19
      clear e4 e5 e6
      split at g6 <;> omega)))
      · refine z_iload_n d_X11_fits_22 0 rfl ?_
        refine z_callSp c_X11_289 (t_X11_longOf G w ws) rfl rfl (Nat.le_of_ble_eq_true rfl) rfl d_X11_fits_23 ?_
        refine z_callSp c_X11_198 (t_X11_isLong G (irm w 10) ws) rfl rfl (Nat.le_of_ble_eq_true rfl) rfl d_X11_fits_26 ?_
        refine z_if_ne d_X11_fits_29 (fun c_29 => ?_) (fun c_29 => ?_)
        · refine z_iload_n d_X11_fits_34 0 rfl ?_
          refine z_callSp c_X11_283 (t_X11_firstOf G w ws) rfl rfl (Nat.le_of_ble_eq_true rfl) rfl d_X11_fits_35 ?_
          refine z_istore_n [(1, .int (w / 100)), (0, .int w)] d_X11_fits_38 (by decide) rfl ?_
          refine z_iload_n d_X11_fits_39 1 rfl ?_
          refine z_callSp c_X11_286 (t_X11_wayOf G w ws) rfl rfl (Nat.le_of_ble_eq_true rfl) rfl d_X11_fits_40 ?_
          refine z_if_ne d_X11_fits_43 (fun c_43 => ?_) (fun c_43 => ?_)
          · refine z_iload_n d_X11_fits_52 0 rfl ?_
            refine z_iconst (v := 5) d_X11_fits_53 (by decide) ?_
            refine z_idiv d_X11_fits_54 (by decide) ?_
            refine z_istore_n [(2, .int ((w / 100) / 5)), (1, .int (w / 100)), (0, .int w)] d_X11_fits_55 (by decide) rfl ?_
            refine z_iload_n d_X11_fits_56 0 rfl ?_
            refine z_iload_n d_X11_fits_57 2 rfl ?_
            refine z_callSp c_X11_289 (t_X11_longOf G w ws) rfl rfl (Nat.le_of_ble_eq_true rfl) rfl d_X11_fits_58 ?_
            refine z_iadd d_X11_fits_61 ?_
            refine z_iconst (v := 5) d_X11_fits_62 (by decide) ?_
            refine z_icmp_gt d_X11_fits_63 (fun c_63 => ?_) (fun c_63 => ?_)
            · refine z_iconst (v := 0) d_X11_fits_70 (by decide) ?_
              exact z_zret _ d_X11_fits_71 rfl (by first | rfl | decide) (Pi.of (b01_f (fun hh => by
      obtain ⟨g1, g2, g3, g4, g5, g6⟩ := okW_iff.mp hh
      obtain ⟨e1, e2, e3, e4, e5, e6⟩ := fit_e g1
      obtain ⟨-, f2, f3, f4, f5, f6, f7⟩ := W_i (w := w) g1 g2
      rw [lt_i, i_0] at c_1
      simp only [b01_0, b01_n0, okC, inB, Bool.and_eq_false_iff, Bool.and_eq_true, decide_eq_true_eq, decide_eq_false_iff_not, e2, e3] at c_11
      rw [lt_i, i_1, e1] at c_19
      simp only [b01_0, b01_n0, okC, inB, Bool.and_eq_false_iff, Bool.and_eq_true, decide_eq_true_eq, decide_eq_false_iff_not, e2, e3] at c_29
      rw [eq_i, e1, i_0] at c_43
      rw [lt_i, i_5, f7] at c_63
      clear e4 e5 e6
      split at g6 <;> omega)))
            · refine z_iconst (v := 1) d_X11_fits_66 (by decide) ?_
              refine z_goto d_X11_fits_67 ?_
              exact z_zret _ d_X11_fits_71 rfl (by first | rfl | decide) (Pi.of (b01_t (okW_iff.mpr (by
      have h0 : 0 ≤ w.toInt := by rw [lt_i, i_0] at c_1; omega
      obtain ⟨e1, e2, e3, e4, e5, e6⟩ := fit_e h0
      simp only [b01_n0, okC, Bool.and_eq_true, decide_eq_true_eq, inB_iff, e3, e2] at c_11 c_29
      rw [lt_i, i_1, e1] at c_19
      have h1 : w.toInt < 2500 := by omega
      obtain ⟨-, f2, f3, f4, f5, f6, f7⟩ := W_i (w := w) h0 h1
      simp only [eq_i, lt_i, i_0, i_5, e1, f6, f7] at *
      refine ⟨by omega, by omega, by omega, by omega, by omega, ?_⟩
      split <;> omega))))
          · refine z_iload_n d_X11_fits_46 0 rfl ?_
            refine z_iconst (v := 5) d_X11_fits_47 (by decide) ?_
            refine z_irm d_X11_fits_48 (by decide) ?_
            refine z_goto d_X11_fits_49 ?_
            refine z_istore_n [(2, .int (irm (w / 100) 5)), (1, .int (w / 100)), (0, .int w)] d_X11_fits_55 (by decide) rfl ?_
            refine z_iload_n d_X11_fits_56 0 rfl ?_
            refine z_iload_n d_X11_fits_57 2 rfl ?_
            refine z_callSp c_X11_289 (t_X11_longOf G w ws) rfl rfl (Nat.le_of_ble_eq_true rfl) rfl d_X11_fits_58 ?_
            refine z_iadd d_X11_fits_61 ?_
            refine z_iconst (v := 5) d_X11_fits_62 (by decide) ?_
            refine z_icmp_gt d_X11_fits_63 (fun c_63 => ?_) (fun c_63 => ?_)
            · refine z_iconst (v := 0) d_X11_fits_70 (by decide) ?_
              exact z_zret _ d_X11_fits_71 rfl (by first | rfl | decide) (Pi.of (b01_f (fun hh => by
      obtain ⟨g1, g2, g3, g4, g5, g6⟩ := okW_iff.mp hh
      obtain ⟨e1, e2, e3, e4, e5, e6⟩ := fit_e g1
      obtain ⟨-, f2, f3, f4, f5, f6, f7⟩ := W_i (w := w) g1 g2
      rw [lt_i, i_0] at c_1
      simp only [b01_0, b01_n0, okC, inB, Bool.and_eq_false_iff, Bool.and_eq_true, decide_eq_true_eq, decide_eq_false_iff_not, e2, e3] at c_11
      rw [lt_i, i_1, e1] at c_19
      simp only [b01_0, b01_n0, okC, inB, Bool.and_eq_false_iff, Bool.and_eq_true, decide_eq_true_eq, decide_eq_false_iff_not, e2, e3] at c_29
      rw [eq_i, e1, i_0] at c_43
      rw [lt_i, i_5, f6] at c_63
      clear e4 e5 e6
      split at g6 <;> omega)))
            · refine z_iconst (v := 1) d_X11_fits_66 (by decide) ?_
              refine z_goto d_X11_fits_67 ?_
              exact z_zret _ d_X11_fits_71 rfl (by first | rfl | decide) (Pi.of (b01_t (okW_iff.mpr (by
      have h0 : 0 ≤ w.toInt := by rw [lt_i, i_0] at c_1; omega
      obtain ⟨e1, e2, e3, e4, e5, e6⟩ := fit_e h0
      simp only [b01_n0, okC, Bool.and_eq_true, decide_eq_true_eq, inB_iff, e3, e2] at c_11 c_29
      rw [lt_i, i_1, e1] at c_19
      have h1 : w.toInt < 2500 := by omega
      obtain ⟨-, f2, f3, f4, f5, f6, f7⟩ := W_i (w := w) h0 h1
      simp only [eq_i, lt_i, i_0, i_5, e1, f6, f7] at *
      refine ⟨by omega, by omega, by omega, by omega, by omega, ?_⟩
      split <;> omega))))
        · refine z_iconst (v := 0) d_X11_fits_32 (by decide) ?_
          exact z_zret _ d_X11_fits_33 rfl (by first | rfl | decide) (Pi.of (b01_f (fun hh => by
      obtain ⟨g1, g2, g3, g4, g5, g6⟩ := okW_iff.mp hh
      obtain ⟨e1, e2, e3, e4, e5, e6⟩ := fit_e g1
      obtain ⟨-, f2, f3, f4, f5, f6, f7⟩ := W_i (w := w) g1 g2
      rw [lt_i, i_0] at c_1
      simp only [b01_0, b01_n0, okC, inB, Bool.and_eq_false_iff, Bool.and_eq_true, decide_eq_true_eq, decide_eq_false_iff_not, e2, e3] at c_11
      rw [lt_i, i_1, e1] at c_19
      simp only [b01_0, b01_n0, okC, inB, Bool.and_eq_false_iff, Bool.and_eq_true, decide_eq_true_eq, decide_eq_false_iff_not, e2, e3] at c_29
      clear e4 e5 e6
      split at g6 <;> omega)))
set_option maxHeartbeats 4000000 in
set_option maxRecDepth 100000 in
theorem t_X11_isKnot (G : GT) (kd nu : Int32) (ws : va_W)  : Ct G mX11_isKnot 0 0 0 [.int kd, .int nu] ws (Pi (b01 (inB kd 0 5 && inB nu 0 9)) ws) := by
  refine Ct.intro [(0, .int kd), (1, .int nu)] (by decide) rfl (Nat.le_of_ble_eq_true rfl) ?_
  refine z_iload_n d_X11_isKnot_0 0 rfl ?_
  refine z_if_lt d_X11_isKnot_1 (fun c_1 => ?_) (fun c_1 => ?_)
  · refine z_iconst (v := 0) d_X11_isKnot_24 (by decide) ?_
    exact z_zret _ d_X11_isKnot_25 rfl (by first | rfl | decide) (Pi.of (b01_f (by simp only [lt_i, i_0, i_1, i_5, i_10, l_25, l_6, l_4, l_3, l_999, l_99, l_40, l_16] at *; simp only [okC, Bool.and_eq_true, Bool.or_eq_true, decide_eq_true_eq, inB_iff]; omega)))
  · refine z_iload_n d_X11_isKnot_4 0 rfl ?_
    refine z_bipush (v := 6) d_X11_isKnot_5 (by decide) ?_
    refine z_icmp_ge d_X11_isKnot_7 (fun c_7 => ?_) (fun c_7 => ?_)
    · refine z_iconst (v := 0) d_X11_isKnot_24 (by decide) ?_
      exact z_zret _ d_X11_isKnot_25 rfl (by first | rfl | decide) (Pi.of (b01_f (by simp only [lt_i, i_0, i_1, i_5, i_10, l_25, l_6, l_4, l_3, l_999, l_99, l_40, l_16] at *; simp only [okC, Bool.and_eq_true, Bool.or_eq_true, decide_eq_true_eq, inB_iff]; omega)))
    · refine z_iload_n d_X11_isKnot_10 1 rfl ?_
      refine z_if_lt d_X11_isKnot_11 (fun c_11 => ?_) (fun c_11 => ?_)
      · refine z_iconst (v := 0) d_X11_isKnot_24 (by decide) ?_
        exact z_zret _ d_X11_isKnot_25 rfl (by first | rfl | decide) (Pi.of (b01_f (by simp only [lt_i, i_0, i_1, i_5, i_10, l_25, l_6, l_4, l_3, l_999, l_99, l_40, l_16] at *; simp only [okC, Bool.and_eq_true, Bool.or_eq_true, decide_eq_true_eq, inB_iff]; omega)))
      · refine z_iload_n d_X11_isKnot_14 1 rfl ?_
        refine z_bipush (v := 10) d_X11_isKnot_15 (by decide) ?_
        refine z_icmp_ge d_X11_isKnot_17 (fun c_17 => ?_) (fun c_17 => ?_)
        · refine z_iconst (v := 0) d_X11_isKnot_24 (by decide) ?_
          exact z_zret _ d_X11_isKnot_25 rfl (by first | rfl | decide) (Pi.of (b01_f (by simp only [lt_i, i_0, i_1, i_5, i_10, l_25, l_6, l_4, l_3, l_999, l_99, l_40, l_16] at *; simp only [okC, Bool.and_eq_true, Bool.or_eq_true, decide_eq_true_eq, inB_iff]; omega)))
        · refine z_iconst (v := 1) d_X11_isKnot_20 (by decide) ?_
          refine z_goto d_X11_isKnot_21 ?_
          exact z_zret _ d_X11_isKnot_25 rfl (by first | rfl | decide) (Pi.of (b01_t (by simp only [lt_i, i_0, i_1, i_5, i_10, l_25, l_6, l_4, l_3, l_999, l_99, l_40, l_16] at *; simp only [okC, Bool.and_eq_true, Bool.or_eq_true, decide_eq_true_eq, inB_iff]; omega)))
set_option maxHeartbeats 4000000 in
set_option maxRecDepth 100000 in
theorem t_X11_isPull (G : GT) (cr sg : Int32) (ws : va_W)  : Ct G mX11_isPull 1 0 0 [.int cr, .int sg] ws (Pi (b01 (puP cr sg)) ws) := by
  refine Ct.intro [(0, .int cr), (1, .int sg)] (by decide) rfl (Nat.le_of_ble_eq_true rfl) ?_
  refine z_iload_n d_X11_isPull_0 0 rfl ?_
  refine z_callSp c_X11_149 (t_X11_isCrossing G cr ws) rfl rfl (Nat.le_of_ble_eq_true rfl) rfl d_X11_isPull_1 ?_
  refine z_if_eq d_X11_isPull_4 (fun c_4 => ?_) (fun c_4 => ?_)
  · refine z_iconst (v := 0) d_X11_isPull_23 (by decide) ?_
    exact z_zret _ d_X11_isPull_24 rfl (by first | rfl | decide) (Pi.of (b01_f (by simp only [b01_0, b01_n0, lt_i, i_0, i_1, i_5, i_10, l_25, l_6, l_4, l_3, l_999, l_99, l_40, l_16] at *; simp only [puP, Bool.and_eq_true, inB_iff]; rintro ⟨h1, h2, h3⟩; first | exact absurd (h1.symm.trans c_4) (by decide) | omega)))
  · refine z_iload_n d_X11_isPull_7 1 rfl ?_
    refine z_iconst (v := 1) d_X11_isPull_8 (by decide) ?_
    refine z_icmp_lt d_X11_isPull_9 (fun c_9 => ?_) (fun c_9 => ?_)
    · refine z_iconst (v := 0) d_X11_isPull_23 (by decide) ?_
      exact z_zret _ d_X11_isPull_24 rfl (by first | rfl | decide) (Pi.of (b01_f (by simp only [b01_0, b01_n0, lt_i, i_0, i_1, i_5, i_10, l_25, l_6, l_4, l_3, l_999, l_99, l_40, l_16] at *; simp only [puP, Bool.and_eq_true, inB_iff]; rintro ⟨h1, h2, h3⟩; first | exact absurd (h1.symm.trans c_4) (by decide) | omega)))
    · refine z_iload_n d_X11_isPull_12 1 rfl ?_
      refine z_sipush (v := 999) d_X11_isPull_13 (by decide) ?_
      refine z_icmp_gt d_X11_isPull_16 (fun c_16 => ?_) (fun c_16 => ?_)
      · refine z_iconst (v := 0) d_X11_isPull_23 (by decide) ?_
        exact z_zret _ d_X11_isPull_24 rfl (by first | rfl | decide) (Pi.of (b01_f (by simp only [b01_0, b01_n0, lt_i, i_0, i_1, i_5, i_10, l_25, l_6, l_4, l_3, l_999, l_99, l_40, l_16] at *; simp only [puP, Bool.and_eq_true, inB_iff]; rintro ⟨h1, h2, h3⟩; first | exact absurd (h1.symm.trans c_4) (by decide) | omega)))
      · refine z_iconst (v := 1) d_X11_isPull_19 (by decide) ?_
        refine z_goto d_X11_isPull_20 ?_
        exact z_zret _ d_X11_isPull_24 rfl (by first | rfl | decide) (Pi.of (b01_t (by simp only [b01_0, b01_n0, lt_i, i_0, i_1, i_5, i_10, l_25, l_6, l_4, l_3, l_999, l_99, l_40, l_16] at *; simp only [puP, Bool.and_eq_true, inB_iff]; exact ⟨by simpa using c_4, by omega, by omega⟩)))
def okX (kd wh nu : Int32) : Bool := (inB kd 0 5 && inB nu 0 9) && okW wh
set_option maxHeartbeats 4000000 in
set_option maxRecDepth 100000 in
theorem t_X11_canBeLaid (G : GT) (kd wh nu : Int32) (ws : va_W)  : Ct G mX11_canBeLaid 2 0 0 [.int kd, .int wh, .int nu] ws (Pi (b01 (okX kd wh nu)) ws) := by
  refine Ct.intro [(0, .int kd), (1, .int wh), (2, .int nu)] (by decide) rfl (Nat.le_of_ble_eq_true rfl) ?_
  refine z_iload_n d_X11_canBeLaid_0 0 rfl ?_
  refine z_iload_n d_X11_canBeLaid_1 2 rfl ?_
  refine z_callSp c_X11_210 (t_X11_isKnot G kd nu ws) rfl rfl (Nat.le_of_ble_eq_true rfl) rfl d_X11_canBeLaid_2 ?_
  refine z_if_eq d_X11_canBeLaid_5 (fun c_5 => ?_) (fun c_5 => ?_)
  · refine z_iconst (v := 0) d_X11_canBeLaid_19 (by decide) ?_
    exact z_zret _ d_X11_canBeLaid_20 rfl (by first | rfl | decide) (Pi.of (by simp only [b01_0, b01_n0] at *; simp [okX, b01, *]))
  · refine z_iload_n d_X11_canBeLaid_8 1 rfl ?_
    refine z_callSp c_X11_190 (t_X11_fits G wh ws) rfl rfl (Nat.le_of_ble_eq_true rfl) rfl d_X11_canBeLaid_9 ?_
    refine z_if_eq d_X11_canBeLaid_12 (fun c_12 => ?_) (fun c_12 => ?_)
    · refine z_iconst (v := 0) d_X11_canBeLaid_19 (by decide) ?_
      exact z_zret _ d_X11_canBeLaid_20 rfl (by first | rfl | decide) (Pi.of (by simp only [b01_0, b01_n0] at *; simp [okX, b01, *]))
    · refine z_iconst (v := 1) d_X11_canBeLaid_15 (by decide) ?_
      refine z_goto d_X11_canBeLaid_16 ?_
      exact z_zret _ d_X11_canBeLaid_20 rfl (by first | rfl | decide) (Pi.of (by simp only [b01_0, b01_n0] at *; simp [okX, b01, *]))
set_option maxHeartbeats 4000000 in
set_option maxRecDepth 100000 in
theorem t_X11_placeOf (G : GT) (k : Nat) (many : Int32) (ws : va_W)  : Ct G mX11_placeOf 0 0 0 [.int (nI k), .int many] ws (Pi (whS k many) ws) := by
  refine Ct.intro [(0, .int (nI k)), (1, .int many)] (by decide) rfl (Nat.le_of_ble_eq_true rfl) ?_
  refine z_bipush (v := 100) d_X11_placeOf_0 (by decide) ?_
  refine z_iload_n d_X11_placeOf_2 0 rfl ?_
  refine z_iconst (v := 2) d_X11_placeOf_3 (by decide) ?_
  refine z_idiv d_X11_placeOf_4 (by decide) ?_
  refine z_imul d_X11_placeOf_5 ?_
  refine z_bipush (v := 10) d_X11_placeOf_6 (by decide) ?_
  refine z_iload_n d_X11_placeOf_8 0 rfl ?_
  refine z_iconst (v := 2) d_X11_placeOf_9 (by decide) ?_
  refine z_irm d_X11_placeOf_10 (by decide) ?_
  refine z_imul d_X11_placeOf_11 ?_
  refine z_iadd d_X11_placeOf_12 ?_
  refine z_iload_n d_X11_placeOf_13 1 rfl ?_
  refine z_iadd d_X11_placeOf_14 ?_
  exact z_iret _ d_X11_placeOf_15 rfl (Pi.of rfl)
theorem sb_d {x : Int32} {k : Nat} (hk : k < 32) : decide (x >>> (nI k &&& 31) &&& 1 = 1) = bt x k := by
  cases hb : bt x k
  · rw [decide_eq_false]; rw [sb1 hk, hb]; decide
  · rw [decide_eq_true]; rw [sb1 hk, hb]
/-- a place that fits: its first crossing, step, how long -/
def WP (w : Int32) (c st lg : Nat) : Prop := c < 25 ∧ 1 ≤ lg ∧ lg ≤ 5 ∧ (st = 1 ∨ st = 5) ∧ (∀ i, i < lg → c + i * st < 25) ∧ w / 100 = nI c ∧ irm w 10 = nI lg ∧ stX w = nI st ∧ stW w = nI st ∧ w = nI (100 * c + 10 * (if st = 1 then 0 else 1) + lg)
theorem okW_WP {w : Int32} (h : okW w = true) : ∃ c st lg, WP w c st lg := by
  obtain ⟨g1, g2, g3, g4, g5, g6⟩ := okW_iff.mp h
  obtain ⟨e1, e2, e3, e4, e5, e6⟩ := fit_e g1
  obtain ⟨f1, -⟩ := W_i (w := w) g1 g2
  have hs : stW w = nI (if w.toInt % 100 / 10 = 0 then 1 else 5) := by
    unfold stW
    by_cases hz : w.toInt % 100 / 10 = 0
    · rw [if_pos hz, if_pos (by rw [eq_i, f1, i_0]; exact hz)]; rfl
    · rw [if_neg hz, if_neg (by rw [eq_i, f1, i_0]; exact hz)]; rfl
  have hw : w = nI w.toInt.toNat := eq_nI (by omega)
  refine ⟨(w.toInt / 100).toNat, if w.toInt % 100 / 10 = 0 then 1 else 5, (w.toInt % 10).toNat, by omega, by omega, by omega, by split <;> simp, ?_, eq_nI (by rw [e3]; omega), eq_nI (by rw [e2]; omega), by rw [e6]; exact hs, hs, ?_⟩
  · intro i hi
    by_cases hz : w.toInt % 100 / 10 = 0
    · rw [if_pos hz] at g6 ⊢
      omega
    · rw [if_neg hz] at g6 ⊢
      omega
  · conv => lhs; rw [hw]
    congr 1
    by_cases hz : w.toInt % 100 / 10 = 0
    · simp only [hz, ↓reduceIte]; omega
    · simp only [hz, ↓reduceIte]
      rw [if_neg (by decide)]; omega
/-- a strip as it was made -/
def stK (tl : va_W) (z : Option Nat) (k n : Int32) : Prop := ∃ a q : Nat, z = some a ∧ tl[q]? = some (a, .inr (kdC k, [.int n]))
/-- a net against the reference's state -/
def NtR (I : Nat → Int32) (A : Nat → Nat → Int32) (al ho gr : Int32) (wh la ly : Nat → Int32) (kn : Nat → Option Nat) (tl : va_W) : Prop :=
  al = I 12 ∧ ho = I 13 ∧ gr = I 14 ∧ S16 (I 12) ∧ (∀ s, s < 16 → wh s = A 8 s ∧ la s = A 10 s ∧ (bt (I 12) s = false → kn s = none) ∧ (bt (I 12) s = true → stK tl (kn s) (A 7 s) (A 9 s) ∧ kOk (A 7 s) ∧ (0 ≤ (A 9 s).toInt ∧ (A 9 s).toInt ≤ 9) ∧ okW (A 8 s) = true ∧ A 11 s = cvS (A 8 s))) ∧ ∀ c, c < 25 → ly c = atS A (nI c) (I 12)
theorem isS_bt {I : Nat → Int32} {k : Nat} (hk : k < 16) : isS I (nI k) = bt (I 12) k := by
  rw [isS_nI hk]
  cases h : bt (I 12) k
  · rw [decide_eq_false]; rw [sb1 (by omega), h]; decide
  · rw [decide_eq_true]; rw [sb1 (by omega), h]
theorem at_or (A : Nat → Nat → Int32) (c set : Int32) : atS A c set = orS (onF A c set) 16 := rfl
theorem at_bt {A : Nat → Nat → Int32} {c i : Nat} {set : Int32} (hc : c < 25) (hi : i < 32) : bt (atS A (nI c) set) i = (decide (i < 16) && (bt set i && bt (A 11 i) c)) := by
  rw [at_or, orS_bt _ 16 (by decide) i hi]
  by_cases h : i < 16
  · rw [decide_eq_true h]
    congr 1
    unfold onF
    rw [show decide (set >>> (nI i &&& 31) &&& 1 = 1) = bt set i from sb_d (by omega), show decide (A 11 i >>> (nI c &&& 31) &&& 1 = 1) = bt (A 11 i) c from sb_d (by omega)]
  · rw [decide_eq_false h]; rfl
