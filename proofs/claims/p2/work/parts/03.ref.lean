def WM (cI cZ cB : ClassId) (a : Nat → Nat) (u : RS) : va_W := [(a 45, .inr (10, [.int (u.1 0), .ref (a 1), .int (u.1 2), .int (u.1 3), .int (u.1 4), .ref (a 5), .ref (a 6), .ref (a 7), .ref (a 8), .ref (a 9), .ref (a 10), .ref (a 11), .ref (a 12), .ref (a 13), .ref (a 14), .ref (a 15), .ref (a 16), .int (u.1 17), .int (u.1 18), .int (u.1 19), .ref (a 20), .ref (a 21), .ref (a 22), .ref (a 23), .int (u.1 24), .int (u.1 25), .int (u.1 26), .int (u.1 27), .int (u.1 28), .int (u.1 29), .long u.2.1, .ref (a 31), .ref (a 32), .ref (a 33), .ref (a 34), .ref (a 35), .ref (a 36), .ref (a 37), .ref (a 38), .ref (a 39), .int (u.1 40), .ref (a 41), .ref (a 42), .ref (a 43), .int (u.1 44)])), (a 1, .inl (cB, 440, .inl (u.2.2 1))), (a 5, .inl (cI, 8, .inl (u.2.2 5))), (a 6, .inl (cI, 8, .inl (u.2.2 6))), (a 7, .inl (cI, 8, .inl (u.2.2 7))), (a 8, .inl (cI, 8, .inl (u.2.2 8))), (a 9, .inl (cI, 8, .inl (u.2.2 9))), (a 10, .inl (cI, 8, .inl (u.2.2 10))), (a 11, .inl (cI, 8, .inl (u.2.2 11))), (a 12, .inl (cI, 8, .inl (u.2.2 12))), (a 13, .inl (cI, 8, .inl (u.2.2 13))), (a 14, .inl (cI, 8, .inl (u.2.2 14))), (a 15, .inl (cI, 8, .inl (u.2.2 15))), (a 16, .inl (cI, 25, .inl (u.2.2 16))), (a 20, .inl (cI, 192, .inl (u.2.2 20))), (a 21, .inl (cI, 192, .inl (u.2.2 21))), (a 22, .inl (cI, 16, .inl (u.2.2 22))), (a 23, .inl (cZ, 8, .inl (u.2.2 23))), (a 31, .inl (cI, 40, .inl (u.2.2 31))), (a 32, .inl (cI, 40, .inl (u.2.2 32))), (a 33, .inl (cI, 40, .inl (u.2.2 33))), (a 34, .inl (cI, 40, .inl (u.2.2 34))), (a 35, .inl (cI, 40, .inl (u.2.2 35))), (a 36, .inl (cI, 40, .inl (u.2.2 36))), (a 37, .inl (cI, 40, .inl (u.2.2 37))), (a 38, .inl (cI, 320, .inl (u.2.2 38))), (a 39, .inl (cZ, 40, .inl (u.2.2 39))), (a 41, .inl (cI, 4, .inl (u.2.2 41))), (a 42, .inl (cI, 4, .inl (u.2.2 42))), (a 43, .inl (cI, 4, .inl (u.2.2 43)))]
theorem WM_g0 (cI cZ cB : ClassId) (a : Nat → Nat) (u : RS) (v : Int32) : (WM cI cZ cB a u).set 0 (a 45, .inr (10, ([.int (u.1 0), .ref (a 1), .int (u.1 2), .int (u.1 3), .int (u.1 4), .ref (a 5), .ref (a 6), .ref (a 7), .ref (a 8), .ref (a 9), .ref (a 10), .ref (a 11), .ref (a 12), .ref (a 13), .ref (a 14), .ref (a 15), .ref (a 16), .int (u.1 17), .int (u.1 18), .int (u.1 19), .ref (a 20), .ref (a 21), .ref (a 22), .ref (a 23), .int (u.1 24), .int (u.1 25), .int (u.1 26), .int (u.1 27), .int (u.1 28), .int (u.1 29), .long u.2.1, .ref (a 31), .ref (a 32), .ref (a 33), .ref (a 34), .ref (a 35), .ref (a 36), .ref (a 37), .ref (a 38), .ref (a 39), .int (u.1 40), .ref (a 41), .ref (a 42), .ref (a 43), .int (u.1 44)] : List Value).set 0 (.int v))) = WM cI cZ cB a (sg u 0 v) := rfl
theorem WM_a1 (cI cZ cB : ClassId) (a : Nat → Nat) (u : RS) (i : Nat) (v : Int32) : (WM cI cZ cB a u).set 1 (a 1, .inl (cB, 440, .inl (upd (u.2.2 1) i v))) = WM cI cZ cB a (sa u 1 i v) := rfl
theorem WM_g2 (cI cZ cB : ClassId) (a : Nat → Nat) (u : RS) (v : Int32) : (WM cI cZ cB a u).set 0 (a 45, .inr (10, ([.int (u.1 0), .ref (a 1), .int (u.1 2), .int (u.1 3), .int (u.1 4), .ref (a 5), .ref (a 6), .ref (a 7), .ref (a 8), .ref (a 9), .ref (a 10), .ref (a 11), .ref (a 12), .ref (a 13), .ref (a 14), .ref (a 15), .ref (a 16), .int (u.1 17), .int (u.1 18), .int (u.1 19), .ref (a 20), .ref (a 21), .ref (a 22), .ref (a 23), .int (u.1 24), .int (u.1 25), .int (u.1 26), .int (u.1 27), .int (u.1 28), .int (u.1 29), .long u.2.1, .ref (a 31), .ref (a 32), .ref (a 33), .ref (a 34), .ref (a 35), .ref (a 36), .ref (a 37), .ref (a 38), .ref (a 39), .int (u.1 40), .ref (a 41), .ref (a 42), .ref (a 43), .int (u.1 44)] : List Value).set 2 (.int v))) = WM cI cZ cB a (sg u 2 v) := rfl
theorem WM_g3 (cI cZ cB : ClassId) (a : Nat → Nat) (u : RS) (v : Int32) : (WM cI cZ cB a u).set 0 (a 45, .inr (10, ([.int (u.1 0), .ref (a 1), .int (u.1 2), .int (u.1 3), .int (u.1 4), .ref (a 5), .ref (a 6), .ref (a 7), .ref (a 8), .ref (a 9), .ref (a 10), .ref (a 11), .ref (a 12), .ref (a 13), .ref (a 14), .ref (a 15), .ref (a 16), .int (u.1 17), .int (u.1 18), .int (u.1 19), .ref (a 20), .ref (a 21), .ref (a 22), .ref (a 23), .int (u.1 24), .int (u.1 25), .int (u.1 26), .int (u.1 27), .int (u.1 28), .int (u.1 29), .long u.2.1, .ref (a 31), .ref (a 32), .ref (a 33), .ref (a 34), .ref (a 35), .ref (a 36), .ref (a 37), .ref (a 38), .ref (a 39), .int (u.1 40), .ref (a 41), .ref (a 42), .ref (a 43), .int (u.1 44)] : List Value).set 3 (.int v))) = WM cI cZ cB a (sg u 3 v) := rfl
theorem WM_g4 (cI cZ cB : ClassId) (a : Nat → Nat) (u : RS) (v : Int32) : (WM cI cZ cB a u).set 0 (a 45, .inr (10, ([.int (u.1 0), .ref (a 1), .int (u.1 2), .int (u.1 3), .int (u.1 4), .ref (a 5), .ref (a 6), .ref (a 7), .ref (a 8), .ref (a 9), .ref (a 10), .ref (a 11), .ref (a 12), .ref (a 13), .ref (a 14), .ref (a 15), .ref (a 16), .int (u.1 17), .int (u.1 18), .int (u.1 19), .ref (a 20), .ref (a 21), .ref (a 22), .ref (a 23), .int (u.1 24), .int (u.1 25), .int (u.1 26), .int (u.1 27), .int (u.1 28), .int (u.1 29), .long u.2.1, .ref (a 31), .ref (a 32), .ref (a 33), .ref (a 34), .ref (a 35), .ref (a 36), .ref (a 37), .ref (a 38), .ref (a 39), .int (u.1 40), .ref (a 41), .ref (a 42), .ref (a 43), .int (u.1 44)] : List Value).set 4 (.int v))) = WM cI cZ cB a (sg u 4 v) := rfl
theorem WM_a5 (cI cZ cB : ClassId) (a : Nat → Nat) (u : RS) (i : Nat) (v : Int32) : (WM cI cZ cB a u).set 2 (a 5, .inl (cI, 8, .inl (upd (u.2.2 5) i v))) = WM cI cZ cB a (sa u 5 i v) := rfl
theorem WM_a6 (cI cZ cB : ClassId) (a : Nat → Nat) (u : RS) (i : Nat) (v : Int32) : (WM cI cZ cB a u).set 3 (a 6, .inl (cI, 8, .inl (upd (u.2.2 6) i v))) = WM cI cZ cB a (sa u 6 i v) := rfl
theorem WM_a7 (cI cZ cB : ClassId) (a : Nat → Nat) (u : RS) (i : Nat) (v : Int32) : (WM cI cZ cB a u).set 4 (a 7, .inl (cI, 8, .inl (upd (u.2.2 7) i v))) = WM cI cZ cB a (sa u 7 i v) := rfl
theorem WM_a8 (cI cZ cB : ClassId) (a : Nat → Nat) (u : RS) (i : Nat) (v : Int32) : (WM cI cZ cB a u).set 5 (a 8, .inl (cI, 8, .inl (upd (u.2.2 8) i v))) = WM cI cZ cB a (sa u 8 i v) := rfl
theorem WM_a9 (cI cZ cB : ClassId) (a : Nat → Nat) (u : RS) (i : Nat) (v : Int32) : (WM cI cZ cB a u).set 6 (a 9, .inl (cI, 8, .inl (upd (u.2.2 9) i v))) = WM cI cZ cB a (sa u 9 i v) := rfl
theorem WM_a10 (cI cZ cB : ClassId) (a : Nat → Nat) (u : RS) (i : Nat) (v : Int32) : (WM cI cZ cB a u).set 7 (a 10, .inl (cI, 8, .inl (upd (u.2.2 10) i v))) = WM cI cZ cB a (sa u 10 i v) := rfl
theorem WM_a11 (cI cZ cB : ClassId) (a : Nat → Nat) (u : RS) (i : Nat) (v : Int32) : (WM cI cZ cB a u).set 8 (a 11, .inl (cI, 8, .inl (upd (u.2.2 11) i v))) = WM cI cZ cB a (sa u 11 i v) := rfl
theorem WM_a12 (cI cZ cB : ClassId) (a : Nat → Nat) (u : RS) (i : Nat) (v : Int32) : (WM cI cZ cB a u).set 9 (a 12, .inl (cI, 8, .inl (upd (u.2.2 12) i v))) = WM cI cZ cB a (sa u 12 i v) := rfl
theorem WM_a13 (cI cZ cB : ClassId) (a : Nat → Nat) (u : RS) (i : Nat) (v : Int32) : (WM cI cZ cB a u).set 10 (a 13, .inl (cI, 8, .inl (upd (u.2.2 13) i v))) = WM cI cZ cB a (sa u 13 i v) := rfl
theorem WM_a14 (cI cZ cB : ClassId) (a : Nat → Nat) (u : RS) (i : Nat) (v : Int32) : (WM cI cZ cB a u).set 11 (a 14, .inl (cI, 8, .inl (upd (u.2.2 14) i v))) = WM cI cZ cB a (sa u 14 i v) := rfl
theorem WM_a15 (cI cZ cB : ClassId) (a : Nat → Nat) (u : RS) (i : Nat) (v : Int32) : (WM cI cZ cB a u).set 12 (a 15, .inl (cI, 8, .inl (upd (u.2.2 15) i v))) = WM cI cZ cB a (sa u 15 i v) := rfl
theorem WM_a16 (cI cZ cB : ClassId) (a : Nat → Nat) (u : RS) (i : Nat) (v : Int32) : (WM cI cZ cB a u).set 13 (a 16, .inl (cI, 25, .inl (upd (u.2.2 16) i v))) = WM cI cZ cB a (sa u 16 i v) := rfl
theorem WM_g17 (cI cZ cB : ClassId) (a : Nat → Nat) (u : RS) (v : Int32) : (WM cI cZ cB a u).set 0 (a 45, .inr (10, ([.int (u.1 0), .ref (a 1), .int (u.1 2), .int (u.1 3), .int (u.1 4), .ref (a 5), .ref (a 6), .ref (a 7), .ref (a 8), .ref (a 9), .ref (a 10), .ref (a 11), .ref (a 12), .ref (a 13), .ref (a 14), .ref (a 15), .ref (a 16), .int (u.1 17), .int (u.1 18), .int (u.1 19), .ref (a 20), .ref (a 21), .ref (a 22), .ref (a 23), .int (u.1 24), .int (u.1 25), .int (u.1 26), .int (u.1 27), .int (u.1 28), .int (u.1 29), .long u.2.1, .ref (a 31), .ref (a 32), .ref (a 33), .ref (a 34), .ref (a 35), .ref (a 36), .ref (a 37), .ref (a 38), .ref (a 39), .int (u.1 40), .ref (a 41), .ref (a 42), .ref (a 43), .int (u.1 44)] : List Value).set 17 (.int v))) = WM cI cZ cB a (sg u 17 v) := rfl
theorem WM_g18 (cI cZ cB : ClassId) (a : Nat → Nat) (u : RS) (v : Int32) : (WM cI cZ cB a u).set 0 (a 45, .inr (10, ([.int (u.1 0), .ref (a 1), .int (u.1 2), .int (u.1 3), .int (u.1 4), .ref (a 5), .ref (a 6), .ref (a 7), .ref (a 8), .ref (a 9), .ref (a 10), .ref (a 11), .ref (a 12), .ref (a 13), .ref (a 14), .ref (a 15), .ref (a 16), .int (u.1 17), .int (u.1 18), .int (u.1 19), .ref (a 20), .ref (a 21), .ref (a 22), .ref (a 23), .int (u.1 24), .int (u.1 25), .int (u.1 26), .int (u.1 27), .int (u.1 28), .int (u.1 29), .long u.2.1, .ref (a 31), .ref (a 32), .ref (a 33), .ref (a 34), .ref (a 35), .ref (a 36), .ref (a 37), .ref (a 38), .ref (a 39), .int (u.1 40), .ref (a 41), .ref (a 42), .ref (a 43), .int (u.1 44)] : List Value).set 18 (.int v))) = WM cI cZ cB a (sg u 18 v) := rfl
theorem WM_g19 (cI cZ cB : ClassId) (a : Nat → Nat) (u : RS) (v : Int32) : (WM cI cZ cB a u).set 0 (a 45, .inr (10, ([.int (u.1 0), .ref (a 1), .int (u.1 2), .int (u.1 3), .int (u.1 4), .ref (a 5), .ref (a 6), .ref (a 7), .ref (a 8), .ref (a 9), .ref (a 10), .ref (a 11), .ref (a 12), .ref (a 13), .ref (a 14), .ref (a 15), .ref (a 16), .int (u.1 17), .int (u.1 18), .int (u.1 19), .ref (a 20), .ref (a 21), .ref (a 22), .ref (a 23), .int (u.1 24), .int (u.1 25), .int (u.1 26), .int (u.1 27), .int (u.1 28), .int (u.1 29), .long u.2.1, .ref (a 31), .ref (a 32), .ref (a 33), .ref (a 34), .ref (a 35), .ref (a 36), .ref (a 37), .ref (a 38), .ref (a 39), .int (u.1 40), .ref (a 41), .ref (a 42), .ref (a 43), .int (u.1 44)] : List Value).set 19 (.int v))) = WM cI cZ cB a (sg u 19 v) := rfl
theorem WM_a20 (cI cZ cB : ClassId) (a : Nat → Nat) (u : RS) (i : Nat) (v : Int32) : (WM cI cZ cB a u).set 14 (a 20, .inl (cI, 192, .inl (upd (u.2.2 20) i v))) = WM cI cZ cB a (sa u 20 i v) := rfl
theorem WM_a21 (cI cZ cB : ClassId) (a : Nat → Nat) (u : RS) (i : Nat) (v : Int32) : (WM cI cZ cB a u).set 15 (a 21, .inl (cI, 192, .inl (upd (u.2.2 21) i v))) = WM cI cZ cB a (sa u 21 i v) := rfl
theorem WM_a22 (cI cZ cB : ClassId) (a : Nat → Nat) (u : RS) (i : Nat) (v : Int32) : (WM cI cZ cB a u).set 16 (a 22, .inl (cI, 16, .inl (upd (u.2.2 22) i v))) = WM cI cZ cB a (sa u 22 i v) := rfl
theorem WM_a23 (cI cZ cB : ClassId) (a : Nat → Nat) (u : RS) (i : Nat) (v : Int32) : (WM cI cZ cB a u).set 17 (a 23, .inl (cZ, 8, .inl (upd (u.2.2 23) i v))) = WM cI cZ cB a (sa u 23 i v) := rfl
theorem WM_g24 (cI cZ cB : ClassId) (a : Nat → Nat) (u : RS) (v : Int32) : (WM cI cZ cB a u).set 0 (a 45, .inr (10, ([.int (u.1 0), .ref (a 1), .int (u.1 2), .int (u.1 3), .int (u.1 4), .ref (a 5), .ref (a 6), .ref (a 7), .ref (a 8), .ref (a 9), .ref (a 10), .ref (a 11), .ref (a 12), .ref (a 13), .ref (a 14), .ref (a 15), .ref (a 16), .int (u.1 17), .int (u.1 18), .int (u.1 19), .ref (a 20), .ref (a 21), .ref (a 22), .ref (a 23), .int (u.1 24), .int (u.1 25), .int (u.1 26), .int (u.1 27), .int (u.1 28), .int (u.1 29), .long u.2.1, .ref (a 31), .ref (a 32), .ref (a 33), .ref (a 34), .ref (a 35), .ref (a 36), .ref (a 37), .ref (a 38), .ref (a 39), .int (u.1 40), .ref (a 41), .ref (a 42), .ref (a 43), .int (u.1 44)] : List Value).set 24 (.int v))) = WM cI cZ cB a (sg u 24 v) := rfl
theorem WM_g25 (cI cZ cB : ClassId) (a : Nat → Nat) (u : RS) (v : Int32) : (WM cI cZ cB a u).set 0 (a 45, .inr (10, ([.int (u.1 0), .ref (a 1), .int (u.1 2), .int (u.1 3), .int (u.1 4), .ref (a 5), .ref (a 6), .ref (a 7), .ref (a 8), .ref (a 9), .ref (a 10), .ref (a 11), .ref (a 12), .ref (a 13), .ref (a 14), .ref (a 15), .ref (a 16), .int (u.1 17), .int (u.1 18), .int (u.1 19), .ref (a 20), .ref (a 21), .ref (a 22), .ref (a 23), .int (u.1 24), .int (u.1 25), .int (u.1 26), .int (u.1 27), .int (u.1 28), .int (u.1 29), .long u.2.1, .ref (a 31), .ref (a 32), .ref (a 33), .ref (a 34), .ref (a 35), .ref (a 36), .ref (a 37), .ref (a 38), .ref (a 39), .int (u.1 40), .ref (a 41), .ref (a 42), .ref (a 43), .int (u.1 44)] : List Value).set 25 (.int v))) = WM cI cZ cB a (sg u 25 v) := rfl
theorem WM_g26 (cI cZ cB : ClassId) (a : Nat → Nat) (u : RS) (v : Int32) : (WM cI cZ cB a u).set 0 (a 45, .inr (10, ([.int (u.1 0), .ref (a 1), .int (u.1 2), .int (u.1 3), .int (u.1 4), .ref (a 5), .ref (a 6), .ref (a 7), .ref (a 8), .ref (a 9), .ref (a 10), .ref (a 11), .ref (a 12), .ref (a 13), .ref (a 14), .ref (a 15), .ref (a 16), .int (u.1 17), .int (u.1 18), .int (u.1 19), .ref (a 20), .ref (a 21), .ref (a 22), .ref (a 23), .int (u.1 24), .int (u.1 25), .int (u.1 26), .int (u.1 27), .int (u.1 28), .int (u.1 29), .long u.2.1, .ref (a 31), .ref (a 32), .ref (a 33), .ref (a 34), .ref (a 35), .ref (a 36), .ref (a 37), .ref (a 38), .ref (a 39), .int (u.1 40), .ref (a 41), .ref (a 42), .ref (a 43), .int (u.1 44)] : List Value).set 26 (.int v))) = WM cI cZ cB a (sg u 26 v) := rfl
theorem WM_g27 (cI cZ cB : ClassId) (a : Nat → Nat) (u : RS) (v : Int32) : (WM cI cZ cB a u).set 0 (a 45, .inr (10, ([.int (u.1 0), .ref (a 1), .int (u.1 2), .int (u.1 3), .int (u.1 4), .ref (a 5), .ref (a 6), .ref (a 7), .ref (a 8), .ref (a 9), .ref (a 10), .ref (a 11), .ref (a 12), .ref (a 13), .ref (a 14), .ref (a 15), .ref (a 16), .int (u.1 17), .int (u.1 18), .int (u.1 19), .ref (a 20), .ref (a 21), .ref (a 22), .ref (a 23), .int (u.1 24), .int (u.1 25), .int (u.1 26), .int (u.1 27), .int (u.1 28), .int (u.1 29), .long u.2.1, .ref (a 31), .ref (a 32), .ref (a 33), .ref (a 34), .ref (a 35), .ref (a 36), .ref (a 37), .ref (a 38), .ref (a 39), .int (u.1 40), .ref (a 41), .ref (a 42), .ref (a 43), .int (u.1 44)] : List Value).set 27 (.int v))) = WM cI cZ cB a (sg u 27 v) := rfl
theorem WM_g28 (cI cZ cB : ClassId) (a : Nat → Nat) (u : RS) (v : Int32) : (WM cI cZ cB a u).set 0 (a 45, .inr (10, ([.int (u.1 0), .ref (a 1), .int (u.1 2), .int (u.1 3), .int (u.1 4), .ref (a 5), .ref (a 6), .ref (a 7), .ref (a 8), .ref (a 9), .ref (a 10), .ref (a 11), .ref (a 12), .ref (a 13), .ref (a 14), .ref (a 15), .ref (a 16), .int (u.1 17), .int (u.1 18), .int (u.1 19), .ref (a 20), .ref (a 21), .ref (a 22), .ref (a 23), .int (u.1 24), .int (u.1 25), .int (u.1 26), .int (u.1 27), .int (u.1 28), .int (u.1 29), .long u.2.1, .ref (a 31), .ref (a 32), .ref (a 33), .ref (a 34), .ref (a 35), .ref (a 36), .ref (a 37), .ref (a 38), .ref (a 39), .int (u.1 40), .ref (a 41), .ref (a 42), .ref (a 43), .int (u.1 44)] : List Value).set 28 (.int v))) = WM cI cZ cB a (sg u 28 v) := rfl
theorem WM_g29 (cI cZ cB : ClassId) (a : Nat → Nat) (u : RS) (v : Int32) : (WM cI cZ cB a u).set 0 (a 45, .inr (10, ([.int (u.1 0), .ref (a 1), .int (u.1 2), .int (u.1 3), .int (u.1 4), .ref (a 5), .ref (a 6), .ref (a 7), .ref (a 8), .ref (a 9), .ref (a 10), .ref (a 11), .ref (a 12), .ref (a 13), .ref (a 14), .ref (a 15), .ref (a 16), .int (u.1 17), .int (u.1 18), .int (u.1 19), .ref (a 20), .ref (a 21), .ref (a 22), .ref (a 23), .int (u.1 24), .int (u.1 25), .int (u.1 26), .int (u.1 27), .int (u.1 28), .int (u.1 29), .long u.2.1, .ref (a 31), .ref (a 32), .ref (a 33), .ref (a 34), .ref (a 35), .ref (a 36), .ref (a 37), .ref (a 38), .ref (a 39), .int (u.1 40), .ref (a 41), .ref (a 42), .ref (a 43), .int (u.1 44)] : List Value).set 29 (.int v))) = WM cI cZ cB a (sg u 29 v) := rfl
theorem WM_g30 (cI cZ cB : ClassId) (a : Nat → Nat) (u : RS) (v : Int64) : (WM cI cZ cB a u).set 0 (a 45, .inr (10, ([.int (u.1 0), .ref (a 1), .int (u.1 2), .int (u.1 3), .int (u.1 4), .ref (a 5), .ref (a 6), .ref (a 7), .ref (a 8), .ref (a 9), .ref (a 10), .ref (a 11), .ref (a 12), .ref (a 13), .ref (a 14), .ref (a 15), .ref (a 16), .int (u.1 17), .int (u.1 18), .int (u.1 19), .ref (a 20), .ref (a 21), .ref (a 22), .ref (a 23), .int (u.1 24), .int (u.1 25), .int (u.1 26), .int (u.1 27), .int (u.1 28), .int (u.1 29), .long u.2.1, .ref (a 31), .ref (a 32), .ref (a 33), .ref (a 34), .ref (a 35), .ref (a 36), .ref (a 37), .ref (a 38), .ref (a 39), .int (u.1 40), .ref (a 41), .ref (a 42), .ref (a 43), .int (u.1 44)] : List Value).set 30 (.long v))) = WM cI cZ cB a (sw u v) := rfl
theorem WM_a31 (cI cZ cB : ClassId) (a : Nat → Nat) (u : RS) (i : Nat) (v : Int32) : (WM cI cZ cB a u).set 18 (a 31, .inl (cI, 40, .inl (upd (u.2.2 31) i v))) = WM cI cZ cB a (sa u 31 i v) := rfl
theorem WM_a32 (cI cZ cB : ClassId) (a : Nat → Nat) (u : RS) (i : Nat) (v : Int32) : (WM cI cZ cB a u).set 19 (a 32, .inl (cI, 40, .inl (upd (u.2.2 32) i v))) = WM cI cZ cB a (sa u 32 i v) := rfl
theorem WM_a33 (cI cZ cB : ClassId) (a : Nat → Nat) (u : RS) (i : Nat) (v : Int32) : (WM cI cZ cB a u).set 20 (a 33, .inl (cI, 40, .inl (upd (u.2.2 33) i v))) = WM cI cZ cB a (sa u 33 i v) := rfl
theorem WM_a34 (cI cZ cB : ClassId) (a : Nat → Nat) (u : RS) (i : Nat) (v : Int32) : (WM cI cZ cB a u).set 21 (a 34, .inl (cI, 40, .inl (upd (u.2.2 34) i v))) = WM cI cZ cB a (sa u 34 i v) := rfl
theorem WM_a35 (cI cZ cB : ClassId) (a : Nat → Nat) (u : RS) (i : Nat) (v : Int32) : (WM cI cZ cB a u).set 22 (a 35, .inl (cI, 40, .inl (upd (u.2.2 35) i v))) = WM cI cZ cB a (sa u 35 i v) := rfl
theorem WM_a36 (cI cZ cB : ClassId) (a : Nat → Nat) (u : RS) (i : Nat) (v : Int32) : (WM cI cZ cB a u).set 23 (a 36, .inl (cI, 40, .inl (upd (u.2.2 36) i v))) = WM cI cZ cB a (sa u 36 i v) := rfl
theorem WM_a37 (cI cZ cB : ClassId) (a : Nat → Nat) (u : RS) (i : Nat) (v : Int32) : (WM cI cZ cB a u).set 24 (a 37, .inl (cI, 40, .inl (upd (u.2.2 37) i v))) = WM cI cZ cB a (sa u 37 i v) := rfl
theorem WM_a38 (cI cZ cB : ClassId) (a : Nat → Nat) (u : RS) (i : Nat) (v : Int32) : (WM cI cZ cB a u).set 25 (a 38, .inl (cI, 320, .inl (upd (u.2.2 38) i v))) = WM cI cZ cB a (sa u 38 i v) := rfl
theorem WM_a39 (cI cZ cB : ClassId) (a : Nat → Nat) (u : RS) (i : Nat) (v : Int32) : (WM cI cZ cB a u).set 26 (a 39, .inl (cZ, 40, .inl (upd (u.2.2 39) i v))) = WM cI cZ cB a (sa u 39 i v) := rfl
theorem WM_g40 (cI cZ cB : ClassId) (a : Nat → Nat) (u : RS) (v : Int32) : (WM cI cZ cB a u).set 0 (a 45, .inr (10, ([.int (u.1 0), .ref (a 1), .int (u.1 2), .int (u.1 3), .int (u.1 4), .ref (a 5), .ref (a 6), .ref (a 7), .ref (a 8), .ref (a 9), .ref (a 10), .ref (a 11), .ref (a 12), .ref (a 13), .ref (a 14), .ref (a 15), .ref (a 16), .int (u.1 17), .int (u.1 18), .int (u.1 19), .ref (a 20), .ref (a 21), .ref (a 22), .ref (a 23), .int (u.1 24), .int (u.1 25), .int (u.1 26), .int (u.1 27), .int (u.1 28), .int (u.1 29), .long u.2.1, .ref (a 31), .ref (a 32), .ref (a 33), .ref (a 34), .ref (a 35), .ref (a 36), .ref (a 37), .ref (a 38), .ref (a 39), .int (u.1 40), .ref (a 41), .ref (a 42), .ref (a 43), .int (u.1 44)] : List Value).set 40 (.int v))) = WM cI cZ cB a (sg u 40 v) := rfl
theorem WM_a41 (cI cZ cB : ClassId) (a : Nat → Nat) (u : RS) (i : Nat) (v : Int32) : (WM cI cZ cB a u).set 27 (a 41, .inl (cI, 4, .inl (upd (u.2.2 41) i v))) = WM cI cZ cB a (sa u 41 i v) := rfl
theorem WM_a42 (cI cZ cB : ClassId) (a : Nat → Nat) (u : RS) (i : Nat) (v : Int32) : (WM cI cZ cB a u).set 28 (a 42, .inl (cI, 4, .inl (upd (u.2.2 42) i v))) = WM cI cZ cB a (sa u 42 i v) := rfl
theorem WM_a43 (cI cZ cB : ClassId) (a : Nat → Nat) (u : RS) (i : Nat) (v : Int32) : (WM cI cZ cB a u).set 29 (a 43, .inl (cI, 4, .inl (upd (u.2.2 43) i v))) = WM cI cZ cB a (sa u 43 i v) := rfl
theorem WM_g44 (cI cZ cB : ClassId) (a : Nat → Nat) (u : RS) (v : Int32) : (WM cI cZ cB a u).set 0 (a 45, .inr (10, ([.int (u.1 0), .ref (a 1), .int (u.1 2), .int (u.1 3), .int (u.1 4), .ref (a 5), .ref (a 6), .ref (a 7), .ref (a 8), .ref (a 9), .ref (a 10), .ref (a 11), .ref (a 12), .ref (a 13), .ref (a 14), .ref (a 15), .ref (a 16), .int (u.1 17), .int (u.1 18), .int (u.1 19), .ref (a 20), .ref (a 21), .ref (a 22), .ref (a 23), .int (u.1 24), .int (u.1 25), .int (u.1 26), .int (u.1 27), .int (u.1 28), .int (u.1 29), .long u.2.1, .ref (a 31), .ref (a 32), .ref (a 33), .ref (a 34), .ref (a 35), .ref (a 36), .ref (a 37), .ref (a 38), .ref (a 39), .int (u.1 40), .ref (a 41), .ref (a 42), .ref (a 43), .int (u.1 44)] : List Value).set 44 (.int v))) = WM cI cZ cB a (sg u 44 v) := rfl
theorem va_P_eq {D : va_G} {cl : List vw_C} {ws ws2 : va_W} {H : Heap} (e : ws = ws2) (h : va_P D cl ws H) : va_P D cl ws2 H := e ▸ h
theorem va_D_eq {A : Nat → Prop} {ws ws2 : va_W} (e : ws = ws2) (h : va_D A ws) : va_D A ws2 := e ▸ h
def f_isIn (u : RS) (v : Int32) (lo : Int32) (hi : Int32) : Int32 := (if v < lo then 0 else (if hi < v then 0 else 1))
theorem f_isIn_s (u : RS) (v : Int32) (lo : Int32) (hi : Int32) : f_isIn u v lo hi = (if v < lo then 0 else (if hi < v then 0 else 1)) := rfl
set_option maxHeartbeats 400000 in
set_option maxRecDepth 100000 in
theorem m_isIn (l : Launch) (D : va_G) (cI cZ cB cO cJ : ClassId) (a0 sz : Nat) (a : Nat → Nat)  (u : RS) (v : Int32) (lo : Int32) (hi : Int32) : Met l yX9_isIn wsX9_isIn ({ frames := 0, cells := 0, slots := 0, locals := 0 }) (Pcs D cI cZ cB cO cJ a0 [.int v, .int lo, .int hi] (WM cI cZ cB a u) sz) (va_Qi (fun (r : Int32) (_ : Unit) => r = f_isIn u v lo hi) (fun (_ : Unit) t => va_P D vwCl (WM cI cZ cB a u) t.heap ∧ va_D (va_A (WM cI cZ cB a u) sz) (WM cI cZ cB a u)) (va_A (WM cI cZ cB a u) sz)) 0 0 (va_A (WM cI cZ cB a u) sz) := by
  refine Met.ofW (cc := cX9_isIn) (maxL := 3) (ret := (some .boolean)) (by decide) rfl ?_
  intro p e s m args below meth c s₁ B hml hv
  obtain ⟨rfl, hsz, hP, hE, hD0, hZ⟩ := hv
  have hx := B.exec
  have hb := B.bytes
  have hr := B.returns
  have hts := atoms_spec (ws := wsX9_isIn) B.pre
  have hown : s.vm.findClass RX9 = some m.cls := findClass_of_methodNamed B.named
  have hlocks := B.notSynchronized
  subst hsz
  have hD := hD0.self (sz := s.heap.size)
  generalize hAe : va_A (WM cI cZ cB a u) s.heap.size = A at hD hZ ⊢
  have hA : ∀ q : Nat, s.heap.size ≤ q → A q := fun q h => by rw [← hAe]; exact Or.inr h
  clear hAe
  have hS : va_S A s.heap s.heap [] := va_S.rf
  have hP : va_P D vwCl (WM cI cZ cB a u) s.heap := hP
  have hl := lv_entry ([.int v, .int lo, .int hi]) (n := 3) (Nat.le_of_ble_eq_true rfl)
  rw [lg_entry_eq]
  generalize (lg_sl ([.int v, .int lo, .int hi]) ++ List.replicate (3 - (lg_sl ([.int v, .int lo, .int hi])).length) Slot.unset).toArray = ls at hl ⊢
  have hl : lv_has ls 3 [(0, .int v), (1, .int lo), (2, .int hi)] := hl
  have hf := f_isIn_s u v lo hi
  refine lv_iload_n hx hb dX9_isIn_0 rfl (lv_at hl 0 rfl) ?_
  refine lv_iload_n hx hb dX9_isIn_1 rfl (lv_at hl 1 rfl) ?_
  refine lv_icmp_lt (tgt := 14) hx hb dX9_isIn_2 (by decide) (fun c1 => ?_) (fun c1 => ?_)
  · replace hf := hf.trans (if_pos c1)
    refine lv_iconst (v := 0) hx hb dX9_isIn_14 (by decide) ?_
    exact ss_zret () hx hb hr hlocks (by decide) hP hD hS (by rw [hf]) (Nat.le_of_ble_eq_true rfl) (Nat.le_of_ble_eq_true rfl) dX9_isIn_15
  · replace hf := hf.trans (if_neg c1)
    refine lv_iload_n hx hb dX9_isIn_5 rfl (lv_at hl 0 rfl) ?_
    refine lv_iload_n hx hb dX9_isIn_6 rfl (lv_at hl 2 rfl) ?_
    refine lv_icmp_gt (tgt := 14) hx hb dX9_isIn_7 (by decide) (fun c2 => ?_) (fun c2 => ?_)
    · replace hf := hf.trans (if_pos c2)
      refine lv_iconst (v := 0) hx hb dX9_isIn_14 (by decide) ?_
      exact ss_zret () hx hb hr hlocks (by decide) hP hD hS (by rw [hf]) (Nat.le_of_ble_eq_true rfl) (Nat.le_of_ble_eq_true rfl) dX9_isIn_15
    · replace hf := hf.trans (if_neg c2)
      refine lv_iconst (v := 1) hx hb dX9_isIn_10 (by decide) ?_
      refine lv_goto (tgt := 15) hx hb dX9_isIn_11 (by decide) ?_
      exact ss_zret () hx hb hr hlocks (by decide) hP hD hS (by rw [hf]) (Nat.le_of_ble_eq_true rfl) (Nat.le_of_ble_eq_true rfl) dX9_isIn_15
def f_isSmall (u : RS) (ch : Int32) : Int32 := (if ch < 97 then 0 else (if 122 < ch then 0 else 1))
theorem f_isSmall_s (u : RS) (ch : Int32) : f_isSmall u ch = (if ch < 97 then 0 else (if 122 < ch then 0 else 1)) := rfl
set_option maxHeartbeats 400000 in
set_option maxRecDepth 100000 in
theorem m_isSmall (l : Launch) (D : va_G) (cI cZ cB cO cJ : ClassId) (a0 sz : Nat) (a : Nat → Nat)  (u : RS) (ch : Int32) : Met l yX9_isSmall wsX9_isSmall ({ frames := 0, cells := 0, slots := 0, locals := 0 }) (Pcs D cI cZ cB cO cJ a0 [.int ch] (WM cI cZ cB a u) sz) (va_Qi (fun (r : Int32) (_ : Unit) => r = f_isSmall u ch) (fun (_ : Unit) t => va_P D vwCl (WM cI cZ cB a u) t.heap ∧ va_D (va_A (WM cI cZ cB a u) sz) (WM cI cZ cB a u)) (va_A (WM cI cZ cB a u) sz)) 0 0 (va_A (WM cI cZ cB a u) sz) := by
  refine Met.ofW (cc := cX9_isSmall) (maxL := 1) (ret := (some .boolean)) (by decide) rfl ?_
  intro p e s m args below meth c s₁ B hml hv
  obtain ⟨rfl, hsz, hP, hE, hD0, hZ⟩ := hv
  have hx := B.exec
  have hb := B.bytes
  have hr := B.returns
  have hts := atoms_spec (ws := wsX9_isSmall) B.pre
  have hown : s.vm.findClass RX9 = some m.cls := findClass_of_methodNamed B.named
  have hlocks := B.notSynchronized
  subst hsz
  have hD := hD0.self (sz := s.heap.size)
  generalize hAe : va_A (WM cI cZ cB a u) s.heap.size = A at hD hZ ⊢
  have hA : ∀ q : Nat, s.heap.size ≤ q → A q := fun q h => by rw [← hAe]; exact Or.inr h
  clear hAe
  have hS : va_S A s.heap s.heap [] := va_S.rf
  have hP : va_P D vwCl (WM cI cZ cB a u) s.heap := hP
  have hl := lv_entry ([.int ch]) (n := 1) (Nat.le_of_ble_eq_true rfl)
  rw [lg_entry_eq]
  generalize (lg_sl ([.int ch]) ++ List.replicate (1 - (lg_sl ([.int ch])).length) Slot.unset).toArray = ls at hl ⊢
  have hl : lv_has ls 1 [(0, .int ch)] := hl
  have hf := f_isSmall_s u ch
  refine lv_iload_n hx hb dX9_isSmall_0 rfl (lv_at hl 0 rfl) ?_
  refine lv_bipush (v := 97) hx hb dX9_isSmall_1 (by decide) ?_
  refine lv_icmp_lt (tgt := 16) hx hb dX9_isSmall_3 (by decide) (fun c1 => ?_) (fun c1 => ?_)
  · replace hf := hf.trans (if_pos c1)
    refine lv_iconst (v := 0) hx hb dX9_isSmall_16 (by decide) ?_
    exact ss_zret () hx hb hr hlocks (by decide) hP hD hS (by rw [hf]) (Nat.le_of_ble_eq_true rfl) (Nat.le_of_ble_eq_true rfl) dX9_isSmall_17
  · replace hf := hf.trans (if_neg c1)
    refine lv_iload_n hx hb dX9_isSmall_6 rfl (lv_at hl 0 rfl) ?_
    refine lv_bipush (v := 122) hx hb dX9_isSmall_7 (by decide) ?_
    refine lv_icmp_gt (tgt := 16) hx hb dX9_isSmall_9 (by decide) (fun c2 => ?_) (fun c2 => ?_)
    · replace hf := hf.trans (if_pos c2)
      refine lv_iconst (v := 0) hx hb dX9_isSmall_16 (by decide) ?_
      exact ss_zret () hx hb hr hlocks (by decide) hP hD hS (by rw [hf]) (Nat.le_of_ble_eq_true rfl) (Nat.le_of_ble_eq_true rfl) dX9_isSmall_17
    · replace hf := hf.trans (if_neg c2)
      refine lv_iconst (v := 1) hx hb dX9_isSmall_12 (by decide) ?_
      refine lv_goto (tgt := 17) hx hb dX9_isSmall_13 (by decide) ?_
      exact ss_zret () hx hb hr hlocks (by decide) hP hD hS (by rw [hf]) (Nat.le_of_ble_eq_true rfl) (Nat.le_of_ble_eq_true rfl) dX9_isSmall_17
def f_isDigit (u : RS) (ch : Int32) : Int32 := (if ch < 48 then 0 else (if 57 < ch then 0 else 1))
theorem f_isDigit_s (u : RS) (ch : Int32) : f_isDigit u ch = (if ch < 48 then 0 else (if 57 < ch then 0 else 1)) := rfl
set_option maxHeartbeats 400000 in
set_option maxRecDepth 100000 in
theorem m_isDigit (l : Launch) (D : va_G) (cI cZ cB cO cJ : ClassId) (a0 sz : Nat) (a : Nat → Nat)  (u : RS) (ch : Int32) : Met l yX9_isDigit wsX9_isDigit ({ frames := 0, cells := 0, slots := 0, locals := 0 }) (Pcs D cI cZ cB cO cJ a0 [.int ch] (WM cI cZ cB a u) sz) (va_Qi (fun (r : Int32) (_ : Unit) => r = f_isDigit u ch) (fun (_ : Unit) t => va_P D vwCl (WM cI cZ cB a u) t.heap ∧ va_D (va_A (WM cI cZ cB a u) sz) (WM cI cZ cB a u)) (va_A (WM cI cZ cB a u) sz)) 0 0 (va_A (WM cI cZ cB a u) sz) := by
  refine Met.ofW (cc := cX9_isDigit) (maxL := 1) (ret := (some .boolean)) (by decide) rfl ?_
  intro p e s m args below meth c s₁ B hml hv
  obtain ⟨rfl, hsz, hP, hE, hD0, hZ⟩ := hv
  have hx := B.exec
  have hb := B.bytes
  have hr := B.returns
  have hts := atoms_spec (ws := wsX9_isDigit) B.pre
  have hown : s.vm.findClass RX9 = some m.cls := findClass_of_methodNamed B.named
  have hlocks := B.notSynchronized
  subst hsz
  have hD := hD0.self (sz := s.heap.size)
  generalize hAe : va_A (WM cI cZ cB a u) s.heap.size = A at hD hZ ⊢
  have hA : ∀ q : Nat, s.heap.size ≤ q → A q := fun q h => by rw [← hAe]; exact Or.inr h
  clear hAe
  have hS : va_S A s.heap s.heap [] := va_S.rf
  have hP : va_P D vwCl (WM cI cZ cB a u) s.heap := hP
  have hl := lv_entry ([.int ch]) (n := 1) (Nat.le_of_ble_eq_true rfl)
  rw [lg_entry_eq]
  generalize (lg_sl ([.int ch]) ++ List.replicate (1 - (lg_sl ([.int ch])).length) Slot.unset).toArray = ls at hl ⊢
  have hl : lv_has ls 1 [(0, .int ch)] := hl
  have hf := f_isDigit_s u ch
  refine lv_iload_n hx hb dX9_isDigit_0 rfl (lv_at hl 0 rfl) ?_
  refine lv_bipush (v := 48) hx hb dX9_isDigit_1 (by decide) ?_
  refine lv_icmp_lt (tgt := 16) hx hb dX9_isDigit_3 (by decide) (fun c1 => ?_) (fun c1 => ?_)
  · replace hf := hf.trans (if_pos c1)
    refine lv_iconst (v := 0) hx hb dX9_isDigit_16 (by decide) ?_
    exact ss_zret () hx hb hr hlocks (by decide) hP hD hS (by rw [hf]) (Nat.le_of_ble_eq_true rfl) (Nat.le_of_ble_eq_true rfl) dX9_isDigit_17
  · replace hf := hf.trans (if_neg c1)
    refine lv_iload_n hx hb dX9_isDigit_6 rfl (lv_at hl 0 rfl) ?_
    refine lv_bipush (v := 57) hx hb dX9_isDigit_7 (by decide) ?_
    refine lv_icmp_gt (tgt := 16) hx hb dX9_isDigit_9 (by decide) (fun c2 => ?_) (fun c2 => ?_)
    · replace hf := hf.trans (if_pos c2)
      refine lv_iconst (v := 0) hx hb dX9_isDigit_16 (by decide) ?_
      exact ss_zret () hx hb hr hlocks (by decide) hP hD hS (by rw [hf]) (Nat.le_of_ble_eq_true rfl) (Nat.le_of_ble_eq_true rfl) dX9_isDigit_17
    · replace hf := hf.trans (if_neg c2)
      refine lv_iconst (v := 1) hx hb dX9_isDigit_12 (by decide) ?_
      refine lv_goto (tgt := 17) hx hb dX9_isDigit_13 (by decide) ?_
      exact ss_zret () hx hb hr hlocks (by decide) hP hD hS (by rw [hf]) (Nat.le_of_ble_eq_true rfl) (Nat.le_of_ble_eq_true rfl) dX9_isDigit_17
def f_far (u : RS) (x : Int32) (y : Int32) : Int32 := (if y ≤ x then (x - y) else (y - x))
theorem f_far_s (u : RS) (x : Int32) (y : Int32) : f_far u x y = (if y ≤ x then (x - y) else (y - x)) := rfl
set_option maxHeartbeats 400000 in
set_option maxRecDepth 100000 in
theorem m_far (l : Launch) (D : va_G) (cI cZ cB cO cJ : ClassId) (a0 sz : Nat) (a : Nat → Nat)  (u : RS) (x : Int32) (y : Int32) : Met l yX9_far wsX9_far ({ frames := 0, cells := 0, slots := 0, locals := 0 }) (Pcs D cI cZ cB cO cJ a0 [.int x, .int y] (WM cI cZ cB a u) sz) (va_Qi (fun (r : Int32) (_ : Unit) => r = f_far u x y) (fun (_ : Unit) t => va_P D vwCl (WM cI cZ cB a u) t.heap ∧ va_D (va_A (WM cI cZ cB a u) sz) (WM cI cZ cB a u)) (va_A (WM cI cZ cB a u) sz)) 0 0 (va_A (WM cI cZ cB a u) sz) := by
  refine Met.ofW (cc := cX9_far) (maxL := 2) (ret := (some .int)) (by decide) rfl ?_
  intro p e s m args below meth c s₁ B hml hv
  obtain ⟨rfl, hsz, hP, hE, hD0, hZ⟩ := hv
  have hx := B.exec
  have hb := B.bytes
  have hr := B.returns
  have hts := atoms_spec (ws := wsX9_far) B.pre
  have hown : s.vm.findClass RX9 = some m.cls := findClass_of_methodNamed B.named
  have hlocks := B.notSynchronized
  subst hsz
  have hD := hD0.self (sz := s.heap.size)
  generalize hAe : va_A (WM cI cZ cB a u) s.heap.size = A at hD hZ ⊢
  have hA : ∀ q : Nat, s.heap.size ≤ q → A q := fun q h => by rw [← hAe]; exact Or.inr h
  clear hAe
  have hS : va_S A s.heap s.heap [] := va_S.rf
  have hP : va_P D vwCl (WM cI cZ cB a u) s.heap := hP
  have hl := lv_entry ([.int x, .int y]) (n := 2) (Nat.le_of_ble_eq_true rfl)
  rw [lg_entry_eq]
  generalize (lg_sl ([.int x, .int y]) ++ List.replicate (2 - (lg_sl ([.int x, .int y])).length) Slot.unset).toArray = ls at hl ⊢
  have hl : lv_has ls 2 [(0, .int x), (1, .int y)] := hl
  have hf := f_far_s u x y
  refine lv_iload_n hx hb dX9_far_0 rfl (lv_at hl 0 rfl) ?_
  refine lv_iload_n hx hb dX9_far_1 rfl (lv_at hl 1 rfl) ?_
  refine lv_icmp_ge (tgt := 11) hx hb dX9_far_2 (by decide) (fun c1 => ?_) (fun c1 => ?_)
  · replace hf := hf.trans (if_pos c1)
    refine lv_iload_n hx hb dX9_far_11 rfl (lv_at hl 0 rfl) ?_
    refine lv_iload_n hx hb dX9_far_12 rfl (lv_at hl 1 rfl) ?_
    refine lx_isub (v := x - y) hx hb (rfl) dX9_far_13 ?_
    exact ss_iret () hx hb hr hlocks hP hD hS (by rw [hf]) (Nat.le_of_ble_eq_true rfl) (Nat.le_of_ble_eq_true rfl) dX9_far_14
  · replace hf := hf.trans (if_neg c1)
    refine lv_iload_n hx hb dX9_far_5 rfl (lv_at hl 1 rfl) ?_
    refine lv_iload_n hx hb dX9_far_6 rfl (lv_at hl 0 rfl) ?_
    refine lx_isub (v := y - x) hx hb (rfl) dX9_far_7 ?_
    refine lv_goto (tgt := 14) hx hb dX9_far_8 (by decide) ?_
    exact ss_iret () hx hb hr hlocks hP hD hS (by rw [hf]) (Nat.le_of_ble_eq_true rfl) (Nat.le_of_ble_eq_true rfl) dX9_far_14
def f_isBridge (u : RS) (b : Int32) : Int32 := (if b < 0 then 0 else (if u.1 17 ≤ b then 0 else 1))
theorem f_isBridge_s (u : RS) (b : Int32) : f_isBridge u b = (if b < 0 then 0 else (if u.1 17 ≤ b then 0 else 1)) := rfl
theorem im_X9_isBridge_X9 : ∀ w ∈ wsX90, w ∈ wsX9_isBridge := fun _ h => List.mem_cons_of_mem _ (List.mem_append_right _ h)
set_option maxHeartbeats 400000 in
set_option maxRecDepth 100000 in
theorem m_isBridge (l : Launch) (D : va_G) (cI cZ cB cO cJ : ClassId) (a0 sz : Nat) (a : Nat → Nat)  (u : RS) (b : Int32) : Met l yX9_isBridge wsX9_isBridge ({ frames := 0, cells := 0, slots := 0, locals := 0 }) (Pcs D cI cZ cB cO cJ a0 [.ref (a 45), .int b] (WM cI cZ cB a u) sz) (va_Qi (fun (r : Int32) (_ : Unit) => r = f_isBridge u b) (fun (_ : Unit) t => va_P D vwCl (WM cI cZ cB a u) t.heap ∧ va_D (va_A (WM cI cZ cB a u) sz) (WM cI cZ cB a u)) (va_A (WM cI cZ cB a u) sz)) 0 0 (va_A (WM cI cZ cB a u) sz) := by
  refine Met.ofW (cc := cX9_isBridge) (maxL := 2) (ret := (some .boolean)) (by decide) rfl ?_
  intro p e s m args below meth c s₁ B hml hv
  obtain ⟨rfl, hsz, hP, hE, hD0, hZ⟩ := hv
  have hx := B.exec
  have hb := B.bytes
  have hr := B.returns
  have hts := atoms_spec (ws := wsX9_isBridge) B.pre
  have hown : s.vm.findClass RX9 = some m.cls := findClass_of_methodNamed B.named
  have hlocks := B.notSynchronized
  subst hsz
  have hD := hD0.self (sz := s.heap.size)
  generalize hAe : va_A (WM cI cZ cB a u) s.heap.size = A at hD hZ ⊢
  have hA : ∀ q : Nat, s.heap.size ≤ q → A q := fun q h => by rw [← hAe]; exact Or.inr h
  clear hAe
  have hS : va_S A s.heap s.heap [] := va_S.rf
  have hP : va_P D vwCl (WM cI cZ cB a u) s.heap := hP
  have hl := lv_entry ([.ref (a 45), .int b]) (n := 2) (Nat.le_of_ble_eq_true rfl)
  rw [lg_entry_eq]
  generalize (lg_sl ([.ref (a 45), .int b]) ++ List.replicate (2 - (lg_sl ([.ref (a 45), .int b])).length) Slot.unset).toArray = ls at hl ⊢
  have hl : lv_has ls 2 [(0, .ref (a 45)), (1, .int b)] := hl
  have hf := f_isBridge_s u b
  refine lv_iload_n hx hb dX9_isBridge_0 rfl (lv_at hl 1 rfl) ?_
  refine lv_if_lt (tgt := 16) hx hb dX9_isBridge_1 (by decide) (fun c1 => ?_) (fun c1 => ?_)
  · replace hf := hf.trans (if_pos c1)
    refine lv_iconst (v := 0) hx hb dX9_isBridge_16 (by decide) ?_
    exact ss_zret () hx hb hr hlocks (by decide) hP hD hS (by rw [hf]) (Nat.le_of_ble_eq_true rfl) (Nat.le_of_ble_eq_true rfl) dX9_isBridge_17
  · replace hf := hf.trans (if_neg c1)
    refine lv_iload_n hx hb dX9_isBridge_4 rfl (lv_at hl 1 rfl) ?_
    refine lv_aload_n hx hb dX9_isBridge_5 rfl (lv_at hl 0 rfl) ?_
    refine va_get (D := D) (ci := 10) (v := .int (u.1 17)) (C := RX9) (T := TX9) (N := 45) hx hb hts im_X9_isBridge_X9 hown hE.1 hP 0 rfl rfl 17 (by decide) (hts (.fieldLink RX9 119 "RiverBridgesModel" "bridges" "I") (by decide +kernel)) (fun _ h9 => h9) rfl dX9_isBridge_6 ?_
    refine lv_icmp_ge (tgt := 16) hx hb dX9_isBridge_9 (by decide) (fun c2 => ?_) (fun c2 => ?_)
    · replace hf := hf.trans (if_pos c2)
      refine lv_iconst (v := 0) hx hb dX9_isBridge_16 (by decide) ?_
      exact ss_zret () hx hb hr hlocks (by decide) hP hD hS (by rw [hf]) (Nat.le_of_ble_eq_true rfl) (Nat.le_of_ble_eq_true rfl) dX9_isBridge_17
    · replace hf := hf.trans (if_neg c2)
      refine lv_iconst (v := 1) hx hb dX9_isBridge_12 (by decide) ?_
      refine lv_goto (tgt := 17) hx hb dX9_isBridge_13 (by decide) ?_
      exact ss_zret () hx hb hr hlocks (by decide) hP hD hS (by rw [hf]) (Nat.le_of_ble_eq_true rfl) (Nat.le_of_ble_eq_true rfl) dX9_isBridge_17
def f_isShip (u : RS) (b : Int32) : Int32 := (if b < 0 then 0 else (if u.1 40 ≤ b then 0 else 1))
theorem f_isShip_s (u : RS) (b : Int32) : f_isShip u b = (if b < 0 then 0 else (if u.1 40 ≤ b then 0 else 1)) := rfl
theorem im_X9_isShip_X9 : ∀ w ∈ wsX90, w ∈ wsX9_isShip := fun _ h => List.mem_cons_of_mem _ (List.mem_append_right _ h)
set_option maxHeartbeats 400000 in
set_option maxRecDepth 100000 in
theorem m_isShip (l : Launch) (D : va_G) (cI cZ cB cO cJ : ClassId) (a0 sz : Nat) (a : Nat → Nat)  (u : RS) (b : Int32) : Met l yX9_isShip wsX9_isShip ({ frames := 0, cells := 0, slots := 0, locals := 0 }) (Pcs D cI cZ cB cO cJ a0 [.ref (a 45), .int b] (WM cI cZ cB a u) sz) (va_Qi (fun (r : Int32) (_ : Unit) => r = f_isShip u b) (fun (_ : Unit) t => va_P D vwCl (WM cI cZ cB a u) t.heap ∧ va_D (va_A (WM cI cZ cB a u) sz) (WM cI cZ cB a u)) (va_A (WM cI cZ cB a u) sz)) 0 0 (va_A (WM cI cZ cB a u) sz) := by
  refine Met.ofW (cc := cX9_isShip) (maxL := 2) (ret := (some .boolean)) (by decide) rfl ?_
  intro p e s m args below meth c s₁ B hml hv
  obtain ⟨rfl, hsz, hP, hE, hD0, hZ⟩ := hv
  have hx := B.exec
  have hb := B.bytes
  have hr := B.returns
  have hts := atoms_spec (ws := wsX9_isShip) B.pre
  have hown : s.vm.findClass RX9 = some m.cls := findClass_of_methodNamed B.named
  have hlocks := B.notSynchronized
  subst hsz
  have hD := hD0.self (sz := s.heap.size)
  generalize hAe : va_A (WM cI cZ cB a u) s.heap.size = A at hD hZ ⊢
  have hA : ∀ q : Nat, s.heap.size ≤ q → A q := fun q h => by rw [← hAe]; exact Or.inr h
  clear hAe
  have hS : va_S A s.heap s.heap [] := va_S.rf
  have hP : va_P D vwCl (WM cI cZ cB a u) s.heap := hP
  have hl := lv_entry ([.ref (a 45), .int b]) (n := 2) (Nat.le_of_ble_eq_true rfl)
  rw [lg_entry_eq]
  generalize (lg_sl ([.ref (a 45), .int b]) ++ List.replicate (2 - (lg_sl ([.ref (a 45), .int b])).length) Slot.unset).toArray = ls at hl ⊢
  have hl : lv_has ls 2 [(0, .ref (a 45)), (1, .int b)] := hl
  have hf := f_isShip_s u b
  refine lv_iload_n hx hb dX9_isShip_0 rfl (lv_at hl 1 rfl) ?_
  refine lv_if_lt (tgt := 16) hx hb dX9_isShip_1 (by decide) (fun c1 => ?_) (fun c1 => ?_)
  · replace hf := hf.trans (if_pos c1)
    refine lv_iconst (v := 0) hx hb dX9_isShip_16 (by decide) ?_
    exact ss_zret () hx hb hr hlocks (by decide) hP hD hS (by rw [hf]) (Nat.le_of_ble_eq_true rfl) (Nat.le_of_ble_eq_true rfl) dX9_isShip_17
  · replace hf := hf.trans (if_neg c1)
    refine lv_iload_n hx hb dX9_isShip_4 rfl (lv_at hl 1 rfl) ?_
    refine lv_aload_n hx hb dX9_isShip_5 rfl (lv_at hl 0 rfl) ?_
    refine va_get (D := D) (ci := 10) (v := .int (u.1 40)) (C := RX9) (T := TX9) (N := 45) hx hb hts im_X9_isShip_X9 hown hE.1 hP 0 rfl rfl 40 (by decide) (hts (.fieldLink RX9 208 "RiverBridgesModel" "ships" "I") (by decide +kernel)) (fun _ h9 => h9) rfl dX9_isShip_6 ?_
    refine lv_icmp_ge (tgt := 16) hx hb dX9_isShip_9 (by decide) (fun c2 => ?_) (fun c2 => ?_)
    · replace hf := hf.trans (if_pos c2)
      refine lv_iconst (v := 0) hx hb dX9_isShip_16 (by decide) ?_
      exact ss_zret () hx hb hr hlocks (by decide) hP hD hS (by rw [hf]) (Nat.le_of_ble_eq_true rfl) (Nat.le_of_ble_eq_true rfl) dX9_isShip_17
    · replace hf := hf.trans (if_neg c2)
      refine lv_iconst (v := 1) hx hb dX9_isShip_12 (by decide) ?_
      refine lv_goto (tgt := 17) hx hb dX9_isShip_13 (by decide) ?_
      exact ss_zret () hx hb hr hlocks (by decide) hP hD hS (by rw [hf]) (Nat.le_of_ble_eq_true rfl) (Nat.le_of_ble_eq_true rfl) dX9_isShip_17
def f_first (u : RS) (up : Int32) : Int32 := (if up = 0 then ((u.1 17) - 1) else 0)
theorem f_first_s (u : RS) (up : Int32) : f_first u up = (if up = 0 then ((u.1 17) - 1) else 0) := rfl
theorem im_X9_first_X9 : ∀ w ∈ wsX90, w ∈ wsX9_first := fun _ h => List.mem_cons_of_mem _ (List.mem_append_right _ h)
set_option maxHeartbeats 400000 in
set_option maxRecDepth 100000 in
theorem m_first (l : Launch) (D : va_G) (cI cZ cB cO cJ : ClassId) (a0 sz : Nat) (a : Nat → Nat)  (u : RS) (up : Int32) : Met l yX9_first wsX9_first ({ frames := 0, cells := 0, slots := 0, locals := 0 }) (Pcs D cI cZ cB cO cJ a0 [.ref (a 45), .int up] (WM cI cZ cB a u) sz) (va_Qi (fun (r : Int32) (_ : Unit) => r = f_first u up) (fun (_ : Unit) t => va_P D vwCl (WM cI cZ cB a u) t.heap ∧ va_D (va_A (WM cI cZ cB a u) sz) (WM cI cZ cB a u)) (va_A (WM cI cZ cB a u) sz)) 0 0 (va_A (WM cI cZ cB a u) sz) := by
  refine Met.ofW (cc := cX9_first) (maxL := 2) (ret := (some .int)) (by decide) rfl ?_
  intro p e s m args below meth c s₁ B hml hv
  obtain ⟨rfl, hsz, hP, hE, hD0, hZ⟩ := hv
  have hx := B.exec
  have hb := B.bytes
  have hr := B.returns
  have hts := atoms_spec (ws := wsX9_first) B.pre
  have hown : s.vm.findClass RX9 = some m.cls := findClass_of_methodNamed B.named
  have hlocks := B.notSynchronized
  subst hsz
  have hD := hD0.self (sz := s.heap.size)
  generalize hAe : va_A (WM cI cZ cB a u) s.heap.size = A at hD hZ ⊢
  have hA : ∀ q : Nat, s.heap.size ≤ q → A q := fun q h => by rw [← hAe]; exact Or.inr h
  clear hAe
  have hS : va_S A s.heap s.heap [] := va_S.rf
  have hP : va_P D vwCl (WM cI cZ cB a u) s.heap := hP
  have hl := lv_entry ([.ref (a 45), .int up]) (n := 2) (Nat.le_of_ble_eq_true rfl)
  rw [lg_entry_eq]
  generalize (lg_sl ([.ref (a 45), .int up]) ++ List.replicate (2 - (lg_sl ([.ref (a 45), .int up])).length) Slot.unset).toArray = ls at hl ⊢
  have hl : lv_has ls 2 [(0, .ref (a 45)), (1, .int up)] := hl
  have hf := f_first_s u up
  refine lv_iload_n hx hb dX9_first_0 rfl (lv_at hl 1 rfl) ?_
  refine lv_if_eq (tgt := 8) hx hb dX9_first_1 (by decide) (fun c1 => ?_) (fun c1 => ?_)
  · replace hf := hf.trans (if_pos c1)
    refine lv_aload_n hx hb dX9_first_8 rfl (lv_at hl 0 rfl) ?_
    refine va_get (D := D) (ci := 10) (v := .int (u.1 17)) (C := RX9) (T := TX9) (N := 45) hx hb hts im_X9_first_X9 hown hE.1 hP 0 rfl rfl 17 (by decide) (hts (.fieldLink RX9 119 "RiverBridgesModel" "bridges" "I") (by decide +kernel)) (fun _ h9 => h9) rfl dX9_first_9 ?_
    refine lv_iconst (v := 1) hx hb dX9_first_12 (by decide) ?_
    refine lx_isub (v := (u.1 17) - 1) hx hb (rfl) dX9_first_13 ?_
    exact ss_iret () hx hb hr hlocks hP hD hS (by rw [hf]) (Nat.le_of_ble_eq_true rfl) (Nat.le_of_ble_eq_true rfl) dX9_first_14
  · replace hf := hf.trans (if_neg c1)
    refine lv_iconst (v := 0) hx hb dX9_first_4 (by decide) ?_
    refine lv_goto (tgt := 14) hx hb dX9_first_5 (by decide) ?_
    exact ss_iret () hx hb hr hlocks hP hD hS (by rw [hf]) (Nat.le_of_ble_eq_true rfl) (Nat.le_of_ble_eq_true rfl) dX9_first_14
def f_levelAt (u : RS) (tm : Int32) : Int32 := (if tm - tm / 60 * 60 = 0 then (u.2.2 16 ((tm / 60).toNatClampNeg)) else ((u.2.2 16 ((tm / 60).toNatClampNeg)) + ((((u.2.2 16 (((tm / 60) + 1).toNatClampNeg)) - (u.2.2 16 ((tm / 60).toNatClampNeg))) * (tm - tm / 60 * 60)) / 60)))
theorem f_levelAt_s (u : RS) (tm : Int32) : f_levelAt u tm = (if tm - tm / 60 * 60 = 0 then (u.2.2 16 ((tm / 60).toNatClampNeg)) else ((u.2.2 16 ((tm / 60).toNatClampNeg)) + ((((u.2.2 16 (((tm / 60) + 1).toNatClampNeg)) - (u.2.2 16 ((tm / 60).toNatClampNeg))) * (tm - tm / 60 * 60)) / 60))) := rfl
theorem im_X9_levelAt_X9 : ∀ w ∈ wsX90, w ∈ wsX9_levelAt := fun _ h => List.mem_cons_of_mem _ (List.mem_append_right _ h)
set_option maxHeartbeats 400000 in
set_option maxRecDepth 100000 in
theorem m_levelAt (l : Launch) (D : va_G) (cI cZ cB cO cJ : ClassId) (a0 sz : Nat) (a : Nat → Nat)  (u : RS) (tm : Int32) (ht : ixN tm 1441) : Met l yX9_levelAt wsX9_levelAt ({ frames := 0, cells := 0, slots := 0, locals := 0 }) (Pcs D cI cZ cB cO cJ a0 [.ref (a 45), .int tm] (WM cI cZ cB a u) sz) (va_Qi (fun (r : Int32) (_ : Unit) => r = f_levelAt u tm) (fun (_ : Unit) t => va_P D vwCl (WM cI cZ cB a u) t.heap ∧ va_D (va_A (WM cI cZ cB a u) sz) (WM cI cZ cB a u)) (va_A (WM cI cZ cB a u) sz)) 0 0 (va_A (WM cI cZ cB a u) sz) := by
  refine Met.ofW (cc := cX9_levelAt) (maxL := 3) (ret := (some .int)) (by decide) rfl ?_
  intro p e s m args below meth c s₁ B hml hv
  obtain ⟨rfl, hsz, hP, hE, hD0, hZ⟩ := hv
  have hx := B.exec
  have hb := B.bytes
  have hr := B.returns
  have hts := atoms_spec (ws := wsX9_levelAt) B.pre
  have hown : s.vm.findClass RX9 = some m.cls := findClass_of_methodNamed B.named
  have hlocks := B.notSynchronized
  subst hsz
  have hD := hD0.self (sz := s.heap.size)
  generalize hAe : va_A (WM cI cZ cB a u) s.heap.size = A at hD hZ ⊢
  have hA : ∀ q : Nat, s.heap.size ≤ q → A q := fun q h => by rw [← hAe]; exact Or.inr h
  clear hAe
  have hS : va_S A s.heap s.heap [] := va_S.rf
  have hP : va_P D vwCl (WM cI cZ cB a u) s.heap := hP
  have hl := lv_entry ([.ref (a 45), .int tm]) (n := 3) (Nat.le_of_ble_eq_true rfl)
  rw [lg_entry_eq]
  generalize (lg_sl ([.ref (a 45), .int tm]) ++ List.replicate (3 - (lg_sl ([.ref (a 45), .int tm])).length) Slot.unset).toArray = ls at hl ⊢
  have hl : lv_has ls 3 [(0, .ref (a 45)), (1, .int tm)] := hl
  have hf := f_levelAt_s u tm
  have i1 := (ix_div ht).inn (N := 25) (by omega) (by omega)
  refine lv_iload_n hx hb dX9_levelAt_0 rfl (lv_at hl 1 rfl) ?_
  refine lv_bipush (v := 60) hx hb dX9_levelAt_1 (by decide) ?_
  refine lv_idiv hx hb dX9_levelAt_3 (by decide) ?_
  refine lv_istore_n (lv' := [(2, .int (tm / 60)), (0, .ref (a 45)), (1, .int tm)]) hx hb dX9_levelAt_4 rfl hl (by decide) rfl (fun ls hl => ?_)
  refine lv_iload_n hx hb dX9_levelAt_5 rfl (lv_at hl 2 rfl) ?_
  refine lv_bipush (v := 60) hx hb dX9_levelAt_6 (by decide) ?_
  refine lv_irem hx hb dX9_levelAt_8 (by decide) ?_
  refine lv_if_ne (tgt := 21) hx hb dX9_levelAt_9 (by decide) (fun c1 => ?_) (fun c1 => ?_)
  · replace hf := hf.trans (if_neg c1)
    refine lv_aload_n hx hb dX9_levelAt_21 rfl (lv_at hl 1 rfl) ?_
    refine va_get (D := D) (ci := 10) (v := .ref (a 16)) (C := RX9) (T := TX9) (N := 45) hx hb hts im_X9_levelAt_X9 hown hE.1 hP 0 rfl rfl 16 (by decide) (hts (.fieldLink RX9 47 "RiverBridgesModel" "levels" "[I") (by decide +kernel)) (fun _ h9 => h9) rfl dX9_levelAt_22 ?_
    refine lv_iload_n hx hb dX9_levelAt_25 rfl (lv_at hl 0 rfl) ?_
    refine lx_iald (v := u.2.2 16 ((tm / 60).toNatClampNeg)) hx hb hE.1 hP 13 0 rfl rfl (by assumption) (rfl) dX9_levelAt_26 ?_
    refine lv_aload_n hx hb dX9_levelAt_27 rfl (lv_at hl 1 rfl) ?_
    refine va_get (D := D) (ci := 10) (v := .ref (a 16)) (C := RX9) (T := TX9) (N := 45) hx hb hts im_X9_levelAt_X9 hown hE.1 hP 0 rfl rfl 16 (by decide) (hts (.fieldLink RX9 47 "RiverBridgesModel" "levels" "[I") (by decide +kernel)) (fun _ h9 => h9) rfl dX9_levelAt_28 ?_
    refine lv_iload_n hx hb dX9_levelAt_31 rfl (lv_at hl 0 rfl) ?_
    refine lv_iconst (v := 1) hx hb dX9_levelAt_32 (by decide) ?_
    refine lx_iadd (v := (tm / 60) + 1) hx hb (rfl) dX9_levelAt_33 ?_
    have i2 := (ix_div1 ht c1).inn (N := 25) (by omega) (by omega)
    refine lx_iald (v := u.2.2 16 (((tm / 60) + 1).toNatClampNeg)) hx hb hE.1 hP 13 0 rfl rfl (by assumption) (rfl) dX9_levelAt_34 ?_
    refine lv_aload_n hx hb dX9_levelAt_35 rfl (lv_at hl 1 rfl) ?_
    refine va_get (D := D) (ci := 10) (v := .ref (a 16)) (C := RX9) (T := TX9) (N := 45) hx hb hts im_X9_levelAt_X9 hown hE.1 hP 0 rfl rfl 16 (by decide) (hts (.fieldLink RX9 47 "RiverBridgesModel" "levels" "[I") (by decide +kernel)) (fun _ h9 => h9) rfl dX9_levelAt_36 ?_
    refine lv_iload_n hx hb dX9_levelAt_39 rfl (lv_at hl 0 rfl) ?_
    refine lx_iald (v := u.2.2 16 ((tm / 60).toNatClampNeg)) hx hb hE.1 hP 13 0 rfl rfl (by assumption) (rfl) dX9_levelAt_40 ?_
    refine lx_isub (v := (u.2.2 16 (((tm / 60) + 1).toNatClampNeg)) - (u.2.2 16 ((tm / 60).toNatClampNeg))) hx hb (rfl) dX9_levelAt_41 ?_
    refine lv_iload_n hx hb dX9_levelAt_42 rfl (lv_at hl 2 rfl) ?_
    refine lv_bipush (v := 60) hx hb dX9_levelAt_43 (by decide) ?_
    refine lv_irem hx hb dX9_levelAt_45 (by decide) ?_
    refine lx_imul (v := ((u.2.2 16 (((tm / 60) + 1).toNatClampNeg)) - (u.2.2 16 ((tm / 60).toNatClampNeg))) * (tm - tm / 60 * 60)) hx hb (rfl) dX9_levelAt_46 ?_
    refine lv_bipush (v := 60) hx hb dX9_levelAt_47 (by decide) ?_
    refine lv_idiv hx hb dX9_levelAt_49 (by decide) ?_
    refine lx_iadd (v := (u.2.2 16 ((tm / 60).toNatClampNeg)) + ((((u.2.2 16 (((tm / 60) + 1).toNatClampNeg)) - (u.2.2 16 ((tm / 60).toNatClampNeg))) * (tm - tm / 60 * 60)) / 60)) hx hb (rfl) dX9_levelAt_50 ?_
    exact ss_iret () hx hb hr hlocks hP hD hS (by rw [hf]) (Nat.le_of_ble_eq_true rfl) (Nat.le_of_ble_eq_true rfl) dX9_levelAt_51
  · replace hf := hf.trans (if_pos c1)
    refine lv_aload_n hx hb dX9_levelAt_12 rfl (lv_at hl 1 rfl) ?_
    refine va_get (D := D) (ci := 10) (v := .ref (a 16)) (C := RX9) (T := TX9) (N := 45) hx hb hts im_X9_levelAt_X9 hown hE.1 hP 0 rfl rfl 16 (by decide) (hts (.fieldLink RX9 47 "RiverBridgesModel" "levels" "[I") (by decide +kernel)) (fun _ h9 => h9) rfl dX9_levelAt_13 ?_
    refine lv_iload_n hx hb dX9_levelAt_16 rfl (lv_at hl 0 rfl) ?_
    refine lx_iald (v := u.2.2 16 ((tm / 60).toNatClampNeg)) hx hb hE.1 hP 13 0 rfl rfl (by assumption) (rfl) dX9_levelAt_17 ?_
    refine lv_goto (tgt := 51) hx hb dX9_levelAt_18 (by decide) ?_
    exact ss_iret () hx hb hr hlocks hP hD hS (by rw [hf]) (Nat.le_of_ble_eq_true rfl) (Nat.le_of_ble_eq_true rfl) dX9_levelAt_51
def f_isUnder (u : RS) (hg : Int32) (b : Int32) (tm : Int32) : Int32 := (if u.2.2 5 b.toNatClampNeg < hg + (f_levelAt u tm) then 0 else 1)
theorem f_isUnder_s (u : RS) (hg : Int32) (b : Int32) (tm : Int32) : f_isUnder u hg b tm = (if u.2.2 5 b.toNatClampNeg < hg + (f_levelAt u tm) then 0 else 1) := rfl
theorem im_X9_isUnder_X9 : ∀ w ∈ wsX90, w ∈ wsX9_isUnder := fun _ h => List.mem_cons_of_mem _ (List.mem_append_right _ h)
set_option maxHeartbeats 400000 in
set_option maxRecDepth 100000 in
theorem m_isUnder (l : Launch) (D : va_G) (cI cZ cB cO cJ : ClassId) (a0 sz : Nat) (a : Nat → Nat)  (u : RS) (hg : Int32) (b : Int32) (tm : Int32) (hb8 : ixN b 8) (ht : ixN tm 1441) : Met l yX9_isUnder wsX9_isUnder ({ frames := 1, cells := 0, slots := 0, locals := 22 }) (Pcs D cI cZ cB cO cJ a0 [.ref (a 45), .int hg, .int b, .int tm] (WM cI cZ cB a u) sz) (va_Qi (fun (r : Int32) (_ : Unit) => r = f_isUnder u hg b tm) (fun (_ : Unit) t => va_P D vwCl (WM cI cZ cB a u) t.heap ∧ va_D (va_A (WM cI cZ cB a u) sz) (WM cI cZ cB a u)) (va_A (WM cI cZ cB a u) sz)) 0 0 (va_A (WM cI cZ cB a u) sz) := by
  refine Met.ofW (cc := cX9_isUnder) (maxL := 4) (ret := (some .boolean)) (by decide) rfl ?_
  intro p e s m args below meth c s₁ B hml hv
  obtain ⟨rfl, hsz, hP, hE, hD0, hZ⟩ := hv
  have hx := B.exec
  have hb := B.bytes
  have hr := B.returns
  have hts := atoms_spec (ws := wsX9_isUnder) B.pre
  have hown : s.vm.findClass RX9 = some m.cls := findClass_of_methodNamed B.named
  have hlocks := B.notSynchronized
  subst hsz
  have hD := hD0.self (sz := s.heap.size)
  generalize hAe : va_A (WM cI cZ cB a u) s.heap.size = A at hD hZ ⊢
  have hA : ∀ q : Nat, s.heap.size ≤ q → A q := fun q h => by rw [← hAe]; exact Or.inr h
  clear hAe
  have hS : va_S A s.heap s.heap [] := va_S.rf
  have hP : va_P D vwCl (WM cI cZ cB a u) s.heap := hP
  have hl := lv_entry ([.ref (a 45), .int hg, .int b, .int tm]) (n := 4) (Nat.le_of_ble_eq_true rfl)
  rw [lg_entry_eq]
  generalize (lg_sl ([.ref (a 45), .int hg, .int b, .int tm]) ++ List.replicate (4 - (lg_sl ([.ref (a 45), .int hg, .int b, .int tm])).length) Slot.unset).toArray = ls at hl ⊢
  have hl : lv_has ls 4 [(0, .ref (a 45)), (1, .int hg), (2, .int b), (3, .int tm)] := hl
  have hf := f_isUnder_s u hg b tm
  have i1 := hb8.inn (N := 8) (by omega) (by omega)
  refine lv_iload_n hx hb dX9_isUnder_0 rfl (lv_at hl 1 rfl) ?_
  refine lv_aload_n hx hb dX9_isUnder_1 rfl (lv_at hl 0 rfl) ?_
  refine lv_iload_n hx hb dX9_isUnder_2 rfl (lv_at hl 3 rfl) ?_
  refine sf_calli (va_runV (As := [.int tm]) (rest := [.int hg]) ⟨hx, hb, hml, hown, hts⟩ (m_levelAt l D cI cZ cB cO cJ a0 s.heap.size a  u tm (ht)) (cwV 1 hts gX9_isUnder_X9_levelAt rfl rfl rfl (by decide +kernel) ⟨Nat.le_of_ble_eq_true rfl, Nat.le_of_ble_eq_true rfl⟩) (preV_full hE hZ hA hS hP hD (va_recv hE.1 hP (ci := 10) (q0 := 0) rfl rfl)) rfl rfl hl.1 rfl (lv_room (Nat.le_of_ble_eq_true rfl)) dX9_isUnder_3 ⟨Nat.le_of_ble_eq_true rfl, Nat.le_of_ble_eq_true rfl⟩) hP hD hS hA (fun r9 u9 H locs hw hP hD hS => ?_)
  subst hw
  have hP : va_P D vwCl (WM cI cZ cB a u) H := hP
  have hD : va_D A (WM cI cZ cB a u) := hD
  refine lx_iadd (v := hg + (f_levelAt u tm)) hx hb (rfl) dX9_isUnder_6 ?_
  refine lv_aload_n hx hb dX9_isUnder_7 rfl (lv_at hl 0 rfl) ?_
  refine va_get (D := D) (ci := 10) (v := .ref (a 5)) (C := RX9) (T := TX9) (N := 45) hx hb hts im_X9_isUnder_X9 hown hE.1 hP 0 rfl rfl 5 (by decide) (hts (.fieldLink RX9 13 "RiverBridgesModel" "clear" "[I") (by decide +kernel)) (fun _ h9 => h9) rfl dX9_isUnder_8 ?_
  refine lv_iload_n hx hb dX9_isUnder_11 rfl (lv_at hl 2 rfl) ?_
  refine lx_iald (v := u.2.2 5 b.toNatClampNeg) hx hb hE.1 hP 2 0 rfl rfl (by assumption) (rfl) dX9_isUnder_12 ?_
  refine lv_icmp_gt (tgt := 20) hx hb dX9_isUnder_13 (by decide) (fun c1 => ?_) (fun c1 => ?_)
  · replace hf := hf.trans (if_pos c1)
    refine lv_iconst (v := 0) hx hb dX9_isUnder_20 (by decide) ?_
    exact ss_zret () hx hb hr hlocks (by decide) hP hD hS (by rw [hf]) (Nat.le_of_ble_eq_true rfl) (Nat.le_of_ble_eq_true rfl) dX9_isUnder_21
  · replace hf := hf.trans (if_neg c1)
    refine lv_iconst (v := 1) hx hb dX9_isUnder_16 (by decide) ?_
    refine lv_goto (tgt := 21) hx hb dX9_isUnder_17 (by decide) ?_
    exact ss_zret () hx hb hr hlocks (by decide) hP hD hS (by rw [hf]) (Nat.le_of_ble_eq_true rfl) (Nat.le_of_ble_eq_true rfl) dX9_isUnder_21
def lp_isBarred (u : RS) (b : Int32) (lo : Int32) (hi : Int32) : Nat → Nat → Int32
  | 0, k => 0
  | n + 1, k => (if u.2.2 22 b.toNatClampNeg ≤ nI k then 0 else (if hi < u.2.2 20 (((12 * b) + (nI k)).toNatClampNeg) then (lp_isBarred u b lo hi n (k + 1)) else (if u.2.2 21 (((12 * b) + (nI k)).toNatClampNeg) < lo then (lp_isBarred u b lo hi n (k + 1)) else 1)))
theorem lp_isBarred_s (u : RS) (b : Int32) (lo : Int32) (hi : Int32) (n : Nat) (k : Nat) : lp_isBarred u b lo hi (n + 1) k = (if u.2.2 22 b.toNatClampNeg ≤ nI k then 0 else (if hi < u.2.2 20 (((12 * b) + (nI k)).toNatClampNeg) then (lp_isBarred u b lo hi n (k + 1)) else (if u.2.2 21 (((12 * b) + (nI k)).toNatClampNeg) < lo then (lp_isBarred u b lo hi n (k + 1)) else 1))) := rfl
def f_isBarred (u : RS) (b : Int32) (lo : Int32) (hi : Int32) : Int32 := (lp_isBarred u b lo hi 13 0)
theorem f_isBarred_s (u : RS) (b : Int32) (lo : Int32) (hi : Int32) : f_isBarred u b lo hi = (lp_isBarred u b lo hi 13 0) := rfl
theorem im_X9_isBarred_X9 : ∀ w ∈ wsX90, w ∈ wsX9_isBarred := fun _ h => List.mem_cons_of_mem _ (List.mem_append_right _ h)
set_option maxHeartbeats 400000 in
set_option maxRecDepth 100000 in
theorem m_isBarred (l : Launch) (D : va_G) (cI cZ cB cO cJ : ClassId) (a0 sz : Nat) (a : Nat → Nat) (nB nS nK mi ln : Nat) (u : RS) (b : Int32) (lo : Int32) (hi : Int32) (hI : MI nB nS nK mi ln u) (hb8 : ixN b 8) : Met l yX9_isBarred wsX9_isBarred ({ frames := 0, cells := 0, slots := 0, locals := 0 }) (Pcs D cI cZ cB cO cJ a0 [.ref (a 45), .int b, .int lo, .int hi] (WM cI cZ cB a u) sz) (va_Qi (fun (r : Int32) (_ : Unit) => r = f_isBarred u b lo hi) (fun (_ : Unit) t => va_P D vwCl (WM cI cZ cB a u) t.heap ∧ va_D (va_A (WM cI cZ cB a u) sz) (WM cI cZ cB a u)) (va_A (WM cI cZ cB a u) sz)) 0 0 (va_A (WM cI cZ cB a u) sz) := by
  refine Met.ofW (cc := cX9_isBarred) (maxL := 5) (ret := (some .boolean)) (by decide) rfl ?_
  intro p e s m args below meth c s₁ B hml hv
  obtain ⟨rfl, hsz, hP, hE, hD0, hZ⟩ := hv
  have hx := B.exec
  have hb := B.bytes
  have hr := B.returns
  have hts := atoms_spec (ws := wsX9_isBarred) B.pre
  have hown : s.vm.findClass RX9 = some m.cls := findClass_of_methodNamed B.named
  have hlocks := B.notSynchronized
  subst hsz
  have hD := hD0.self (sz := s.heap.size)
  generalize hAe : va_A (WM cI cZ cB a u) s.heap.size = A at hD hZ ⊢
  have hA : ∀ q : Nat, s.heap.size ≤ q → A q := fun q h => by rw [← hAe]; exact Or.inr h
  clear hAe
  have hS : va_S A s.heap s.heap [] := va_S.rf
  have hP : va_P D vwCl (WM cI cZ cB a u) s.heap := hP
  have hl := lv_entry ([.ref (a 45), .int b, .int lo, .int hi]) (n := 5) (Nat.le_of_ble_eq_true rfl)
  rw [lg_entry_eq]
  generalize (lg_sl ([.ref (a 45), .int b, .int lo, .int hi]) ++ List.replicate (5 - (lg_sl ([.ref (a 45), .int b, .int lo, .int hi])).length) Slot.unset).toArray = ls at hl ⊢
  have hl : lv_has ls 5 [(0, .ref (a 45)), (1, .int b), (2, .int lo), (3, .int hi)] := hl
  have hf := f_isBarred_s u b lo hi
  have i1 := hb8.inn (N := 16) (by omega) (by omega)
  obtain ⟨w, hw, ew⟩ := hI.spans b.toNatClampNeg (by have := (hb8.at (by omega)).1; omega)
  refine lv_iconst (v := 0) hx hb dX9_isBarred_0 (by decide) ?_
  refine lv_istore (lv' := [(4, .int 0), (0, .ref (a 45)), (1, .int b), (2, .int lo), (3, .int hi)]) hx hb dX9_isBarred_1 hl (by decide) rfl (fun ls hl => ?_)
  refine ss_ind (J := fun n H locs ls => ∃ (k : Nat), (k + n = 13) ∧ (k ≤ w) ∧ va_P D vwCl (WM cI cZ cB a u) H ∧ va_D A (WM cI cZ cB a u) ∧ va_S A s.heap H locs ∧ lv_has ls 5 [(4, .int (nI k)), (0, .ref (a 45)), (1, .int b), (2, .int lo), (3, .int hi)] ∧ f_isBarred u b lo hi = lp_isBarred u b lo hi n k) ?_ ?_ (13) _ _ _ ⟨0, (rfl), (Nat.zero_le _), hP, hD, hS, (lv_sub hl [0, 1, 2, 3, 4] rfl), hf⟩
  · intro H locs ls hJ
    obtain ⟨k, hkn, hkw, hP, hD, hS, hl, hf⟩ := hJ
    omega
  · intro n_lp_isBarred ih_lp_isBarred H locs ls hJ
    obtain ⟨k, hkn, hkw, hP, hD, hS, hl, hf⟩ := hJ
    replace hf := hf.trans (lp_isBarred_s _ _ _ _ n_lp_isBarred _)
    refine lv_iload hx hb dX9_isBarred_3 (lv_at hl 0 rfl) ?_
    refine lv_aload_n hx hb dX9_isBarred_5 rfl (lv_at hl 1 rfl) ?_
    refine va_get (D := D) (ci := 10) (v := .ref (a 22)) (C := RX9) (T := TX9) (N := 45) hx hb hts im_X9_isBarred_X9 hown hE.1 hP 0 rfl rfl 22 (by decide) (hts (.fieldLink RX9 60 "RiverBridgesModel" "spans" "[I") (by decide +kernel)) (fun _ h9 => h9) rfl dX9_isBarred_6 ?_
    refine lv_iload_n hx hb dX9_isBarred_9 rfl (lv_at hl 2 rfl) ?_
    refine lx_iald (v := u.2.2 22 b.toNatClampNeg) hx hb hE.1 hP 16 0 rfl rfl (by assumption) (rfl) dX9_isBarred_10 ?_
    refine lv_icmp_ge (tgt := 54) hx hb dX9_isBarred_11 (by decide) (fun ck => ?_) (fun ck => ?_)
    · replace hf := hf.trans (if_pos ck)
      refine lv_iconst (v := 0) hx hb dX9_isBarred_54 (by decide) ?_
      exact ss_zret () hx hb hr hlocks (by decide) hP hD hS (by rw [hf]) (Nat.le_of_ble_eq_true rfl) (Nat.le_of_ble_eq_true rfl) dX9_isBarred_55
    · replace hf := hf.trans (if_neg ck)
      have hk : k < w := nltI ew (by omega) (by omega) ck
      have i2 : vp_in (12 * b + nI k) 192 := ix_mul12 hb8 (by omega)
      refine lv_aload_n hx hb dX9_isBarred_14 rfl (lv_at hl 1 rfl) ?_
      refine va_get (D := D) (ci := 10) (v := .ref (a 20)) (C := RX9) (T := TX9) (N := 45) hx hb hts im_X9_isBarred_X9 hown hE.1 hP 0 rfl rfl 20 (by decide) (hts (.fieldLink RX9 54 "RiverBridgesModel" "spanFrom" "[I") (by decide +kernel)) (fun _ h9 => h9) rfl dX9_isBarred_15 ?_
      refine lv_bipush (v := 12) hx hb dX9_isBarred_18 (by decide) ?_
      refine lv_iload_n hx hb dX9_isBarred_20 rfl (lv_at hl 2 rfl) ?_
      refine lx_imul (v := 12 * b) hx hb (rfl) dX9_isBarred_21 ?_
      refine lv_iload hx hb dX9_isBarred_22 (lv_at hl 0 rfl) ?_
      refine lx_iadd (v := (12 * b) + (nI k)) hx hb (rfl) dX9_isBarred_24 ?_
      refine lx_iald (v := u.2.2 20 (((12 * b) + (nI k)).toNatClampNeg)) hx hb hE.1 hP 14 0 rfl rfl (by assumption) (rfl) dX9_isBarred_25 ?_
      refine lv_iload_n hx hb dX9_isBarred_26 rfl (lv_at hl 4 rfl) ?_
      refine lv_icmp_gt (tgt := 48) hx hb dX9_isBarred_27 (by decide) (fun c1 => ?_) (fun c1 => ?_)
      · replace hf := hf.trans (if_pos c1)
        refine lv_iinc (v := nI (k + 1)) (lv' := [(4, .int (nI (k + 1))), (0, .ref (a 45)), (1, .int b), (2, .int lo), (3, .int hi)]) hx hb dX9_isBarred_48 hl (k := 0) rfl (by first | exact nI_add _ _ | rfl) (by decide) rfl (fun ls hl => ?_)
        refine lv_goto (tgt := 3) hx hb dX9_isBarred_51 (by decide) ?_
        exact ih_lp_isBarred _ _ _ ⟨(k + 1), (by omega), (by omega), hP, hD, hS, (lv_sub hl [0, 1, 2, 3, 4] rfl), hf⟩
      · replace hf := hf.trans (if_neg c1)
        refine lv_aload_n hx hb dX9_isBarred_30 rfl (lv_at hl 1 rfl) ?_
        refine va_get (D := D) (ci := 10) (v := .ref (a 21)) (C := RX9) (T := TX9) (N := 45) hx hb hts im_X9_isBarred_X9 hown hE.1 hP 0 rfl rfl 21 (by decide) (hts (.fieldLink RX9 57 "RiverBridgesModel" "spanTo" "[I") (by decide +kernel)) (fun _ h9 => h9) rfl dX9_isBarred_31 ?_
        refine lv_bipush (v := 12) hx hb dX9_isBarred_34 (by decide) ?_
        refine lv_iload_n hx hb dX9_isBarred_36 rfl (lv_at hl 2 rfl) ?_
        refine lx_imul (v := 12 * b) hx hb (rfl) dX9_isBarred_37 ?_
        refine lv_iload hx hb dX9_isBarred_38 (lv_at hl 0 rfl) ?_
        refine lx_iadd (v := (12 * b) + (nI k)) hx hb (rfl) dX9_isBarred_40 ?_
        refine lx_iald (v := u.2.2 21 (((12 * b) + (nI k)).toNatClampNeg)) hx hb hE.1 hP 15 0 rfl rfl (by assumption) (rfl) dX9_isBarred_41 ?_
        refine lv_iload_n hx hb dX9_isBarred_42 rfl (lv_at hl 3 rfl) ?_
        refine lv_icmp_lt (tgt := 48) hx hb dX9_isBarred_43 (by decide) (fun c2 => ?_) (fun c2 => ?_)
        · replace hf := hf.trans (if_pos c2)
          refine lv_iinc (v := nI (k + 1)) (lv' := [(4, .int (nI (k + 1))), (0, .ref (a 45)), (1, .int b), (2, .int lo), (3, .int hi)]) hx hb dX9_isBarred_48 hl (k := 0) rfl (by first | exact nI_add _ _ | rfl) (by decide) rfl (fun ls hl => ?_)
          refine lv_goto (tgt := 3) hx hb dX9_isBarred_51 (by decide) ?_
          exact ih_lp_isBarred _ _ _ ⟨(k + 1), (by omega), (by omega), hP, hD, hS, (lv_sub hl [0, 1, 2, 3, 4] rfl), hf⟩
        · replace hf := hf.trans (if_neg c2)
          refine lv_iconst (v := 1) hx hb dX9_isBarred_46 (by decide) ?_
          exact ss_zret () hx hb hr hlocks (by decide) hP hD hS (by rw [hf]) (Nat.le_of_ble_eq_true rfl) (Nat.le_of_ble_eq_true rfl) dX9_isBarred_47
