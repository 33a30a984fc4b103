def WL (k : Nat → ClassId) (x : Nat) (u : Nat → Nat → Nat) (y : Nat) (v : Nat → Nat) : va_W := [(x, .inr (9, [.ref (u 0 0), .ref (u 0 1), .ref (u 0 2), .ref (u 0 3), .int 0, .ref (u 0 4), .ref (u 0 17), .ref (u 0 6), .ref (u 0 18), .ref (u 0 19), .ref (u 0 20), .ref (u 0 21)])), (u 0 3, .inl (k 3, 6, .inr (.inr (.inr (.inr (va_up (va_up (va_up (va_up (va_up (va_up (fun _ => none) 0 (some (u 0 7))) 1 (some (u 0 8))) 2 (some (u 0 9))) 3 (some (u 0 10))) 4 (some (u 0 11))) 5 (some (u 0 12)))))))), (u 0 6, .inl (k 4, 4, .inr (.inr (.inr (.inr (va_up (va_up (va_up (va_up (fun _ => none) 0 (some (u 0 13))) 1 (some (u 0 14))) 2 (some (u 0 15))) 3 (some (u 0 16)))))))), (u 0 0, .inr (7, [.ref (u 1 0), .int 0, .int 0, .int 0, .int 0, .int 0])), (u 1 0, .inl (k 0, 400, .inl (fun _ => 0))), (u 0 1, .inr (3, [.ref (u 2 0), .ref (u 0 0), .int 0])), (u 2 0, .inr (2, [.int 0, .int 0, .int 0, .int 0, .int 0, .ref (u 2 1), .ref (u 2 2), .ref (u 2 3), .ref (u 2 4), .ref (u 2 5), .ref (u 2 6), .ref (u 2 7)])), (u 2 1, .inl (k 0, 6, .inl (fun _ => 0))), (u 2 2, .inl (k 0, 9, .inl (fun _ => 0))), (u 2 3, .inl (k 0, 4, .inl (fun _ => 0))), (u 2 4, .inl (k 0, 12, .inl (fun _ => 0))), (u 2 5, .inl (k 0, 12, .inl (fun _ => 0))), (u 2 6, .inl (k 0, 12, .inl (fun _ => 0))), (u 2 7, .inl (k 0, 12, .inl (fun _ => 0))), (u 0 2, .inr (5, [.ref (u 0 0), .int 0])), (u 0 7, .inr (4, [.ref (u 4 0), .int 0, .int 0, .int 0, .ref (u 4 1), .long 0])), (u 4 0, .inl (k 0, 400, .inl (fun _ => 0))), (u 4 1, .inl (k 1, 60, .inr (.inl (fun _ => 0)))), (u 0 8, .inr (4, [.ref (u 11 0), .int 0, .int 0, .int 0, .ref (u 11 1), .long 0])), (u 11 0, .inl (k 0, 400, .inl (fun _ => 0))), (u 11 1, .inl (k 1, 60, .inr (.inl (fun _ => 0)))), (u 0 9, .inr (4, [.ref (u 12 0), .int 0, .int 0, .int 0, .ref (u 12 1), .long 0])), (u 12 0, .inl (k 0, 400, .inl (fun _ => 0))), (u 12 1, .inl (k 1, 60, .inr (.inl (fun _ => 0)))), (u 0 10, .inr (4, [.ref (u 13 0), .int 0, .int 0, .int 0, .ref (u 13 1), .long 0])), (u 13 0, .inl (k 0, 400, .inl (fun _ => 0))), (u 13 1, .inl (k 1, 60, .inr (.inl (fun _ => 0)))), (u 0 11, .inr (4, [.ref (u 14 0), .int 0, .int 0, .int 0, .ref (u 14 1), .long 0])), (u 14 0, .inl (k 0, 400, .inl (fun _ => 0))), (u 14 1, .inl (k 1, 60, .inr (.inl (fun _ => 0)))), (u 0 12, .inr (4, [.ref (u 15 0), .int 0, .int 0, .int 0, .ref (u 15 1), .long 0])), (u 15 0, .inl (k 0, 400, .inl (fun _ => 0))), (u 15 1, .inl (k 1, 60, .inr (.inl (fun _ => 0)))), (u 0 5, .inr (2, [.int 0, .int 0, .int 0, .int 0, .int 0, .ref (u 6 0), .ref (u 6 1), .ref (u 6 2), .ref (u 6 3), .ref (u 6 4), .ref (u 6 5), .ref (u 6 6)])), (u 6 0, .inl (k 0, 6, .inl (fun _ => 0))), (u 6 1, .inl (k 0, 9, .inl (fun _ => 0))), (u 6 2, .inl (k 0, 4, .inl (fun _ => 0))), (u 6 3, .inl (k 0, 12, .inl (fun _ => 0))), (u 6 4, .inl (k 0, 12, .inl (fun _ => 0))), (u 6 5, .inl (k 0, 12, .inl (fun _ => 0))), (u 6 6, .inl (k 0, 12, .inl (fun _ => 0))), (u 0 4, .inr (8, [.ref (u 0 5), .ref (u 5 0), .ref (u 5 10), .ref (u 5 23), .ref (u 0 3), .ref (u 5 24), .ref (u 5 25), .ref (u 5 26), .int 0])), (u 5 0, .inr (6, [.int 0, .int 0, .int (-1), .int 0, .int 0, .int 0, .ref (u 5 1), .ref (u 5 2), .ref (u 5 3), .ref (u 5 4), .ref (u 5 5), .ref (u 5 6), .ref (u 5 7), .ref (u 5 8), .ref (u 5 9)])), (u 5 1, .inl (k 0, 6, .inl (fun _ => 0))), (u 5 2, .inl (k 0, 9, .inl (fun _ => 0))), (u 5 3, .inl (k 0, 12, .inl (fun _ => 0))), (u 5 4, .inl (k 0, 12, .inl (fun _ => 0))), (u 5 5, .inl (k 0, 12, .inl (fun _ => 0))), (u 5 6, .inl (k 0, 12, .inl (fun _ => 0))), (u 5 7, .inl (k 0, 12, .inl (fun _ => 0))), (u 5 8, .inl (k 0, 12, .inl (fun _ => 0))), (u 5 9, .inl (k 0, 72, .inl (fun _ => 0))), (u 5 10, .inr (0, [.int 0, .int 0, .ref (u 5 11), .ref (u 5 12), .int 0, .ref (u 5 13), .int 0, .ref (u 5 14), .ref (u 5 15), .ref (u 5 16), .ref (u 5 17), .int 0, .ref (u 5 18), .ref (u 5 19), .ref (u 5 20), .ref (u 5 21), .ref (u 5 22)])), (u 5 11, .inl (k 0, 6, .inl (fun _ => 0))), (u 5 12, .inl (k 0, 36, .inl (fun _ => 0))), (u 5 13, .inl (k 0, 20, .inl (fun _ => 0))), (u 5 14, .inl (k 0, 20, .inl (fun _ => 0))), (u 5 15, .inl (k 0, 20, .inl (fun _ => 0))), (u 5 16, .inl (k 0, 20, .inl (fun _ => 0))), (u 5 17, .inl (k 0, 20, .inl (fun _ => 0))), (u 5 18, .inl (k 0, 12, .inl (fun _ => 0))), (u 5 19, .inl (k 0, 12, .inl (fun _ => 0))), (u 5 20, .inl (k 0, 12, .inl (fun _ => 0))), (u 5 21, .inl (k 0, 12, .inl (fun _ => 0))), (u 5 22, .inl (k 0, 360, .inl (fun _ => 0))), (u 5 23, .inl (k 0, 6, .inl (fun _ => 0))), (u 5 24, .inl (k 1, 13, .inr (.inl (fun _ => 0)))), (u 5 25, .inl (k 0, 12, .inl (fun _ => 0))), (u 5 26, .inl (k 1, 12, .inr (.inl (fun _ => 0)))), (u 0 17, .inr (8, [.ref (u 0 5), .ref (u 16 0), .ref (u 16 10), .ref (u 16 23), .ref (u 0 3), .ref (u 16 24), .ref (u 16 25), .ref (u 16 26), .int 0])), (u 16 0, .inr (6, [.int 0, .int 0, .int (-1), .int 0, .int 0, .int 0, .ref (u 16 1), .ref (u 16 2), .ref (u 16 3), .ref (u 16 4), .ref (u 16 5), .ref (u 16 6), .ref (u 16 7), .ref (u 16 8), .ref (u 16 9)])), (u 16 1, .inl (k 0, 6, .inl (fun _ => 0))), (u 16 2, .inl (k 0, 9, .inl (fun _ => 0))), (u 16 3, .inl (k 0, 12, .inl (fun _ => 0))), (u 16 4, .inl (k 0, 12, .inl (fun _ => 0))), (u 16 5, .inl (k 0, 12, .inl (fun _ => 0))), (u 16 6, .inl (k 0, 12, .inl (fun _ => 0))), (u 16 7, .inl (k 0, 12, .inl (fun _ => 0))), (u 16 8, .inl (k 0, 12, .inl (fun _ => 0))), (u 16 9, .inl (k 0, 72, .inl (fun _ => 0))), (u 16 10, .inr (0, [.int 0, .int 0, .ref (u 16 11), .ref (u 16 12), .int 0, .ref (u 16 13), .int 0, .ref (u 16 14), .ref (u 16 15), .ref (u 16 16), .ref (u 16 17), .int 0, .ref (u 16 18), .ref (u 16 19), .ref (u 16 20), .ref (u 16 21), .ref (u 16 22)])), (u 16 11, .inl (k 0, 6, .inl (fun _ => 0))), (u 16 12, .inl (k 0, 36, .inl (fun _ => 0))), (u 16 13, .inl (k 0, 20, .inl (fun _ => 0))), (u 16 14, .inl (k 0, 20, .inl (fun _ => 0))), (u 16 15, .inl (k 0, 20, .inl (fun _ => 0))), (u 16 16, .inl (k 0, 20, .inl (fun _ => 0))), (u 16 17, .inl (k 0, 20, .inl (fun _ => 0))), (u 16 18, .inl (k 0, 12, .inl (fun _ => 0))), (u 16 19, .inl (k 0, 12, .inl (fun _ => 0))), (u 16 20, .inl (k 0, 12, .inl (fun _ => 0))), (u 16 21, .inl (k 0, 12, .inl (fun _ => 0))), (u 16 22, .inl (k 0, 360, .inl (fun _ => 0))), (u 16 23, .inl (k 0, 6, .inl (fun _ => 0))), (u 16 24, .inl (k 1, 13, .inr (.inl (fun _ => 0)))), (u 16 25, .inl (k 0, 12, .inl (fun _ => 0))), (u 16 26, .inl (k 1, 12, .inr (.inl (fun _ => 0)))), (u 0 13, .inr (1, [.int 0, .ref (u 7 0), .ref (u 7 8), .ref (u 7 18)])), (u 7 0, .inr (2, [.int 0, .int 0, .int 0, .int 0, .int 0, .ref (u 7 1), .ref (u 7 2), .ref (u 7 3), .ref (u 7 4), .ref (u 7 5), .ref (u 7 6), .ref (u 7 7)])), (u 7 1, .inl (k 0, 6, .inl (fun _ => 0))), (u 7 2, .inl (k 0, 9, .inl (fun _ => 0))), (u 7 3, .inl (k 0, 4, .inl (fun _ => 0))), (u 7 4, .inl (k 0, 12, .inl (fun _ => 0))), (u 7 5, .inl (k 0, 12, .inl (fun _ => 0))), (u 7 6, .inl (k 0, 12, .inl (fun _ => 0))), (u 7 7, .inl (k 0, 12, .inl (fun _ => 0))), (u 7 8, .inr (6, [.int 0, .int 0, .int (-1), .int 0, .int 0, .int 0, .ref (u 7 9), .ref (u 7 10), .ref (u 7 11), .ref (u 7 12), .ref (u 7 13), .ref (u 7 14), .ref (u 7 15), .ref (u 7 16), .ref (u 7 17)])), (u 7 9, .inl (k 0, 6, .inl (fun _ => 0))), (u 7 10, .inl (k 0, 9, .inl (fun _ => 0))), (u 7 11, .inl (k 0, 12, .inl (fun _ => 0))), (u 7 12, .inl (k 0, 12, .inl (fun _ => 0))), (u 7 13, .inl (k 0, 12, .inl (fun _ => 0))), (u 7 14, .inl (k 0, 12, .inl (fun _ => 0))), (u 7 15, .inl (k 0, 12, .inl (fun _ => 0))), (u 7 16, .inl (k 0, 12, .inl (fun _ => 0))), (u 7 17, .inl (k 0, 72, .inl (fun _ => 0))), (u 7 18, .inr (0, [.int 0, .int 0, .ref (u 7 19), .ref (u 7 20), .int 0, .ref (u 7 21), .int 0, .ref (u 7 22), .ref (u 7 23), .ref (u 7 24), .ref (u 7 25), .int 0, .ref (u 7 26), .ref (u 7 27), .ref (u 7 28), .ref (u 7 29), .ref (u 7 30)])), (u 7 19, .inl (k 0, 6, .inl (fun _ => 0))), (u 7 20, .inl (k 0, 36, .inl (fun _ => 0))), (u 7 21, .inl (k 0, 20, .inl (fun _ => 0))), (u 7 22, .inl (k 0, 20, .inl (fun _ => 0))), (u 7 23, .inl (k 0, 20, .inl (fun _ => 0))), (u 7 24, .inl (k 0, 20, .inl (fun _ => 0))), (u 7 25, .inl (k 0, 20, .inl (fun _ => 0))), (u 7 26, .inl (k 0, 12, .inl (fun _ => 0))), (u 7 27, .inl (k 0, 12, .inl (fun _ => 0))), (u 7 28, .inl (k 0, 12, .inl (fun _ => 0))), (u 7 29, .inl (k 0, 12, .inl (fun _ => 0))), (u 7 30, .inl (k 0, 360, .inl (fun _ => 0))), (u 0 14, .inr (1, [.int 0, .ref (u 8 0), .ref (u 8 8), .ref (u 8 18)])), (u 8 0, .inr (2, [.int 0, .int 0, .int 0, .int 0, .int 0, .ref (u 8 1), .ref (u 8 2), .ref (u 8 3), .ref (u 8 4), .ref (u 8 5), .ref (u 8 6), .ref (u 8 7)])), (u 8 1, .inl (k 0, 6, .inl (fun _ => 0))), (u 8 2, .inl (k 0, 9, .inl (fun _ => 0))), (u 8 3, .inl (k 0, 4, .inl (fun _ => 0))), (u 8 4, .inl (k 0, 12, .inl (fun _ => 0))), (u 8 5, .inl (k 0, 12, .inl (fun _ => 0))), (u 8 6, .inl (k 0, 12, .inl (fun _ => 0))), (u 8 7, .inl (k 0, 12, .inl (fun _ => 0))), (u 8 8, .inr (6, [.int 0, .int 0, .int (-1), .int 0, .int 0, .int 0, .ref (u 8 9), .ref (u 8 10), .ref (u 8 11), .ref (u 8 12), .ref (u 8 13), .ref (u 8 14), .ref (u 8 15), .ref (u 8 16), .ref (u 8 17)])), (u 8 9, .inl (k 0, 6, .inl (fun _ => 0))), (u 8 10, .inl (k 0, 9, .inl (fun _ => 0))), (u 8 11, .inl (k 0, 12, .inl (fun _ => 0))), (u 8 12, .inl (k 0, 12, .inl (fun _ => 0))), (u 8 13, .inl (k 0, 12, .inl (fun _ => 0))), (u 8 14, .inl (k 0, 12, .inl (fun _ => 0))), (u 8 15, .inl (k 0, 12, .inl (fun _ => 0))), (u 8 16, .inl (k 0, 12, .inl (fun _ => 0))), (u 8 17, .inl (k 0, 72, .inl (fun _ => 0))), (u 8 18, .inr (0, [.int 0, .int 0, .ref (u 8 19), .ref (u 8 20), .int 0, .ref (u 8 21), .int 0, .ref (u 8 22), .ref (u 8 23), .ref (u 8 24), .ref (u 8 25), .int 0, .ref (u 8 26), .ref (u 8 27), .ref (u 8 28), .ref (u 8 29), .ref (u 8 30)])), (u 8 19, .inl (k 0, 6, .inl (fun _ => 0))), (u 8 20, .inl (k 0, 36, .inl (fun _ => 0))), (u 8 21, .inl (k 0, 20, .inl (fun _ => 0))), (u 8 22, .inl (k 0, 20, .inl (fun _ => 0))), (u 8 23, .inl (k 0, 20, .inl (fun _ => 0))), (u 8 24, .inl (k 0, 20, .inl (fun _ => 0))), (u 8 25, .inl (k 0, 20, .inl (fun _ => 0))), (u 8 26, .inl (k 0, 12, .inl (fun _ => 0))), (u 8 27, .inl (k 0, 12, .inl (fun _ => 0))), (u 8 28, .inl (k 0, 12, .inl (fun _ => 0))), (u 8 29, .inl (k 0, 12, .inl (fun _ => 0))), (u 8 30, .inl (k 0, 360, .inl (fun _ => 0))), (u 0 15, .inr (1, [.int 0, .ref (u 9 0), .ref (u 9 8), .ref (u 9 18)])), (u 9 0, .inr (2, [.int 0, .int 0, .int 0, .int 0, .int 0, .ref (u 9 1), .ref (u 9 2), .ref (u 9 3), .ref (u 9 4), .ref (u 9 5), .ref (u 9 6), .ref (u 9 7)])), (u 9 1, .inl (k 0, 6, .inl (fun _ => 0))), (u 9 2, .inl (k 0, 9, .inl (fun _ => 0))), (u 9 3, .inl (k 0, 4, .inl (fun _ => 0))), (u 9 4, .inl (k 0, 12, .inl (fun _ => 0))), (u 9 5, .inl (k 0, 12, .inl (fun _ => 0))), (u 9 6, .inl (k 0, 12, .inl (fun _ => 0))), (u 9 7, .inl (k 0, 12, .inl (fun _ => 0))), (u 9 8, .inr (6, [.int 0, .int 0, .int (-1), .int 0, .int 0, .int 0, .ref (u 9 9), .ref (u 9 10), .ref (u 9 11), .ref (u 9 12), .ref (u 9 13), .ref (u 9 14), .ref (u 9 15), .ref (u 9 16), .ref (u 9 17)])), (u 9 9, .inl (k 0, 6, .inl (fun _ => 0))), (u 9 10, .inl (k 0, 9, .inl (fun _ => 0))), (u 9 11, .inl (k 0, 12, .inl (fun _ => 0))), (u 9 12, .inl (k 0, 12, .inl (fun _ => 0))), (u 9 13, .inl (k 0, 12, .inl (fun _ => 0))), (u 9 14, .inl (k 0, 12, .inl (fun _ => 0))), (u 9 15, .inl (k 0, 12, .inl (fun _ => 0))), (u 9 16, .inl (k 0, 12, .inl (fun _ => 0))), (u 9 17, .inl (k 0, 72, .inl (fun _ => 0))), (u 9 18, .inr (0, [.int 0, .int 0, .ref (u 9 19), .ref (u 9 20), .int 0, .ref (u 9 21), .int 0, .ref (u 9 22), .ref (u 9 23), .ref (u 9 24), .ref (u 9 25), .int 0, .ref (u 9 26), .ref (u 9 27), .ref (u 9 28), .ref (u 9 29), .ref (u 9 30)])), (u 9 19, .inl (k 0, 6, .inl (fun _ => 0))), (u 9 20, .inl (k 0, 36, .inl (fun _ => 0))), (u 9 21, .inl (k 0, 20, .inl (fun _ => 0))), (u 9 22, .inl (k 0, 20, .inl (fun _ => 0))), (u 9 23, .inl (k 0, 20, .inl (fun _ => 0))), (u 9 24, .inl (k 0, 20, .inl (fun _ => 0))), (u 9 25, .inl (k 0, 20, .inl (fun _ => 0))), (u 9 26, .inl (k 0, 12, .inl (fun _ => 0))), (u 9 27, .inl (k 0, 12, .inl (fun _ => 0))), (u 9 28, .inl (k 0, 12, .inl (fun _ => 0))), (u 9 29, .inl (k 0, 12, .inl (fun _ => 0))), (u 9 30, .inl (k 0, 360, .inl (fun _ => 0))), (u 0 16, .inr (1, [.int 0, .ref (u 10 0), .ref (u 10 8), .ref (u 10 18)])), (u 10 0, .inr (2, [.int 0, .int 0, .int 0, .int 0, .int 0, .ref (u 10 1), .ref (u 10 2), .ref (u 10 3), .ref (u 10 4), .ref (u 10 5), .ref (u 10 6), .ref (u 10 7)])), (u 10 1, .inl (k 0, 6, .inl (fun _ => 0))), (u 10 2, .inl (k 0, 9, .inl (fun _ => 0))), (u 10 3, .inl (k 0, 4, .inl (fun _ => 0))), (u 10 4, .inl (k 0, 12, .inl (fun _ => 0))), (u 10 5, .inl (k 0, 12, .inl (fun _ => 0))), (u 10 6, .inl (k 0, 12, .inl (fun _ => 0))), (u 10 7, .inl (k 0, 12, .inl (fun _ => 0))), (u 10 8, .inr (6, [.int 0, .int 0, .int (-1), .int 0, .int 0, .int 0, .ref (u 10 9), .ref (u 10 10), .ref (u 10 11), .ref (u 10 12), .ref (u 10 13), .ref (u 10 14), .ref (u 10 15), .ref (u 10 16), .ref (u 10 17)])), (u 10 9, .inl (k 0, 6, .inl (fun _ => 0))), (u 10 10, .inl (k 0, 9, .inl (fun _ => 0))), (u 10 11, .inl (k 0, 12, .inl (fun _ => 0))), (u 10 12, .inl (k 0, 12, .inl (fun _ => 0))), (u 10 13, .inl (k 0, 12, .inl (fun _ => 0))), (u 10 14, .inl (k 0, 12, .inl (fun _ => 0))), (u 10 15, .inl (k 0, 12, .inl (fun _ => 0))), (u 10 16, .inl (k 0, 12, .inl (fun _ => 0))), (u 10 17, .inl (k 0, 72, .inl (fun _ => 0))), (u 10 18, .inr (0, [.int 0, .int 0, .ref (u 10 19), .ref (u 10 20), .int 0, .ref (u 10 21), .int 0, .ref (u 10 22), .ref (u 10 23), .ref (u 10 24), .ref (u 10 25), .int 0, .ref (u 10 26), .ref (u 10 27), .ref (u 10 28), .ref (u 10 29), .ref (u 10 30)])), (u 10 19, .inl (k 0, 6, .inl (fun _ => 0))), (u 10 20, .inl (k 0, 36, .inl (fun _ => 0))), (u 10 21, .inl (k 0, 20, .inl (fun _ => 0))), (u 10 22, .inl (k 0, 20, .inl (fun _ => 0))), (u 10 23, .inl (k 0, 20, .inl (fun _ => 0))), (u 10 24, .inl (k 0, 20, .inl (fun _ => 0))), (u 10 25, .inl (k 0, 20, .inl (fun _ => 0))), (u 10 26, .inl (k 0, 12, .inl (fun _ => 0))), (u 10 27, .inl (k 0, 12, .inl (fun _ => 0))), (u 10 28, .inl (k 0, 12, .inl (fun _ => 0))), (u 10 29, .inl (k 0, 12, .inl (fun _ => 0))), (u 10 30, .inl (k 0, 360, .inl (fun _ => 0))), (u 0 18, .inl (k 0, 6, .inl (fun _ => 0))), (u 0 19, .inl (k 0, 6, .inl (fun _ => 0))), (u 0 20, .inl (k 0, 6, .inl (fun _ => 0))), (u 0 21, .inl (k 0, 64, .inl (fun _ => 0))), (y, .inr (10, [.int 0, .ref (v 1), .ref (v 2), .ref (v 3), .ref (v 4), .ref (v 5), .ref (v 6), .ref (v 7), .ref (v 8), .ref (v 9), .ref (v 10), .ref (v 11), .ref (v 12), .ref (v 13), .ref (v 14), .ref (v 15), .ref (v 16), .ref (v 17), .ref (v 18), .ref (v 19), .ref (v 20), .ref (v 21), .ref (v 22), .ref (v 23), .ref (v 24), .ref (v 25), .ref (v 26), .ref (v 27), .ref (v 28), .ref (v 29), .ref (v 30), .ref (v 31), .ref (v 32), .ref (v 33), .ref (v 34), .ref (v 35), .ref (v 36), .int 0, .int 0, .int 0, .int 0, .int 0, .int 0, .int 0, .int 0, .int 0, .int 13, .int 0, .ref (v 48), .ref (v 49), .ref (v 50), .ref (v 51), .ref (v 52), .ref (v 53), .ref (v 54), .ref (v 55), .ref (v 56), .ref (v 57), .ref (v 58), .ref (v 59), .ref (v 60), .int 0, .int 0, .int 0, .int 0, .int 0, .int 0, .int 0, .ref (v 68), .ref (v 69), .ref (v 70), .ref (v 71), .ref (v 72), .int 0, .int 0, .ref (v 75), .ref (v 76), .ref (v 77), .int 0, .int 0])), (v 1, .inl (k 0, 17, .inl (scal0))), (v 2, .inl (k 0, 9, .inl (fun _ => 0))), (v 3, .inl (k 0, 9, .inl (fun _ => 0))), (v 4, .inl (k 0, 4, .inl (fun _ => 0))), (v 5, .inl (k 0, 6, .inl (fun _ => 0))), (v 6, .inl (k 0, 6, .inl (fun _ => 0))), (v 7, .inl (k 0, 6, .inl (fun _ => 0))), (v 8, .inl (k 0, 36, .inl (fun _ => 0))), (v 9, .inl (k 0, 12, .inl (fun _ => 0))), (v 10, .inl (k 0, 12, .inl (fun _ => 0))), (v 11, .inl (k 0, 12, .inl (fun _ => 0))), (v 12, .inl (k 0, 12, .inl (fun _ => 0))), (v 13, .inl (k 0, 12, .inl (fun _ => 0))), (v 14, .inl (k 0, 12, .inl (fun _ => 0))), (v 15, .inl (k 0, 12, .inl (fun _ => 0))), (v 16, .inl (k 0, 12, .inl (fun _ => 0))), (v 17, .inl (k 0, 12, .inl (fun _ => 0))), (v 18, .inl (k 0, 72, .inl (fun _ => 0))), (v 19, .inl (k 0, 20, .inl (fun _ => 0))), (v 20, .inl (k 0, 20, .inl (fun _ => 0))), (v 21, .inl (k 0, 20, .inl (fun _ => 0))), (v 22, .inl (k 0, 20, .inl (fun _ => 0))), (v 23, .inl (k 0, 20, .inl (fun _ => 0))), (v 24, .inl (k 0, 12, .inl (fun _ => 0))), (v 25, .inl (k 0, 12, .inl (fun _ => 0))), (v 26, .inl (k 0, 12, .inl (fun _ => 0))), (v 27, .inl (k 0, 12, .inl (fun _ => 0))), (v 28, .inl (k 0, 360, .inl (fun _ => 0))), (v 29, .inl (k 0, 5, .inl (fun _ => 0))), (v 30, .inl (k 0, 9, .inl (fun _ => 0))), (v 31, .inl (k 0, 4, .inl (fun _ => 0))), (v 32, .inl (k 0, 6, .inl (fun _ => 0))), (v 33, .inl (k 0, 12, .inl (fun _ => 0))), (v 34, .inl (k 0, 12, .inl (fun _ => 0))), (v 35, .inl (k 0, 12, .inl (fun _ => 0))), (v 36, .inl (k 0, 12, .inl (fun _ => 0))), (v 48, .inl (k 5, 400, .inl (fun _ => 0))), (v 49, .inl (k 0, 1800, .inl (fun _ => 0))), (v 50, .inl (k 0, 1800, .inl (fun _ => 0))), (v 51, .inl (k 0, 6, .inl (fun _ => 0))), (v 52, .inl (k 0, 72, .inl (fun _ => 0))), (v 53, .inl (k 0, 72, .inl (fun _ => 0))), (v 54, .inl (k 0, 72, .inl (fun _ => 0))), (v 55, .inl (k 0, 72, .inl (fun _ => 0))), (v 56, .inl (k 0, 402, .inl (fun _ => 0))), (v 57, .inl (k 1, 13, .inr (.inl (fun _ => 0)))), (v 58, .inl (k 1, 300, .inr (.inl (fun _ => 0)))), (v 59, .inl (k 0, 12, .inl (fun _ => 0))), (v 60, .inl (k 1, 12, .inr (.inl (fun _ => 0)))), (v 68, .inl (k 0, 12, .inl (fun _ => 0))), (v 69, .inl (k 0, 12, .inl (fun _ => 0))), (v 70, .inl (k 0, 12, .inl (fun _ => 0))), (v 71, .inl (k 0, 6, .inl (fun _ => 0))), (v 72, .inl (k 0, 6, .inl (fun _ => 0))), (v 75, .inl (k 0, 64, .inl (fun _ => 0))), (v 76, .inl (k 0, 4500, .inl (fun _ => 0))), (v 77, .inl (k 2, 4, .inl (fun _ => 0)))]
set_option maxHeartbeats 4000000 in
set_option maxRecDepth 100000 in
theorem WL_eq (k : Nat → ClassId) (x : Nat) (u : Nat → Nat → Nat) (y : Nat) (v : Nat → Nat) : G9n k x u ++ G10 k y v = WL k x u y v := by
  simp only [G9n, G10, WL, G7, G3, G5, G4, G2, G8, G1, List.cons_append, List.nil_append, List.append_nil]
def adL (x : Nat) (u : Nat → Nat → Nat) (y : Nat) (v : Nat → Nat) : List Nat := [x, u 0 3, u 0 6, u 0 18, u 0 19, u 0 20, u 0 21, u 0 0, u 1 0, u 0 1, u 2 0, u 2 1, u 2 2, u 2 3, u 2 4, u 2 5, u 2 6, u 2 7, u 0 2, u 0 7, u 4 0, u 4 1, u 0 8, u 11 0, u 11 1, u 0 9, u 12 0, u 12 1, u 0 10, u 13 0, u 13 1, u 0 11, u 14 0, u 14 1, u 0 12, u 15 0, u 15 1, u 0 5, u 6 0, u 6 1, u 6 2, u 6 3, u 6 4, u 6 5, u 6 6, u 0 4, u 5 0, u 5 1, u 5 2, u 5 3, u 5 4, u 5 5, u 5 6, u 5 7, u 5 8, u 5 9, u 5 10, u 5 11, u 5 12, u 5 13, u 5 14, u 5 15, u 5 16, u 5 17, u 5 18, u 5 19, u 5 20, u 5 21, u 5 22, u 5 23, u 5 24, u 5 25, u 5 26, u 0 17, u 16 0, u 16 1, u 16 2, u 16 3, u 16 4, u 16 5, u 16 6, u 16 7, u 16 8, u 16 9, u 16 10, u 16 11, u 16 12, u 16 13, u 16 14, u 16 15, u 16 16, u 16 17, u 16 18, u 16 19, u 16 20, u 16 21, u 16 22, u 16 23, u 16 24, u 16 25, u 16 26, u 0 13, u 7 0, u 7 1, u 7 2, u 7 3, u 7 4, u 7 5, u 7 6, u 7 7, u 7 8, u 7 9, u 7 10, u 7 11, u 7 12, u 7 13, u 7 14, u 7 15, u 7 16, u 7 17, u 7 18, u 7 19, u 7 20, u 7 21, u 7 22, u 7 23, u 7 24, u 7 25, u 7 26, u 7 27, u 7 28, u 7 29, u 7 30, u 0 14, u 8 0, u 8 1, u 8 2, u 8 3, u 8 4, u 8 5, u 8 6, u 8 7, u 8 8, u 8 9, u 8 10, u 8 11, u 8 12, u 8 13, u 8 14, u 8 15, u 8 16, u 8 17, u 8 18, u 8 19, u 8 20, u 8 21, u 8 22, u 8 23, u 8 24, u 8 25, u 8 26, u 8 27, u 8 28, u 8 29, u 8 30, u 0 15, u 9 0, u 9 1, u 9 2, u 9 3, u 9 4, u 9 5, u 9 6, u 9 7, u 9 8, u 9 9, u 9 10, u 9 11, u 9 12, u 9 13, u 9 14, u 9 15, u 9 16, u 9 17, u 9 18, u 9 19, u 9 20, u 9 21, u 9 22, u 9 23, u 9 24, u 9 25, u 9 26, u 9 27, u 9 28, u 9 29, u 9 30, u 0 16, u 10 0, u 10 1, u 10 2, u 10 3, u 10 4, u 10 5, u 10 6, u 10 7, u 10 8, u 10 9, u 10 10, u 10 11, u 10 12, u 10 13, u 10 14, u 10 15, u 10 16, u 10 17, u 10 18, u 10 19, u 10 20, u 10 21, u 10 22, u 10 23, u 10 24, u 10 25, u 10 26, u 10 27, u 10 28, u 10 29, u 10 30, y, v 1, v 2, v 3, v 4, v 5, v 6, v 7, v 8, v 9, v 10, v 11, v 12, v 13, v 14, v 15, v 16, v 17, v 18, v 19, v 20, v 21, v 22, v 23, v 24, v 25, v 26, v 27, v 28, v 29, v 30, v 31, v 32, v 33, v 34, v 35, v 36, v 48, v 49, v 50, v 51, v 52, v 53, v 54, v 55, v 56, v 57, v 58, v 59, v 60, v 68, v 69, v 70, v 71, v 72, v 75, v 76, v 77]
def adF (x : Nat) (u : Nat → Nat → Nat) (y : Nat) (v : Nat → Nat) : Nat → Nat := fun c => (adL x u y v).getD c 0
def adA (x : Nat) (u : Nat → Nat → Nat) (y : Nat) (v : Nat → Nat) : List Nat := [x, u 0 3, u 0 6]
def adR (x : Nat) (u : Nat → Nat → Nat) (y : Nat) (v : Nat → Nat) : List Nat := [u 0 18, u 0 19, u 0 20, u 0 21]
def adB (x : Nat) (u : Nat → Nat → Nat) (y : Nat) (v : Nat → Nat) : List Nat := [u 0 0, u 1 0, u 0 1, u 2 0, u 2 1, u 2 2, u 2 3, u 2 4, u 2 5, u 2 6, u 2 7, u 0 2, u 0 7, u 4 0, u 4 1, u 0 8, u 11 0, u 11 1, u 0 9, u 12 0, u 12 1, u 0 10, u 13 0, u 13 1, u 0 11, u 14 0, u 14 1, u 0 12, u 15 0, u 15 1, u 0 5, u 6 0, u 6 1, u 6 2, u 6 3, u 6 4, u 6 5, u 6 6, u 0 4, u 5 0, u 5 1, u 5 2, u 5 3, u 5 4, u 5 5, u 5 6, u 5 7, u 5 8, u 5 9, u 5 10, u 5 11, u 5 12, u 5 13, u 5 14, u 5 15, u 5 16, u 5 17, u 5 18, u 5 19, u 5 20, u 5 21, u 5 22, u 5 23, u 5 24, u 5 25, u 5 26, u 0 17, u 16 0, u 16 1, u 16 2, u 16 3, u 16 4, u 16 5, u 16 6, u 16 7, u 16 8, u 16 9, u 16 10, u 16 11, u 16 12, u 16 13, u 16 14, u 16 15, u 16 16, u 16 17, u 16 18, u 16 19, u 16 20, u 16 21, u 16 22, u 16 23, u 16 24, u 16 25, u 16 26, u 0 13, u 7 0, u 7 1, u 7 2, u 7 3, u 7 4, u 7 5, u 7 6, u 7 7, u 7 8, u 7 9, u 7 10, u 7 11, u 7 12, u 7 13, u 7 14, u 7 15, u 7 16, u 7 17, u 7 18, u 7 19, u 7 20, u 7 21, u 7 22, u 7 23, u 7 24, u 7 25, u 7 26, u 7 27, u 7 28, u 7 29, u 7 30, u 0 14, u 8 0, u 8 1, u 8 2, u 8 3, u 8 4, u 8 5, u 8 6, u 8 7, u 8 8, u 8 9, u 8 10, u 8 11, u 8 12, u 8 13, u 8 14, u 8 15, u 8 16, u 8 17, u 8 18, u 8 19, u 8 20, u 8 21, u 8 22, u 8 23, u 8 24, u 8 25, u 8 26, u 8 27, u 8 28, u 8 29, u 8 30, u 0 15, u 9 0, u 9 1, u 9 2, u 9 3, u 9 4, u 9 5, u 9 6, u 9 7, u 9 8, u 9 9, u 9 10, u 9 11, u 9 12, u 9 13, u 9 14, u 9 15, u 9 16, u 9 17, u 9 18, u 9 19, u 9 20, u 9 21, u 9 22, u 9 23, u 9 24, u 9 25, u 9 26, u 9 27, u 9 28, u 9 29, u 9 30, u 0 16, u 10 0, u 10 1, u 10 2, u 10 3, u 10 4, u 10 5, u 10 6, u 10 7, u 10 8, u 10 9, u 10 10, u 10 11, u 10 12, u 10 13, u 10 14, u 10 15, u 10 16, u 10 17, u 10 18, u 10 19, u 10 20, u 10 21, u 10 22, u 10 23, u 10 24, u 10 25, u 10 26, u 10 27, u 10 28, u 10 29, u 10 30]
def adC (x : Nat) (u : Nat → Nat → Nat) (y : Nat) (v : Nat → Nat) : List Nat := [y, v 1, v 2, v 3, v 4, v 5, v 6, v 7, v 8, v 9, v 10, v 11, v 12, v 13, v 14, v 15, v 16, v 17, v 18, v 19, v 20, v 21, v 22, v 23, v 24, v 25, v 26, v 27, v 28, v 29, v 30, v 31, v 32, v 33, v 34, v 35, v 36, v 48, v 49, v 50, v 51, v 52, v 53, v 54, v 55, v 56, v 57, v 58, v 59, v 60, v 68, v 69, v 70, v 71, v 72, v 75, v 76, v 77]
set_option maxRecDepth 100000 in
theorem adL_eq (x : Nat) (u : Nat → Nat → Nat) (y : Nat) (v : Nat → Nat) : adL x u y v = adA x u y v ++ (adR x u y v ++ (adB x u y v ++ adC x u y v)) := rfl
set_option maxHeartbeats 4000000 in
set_option maxRecDepth 100000 in
theorem WL_fst (k : Nat → ClassId) (x : Nat) (u : Nat → Nat → Nat) (y : Nat) (v : Nat → Nat) : (WL k x u y v).map Prod.fst = adA x u y v ++ (adB x u y v ++ (adR x u y v ++ adC x u y v)) := rfl
theorem WL_perm (k : Nat → ClassId) (x : Nat) (u : Nat → Nat → Nat) (y : Nat) (v : Nat → Nat) : List.Perm ((WL k x u y v).map Prod.fst) (adL x u y v) := by
  rw [WL_fst, adL_eq]
  refine List.Perm.append_left _ ?_
  rw [← List.append_assoc, ← List.append_assoc]
  exact List.Perm.append_right _ List.perm_append_comm
theorem WL_nodup {A : Nat → Prop} {k : Nat → ClassId} {x : Nat} {u : Nat → Nat → Nat} {y : Nat} {v : Nat → Nat} (h : va_D A (WL k x u y v)) : (adL x u y v).Nodup := by
  refine (WL_perm k x u y v).nodup ?_
  rw [List.Nodup, List.pairwise_map]
  exact List.pairwise_iff_getElem.mpr (fun i j hi hj hij e => absurd (h.1 i j _ _ (List.getElem?_eq_getElem hi) (List.getElem?_eq_getElem hj) e) (Nat.ne_of_lt hij))
set_option maxRecDepth 100000 in
theorem adL_len (x : Nat) (u : Nat → Nat → Nat) (y : Nat) (v : Nat → Nat) : (adL x u y v).length = zNC := rfl
theorem adF_at {x : Nat} {u : Nat → Nat → Nat} {y : Nat} {v : Nat → Nat} {c : Nat} (h : c < zNC) : (adL x u y v)[c]? = some (adF x u y v c) := by
  have hl : c < (adL x u y v).length := by rw [adL_len]; exact h
  rw [List.getElem?_eq_getElem hl]
  show some _ = some ((adL x u y v).getD c 0)
  rw [List.getD_eq_getElem?_getD, List.getElem?_eq_getElem hl]
  rfl
theorem adF_inj {A : Nat → Prop} {k : Nat → ClassId} {x : Nat} {u : Nat → Nat → Nat} {y : Nat} {v : Nat → Nat} (h : va_D A (WL k x u y v)) : zJ (adF x u y v) := by
  intro a b ha hb e
  have n := WL_nodup h
  have la : a < (adL x u y v).length := by rw [adL_len]; exact ha
  have lb : b < (adL x u y v).length := by rw [adL_len]; exact hb
  have ea := adF_at (x := x) (u := u) (y := y) (v := v) ha
  have eb := adF_at (x := x) (u := u) (y := y) (v := v) hb
  rw [List.getElem?_eq_getElem la] at ea
  rw [List.getElem?_eq_getElem lb] at eb
  have e2 : (adL x u y v)[a] = (adL x u y v)[b] := by
    rw [Option.some.inj ea, Option.some.inj eb, e]
  have pw := List.pairwise_iff_getElem.mp n
  rcases Nat.lt_trichotomy a b with h' | h' | h'
  · exact absurd e2 (pw a b la lb h')
  · exact h'
  · exact absurd e2.symm (pw b a lb la h')
theorem adF_in {A : Nat → Prop} {k : Nat → ClassId} {x : Nat} {u : Nat → Nat → Nat} {y : Nat} {v : Nat → Nat} (h : va_D A (WL k x u y v)) (c : Nat) (hc : c < zNC) : A (adF x u y v c) := by
  have m : adF x u y v c ∈ (WL k x u y v).map Prod.fst := (WL_perm k x u y v).mem_iff.mpr (List.mem_of_getElem? (adF_at hc))
  obtain ⟨q, hq, e⟩ := List.mem_map.mp m
  obtain ⟨i, hi⟩ := List.getElem?_of_mem hq
  rw [← e]
  exact h.2 i q hi
def M0 : zM := fun c j => if c = 229 then (if j = 46 then 13 else 0) else if c = 230 then (if j = 6 ∨ j = 15 then -1 else 0) else if c = 46 ∨ c = 74 ∨ c = 110 ∨ c = 142 ∨ c = 174 ∨ c = 206 then (if j = 2 then -1 else 0) else 0
def L0 : Nat → Nat → Int64 := fun _ _ => 0
theorem getD_all {P : Int × Int → Bool} (d : Int × Int) (hd : P d = true) : ∀ (l : List (Int × Int)) (n : Nat), l.all P = true → P (l.getD n d) = true
  | [], n, _ => by simpa using hd
  | a :: l, 0, h => by
    rw [List.all_cons, Bool.and_eq_true] at h
    simpa using h.1
  | a :: l, n + 1, h => by
    rw [List.all_cons, Bool.and_eq_true] at h
    have := getD_all d hd l n h.2
    simpa using this
def zr0 (r : Int × Int) : Bool := decide (r.1 ≤ 0) && decide (0 ≤ r.2)
theorem zr0_of {r : Int × Int} (h : zr0 r = true) : r.1 ≤ 0 ∧ 0 ≤ r.2 := by
  unfold zr0 at h
  rw [Bool.and_eq_true, decide_eq_true_eq, decide_eq_true_eq] at h
  exact h
theorem zRg_all : ∀ c : Nat, c < 287 → c ≠ 229 → (zRg.getD c []).all zr0 = true := by decide +kernel
theorem zRg_229 : ∀ j : Nat, j < 80 → j ≠ 46 → (zlo 229 j ≤ 0 ∧ 0 ≤ zhi 229 j) := by decide +kernel
theorem zRg_len : (zRg.getD 229 []).length = 80 := by decide +kernel
theorem zRg_top : zRg.length = 287 := by decide +kernel
theorem z0_at (c j : Nat) (h : c ≠ 229 ∨ j ≠ 46) : zlo c j ≤ 0 ∧ 0 ≤ zhi c j := by
  by_cases hc : c = 229
  · subst hc
    by_cases hj : j < 80
    · exact zRg_229 j hj (by omega)
    · have e : (zRg.getD 229 []).getD (if zix 229 then j else 0) (-2147483648, 2147483647) = (-2147483648, 2147483647) := by
        rw [if_pos (by decide), List.getD_eq_getElem?_getD, List.getElem?_eq_none (by rw [zRg_len]; omega)]
        rfl
      unfold zlo zhi
      rw [e]
      decide
  · by_cases h2 : c < 287
    · exact zr0_of (getD_all (-2147483648, 2147483647) (by decide) _ (if zix c then j else 0) (zRg_all c h2 hc))
    · have e : zRg.getD c [] = [] := by
        rw [List.getD_eq_getElem?_getD, List.getElem?_eq_none (by rw [zRg_top]; omega)]
        rfl
      unfold zlo zhi
      rw [e]
      exact ⟨(by show (-2147483648 : Int) ≤ 0; decide), (by show (0 : Int) ≤ 2147483647; decide)⟩
theorem z0_229_46 : zlo 229 46 ≤ 13 ∧ 13 ≤ zhi 229 46 := by decide +kernel
theorem z0_230_6 : zlo 230 6 ≤ (-1) ∧ (-1) ≤ zhi 230 6 := by decide +kernel
theorem z0_230_15 : zlo 230 15 ≤ (-1) ∧ (-1) ≤ zhi 230 15 := by decide +kernel
theorem z0_46_2 : zlo 46 2 ≤ (-1) ∧ (-1) ≤ zhi 46 2 := by decide +kernel
theorem z0_74_2 : zlo 74 2 ≤ (-1) ∧ (-1) ≤ zhi 74 2 := by decide +kernel
theorem z0_110_2 : zlo 110 2 ≤ (-1) ∧ (-1) ≤ zhi 110 2 := by decide +kernel
theorem z0_142_2 : zlo 142 2 ≤ (-1) ∧ (-1) ≤ zhi 142 2 := by decide +kernel
theorem z0_174_2 : zlo 174 2 ≤ (-1) ∧ (-1) ≤ zhi 174 2 := by decide +kernel
theorem z0_206_2 : zlo 206 2 ≤ (-1) ∧ (-1) ≤ zhi 206 2 := by decide +kernel
theorem z0_iv : zIv M0 := by
  intro c j
  by_cases c1 : c = 229
  · subst c1
    by_cases j1 : j = 46
    · subst j1; exact z0_229_46
    · have e : M0 229 j = 0 := by unfold M0; rw [if_pos rfl, if_neg j1]
      rw [e]; exact z0_at 229 j (Or.inr j1)
  · by_cases c2 : c = 230
    · subst c2
      by_cases j1 : j = 6
      · subst j1; exact z0_230_6
      · by_cases j2 : j = 15
        · subst j2; exact z0_230_15
        · have e : M0 230 j = 0 := by unfold M0; rw [if_neg (by omega), if_pos rfl, if_neg (by omega)]
          rw [e]; exact z0_at 230 j (Or.inl (by omega))
    · by_cases c3 : c = 46 ∨ c = 74 ∨ c = 110 ∨ c = 142 ∨ c = 174 ∨ c = 206
      · by_cases j1 : j = 2
        · subst j1
          rcases c3 with rfl | rfl | rfl | rfl | rfl | rfl
          · exact z0_46_2
          · exact z0_74_2
          · exact z0_110_2
          · exact z0_142_2
          · exact z0_174_2
          · exact z0_206_2
        · have e : M0 c j = 0 := by unfold M0; rw [if_neg c1, if_neg c2, if_pos c3, if_neg j1]
          rw [e]; exact z0_at c j (Or.inl c1)
      · have e : M0 c j = 0 := by unfold M0; rw [if_neg c1, if_neg c2, if_neg c3]
        rw [e]; exact z0_at c j (Or.inl c1)
theorem at_o {D : va_G} {cl : List vw_C} {a ci : Nat} {fs fs' : List Value} {H : Heap} (h : va_at D cl (a, .inr (ci, fs)) H) (e : fs = fs') : va_at D cl (a, .inr (ci, fs')) H := by subst e; exact h
theorem arrV_congr {cA : ClassId} {n : Nat} {f g : Nat → Value} (h : ∀ j : Nat, j < n → f j = g j) : arrV cA n f = arrV cA n g := by
  have e : (fun j : Fin n => f j.val) = fun j : Fin n => g j.val := funext (fun j => h j.val j.isLt)
  unfold arrV
  rw [e]
theorem at_i {D : va_G} {cl : List vw_C} {a n : Nat} {kk : ClassId} {f g : Nat → Int32} {H : Heap} (h : va_at D cl (a, .inl (kk, n, .inl f)) H) (e : ∀ j : Nat, j < n → f j = g j) : va_at D cl (a, .inl (kk, n, .inl g)) H := by
  show H[a]? = some (arrV kk n (fun j => .int (g j)))
  rw [← arrV_congr (f := fun j => .int (f j)) (fun j hj => by rw [e j hj])]
  exact h
theorem at_q {D : va_G} {cl : List vw_C} {a n : Nat} {kk : ClassId} {f g : Nat → Option Nat} {H : Heap} (h : va_at D cl (a, .inl (kk, n, .inr (.inr (.inr (.inr f))))) H) (e : ∀ j : Nat, j < n → f j = g j) : va_at D cl (a, .inl (kk, n, .inr (.inr (.inr (.inr g))))) H := by
  show H[a]? = some (arrV kk n (fun j => va_rf (g j)))
  rw [← arrV_congr (f := fun j => va_rf (f j)) (fun j hj => by rw [e j hj])]
  exact h
theorem va_P.nil9 {D : va_G} {cl : List vw_C} {H : Heap} : va_P D cl ([] : va_W) H := fun i q h => by simp at h
theorem va_P.cons9 {D : va_G} {cl : List vw_C} {q : Nat × va_E} {ws : va_W} {H : Heap} (h : va_at D cl q H) (t : va_P D cl ws H) : va_P D cl (q :: ws) H := by
  intro i p hp
  cases i with
  | zero =>
    rw [List.getElem?_cons_zero] at hp
    cases hp; exact h
  | succ i =>
    rw [List.getElem?_cons_succ] at hp
    exact t i p hp
theorem scal0_at : ∀ j : Nat, j < 17 → scal0 j = Int32.ofInt (M0 230 j) := by decide +kernel
set_option maxHeartbeats 4000000 in
set_option maxRecDepth 100000 in
theorem hpc_0 {D : va_G} {k : Nat → ClassId} {x : Nat} {u : Nat → Nat → Nat} {y : Nat} {v : Nat → Nat} {H : Heap} (hP : va_P D vwCl (WL k x u y v) H) : va_P D vwCl (([0, 1, 2, 3, 4, 5, 6, 7, 8, 9, 10, 11, 12, 13, 14, 15, 16, 17, 18, 19, 20, 21, 22, 23] : List Nat).map (fun c => (adF x u y v c, ent k (adF x u y v) M0 L0 c))) H :=
  (va_P.cons9 (at_o (hP 0 _ rfl) rfl)
  (va_P.cons9 (at_q (hP 1 _ rfl) (fun j hj => by
    have hj : j < 6 := hj
    have hj2 : j = 0 ∨ j = 1 ∨ j = 2 ∨ j = 3 ∨ j = 4 ∨ j = 5 := by omega
    rcases hj2 with rfl | rfl | rfl | rfl | rfl | rfl <;> rfl))
  (va_P.cons9 (at_q (hP 2 _ rfl) (fun j hj => by
    have hj : j < 4 := hj
    have hj2 : j = 0 ∨ j = 1 ∨ j = 2 ∨ j = 3 := by omega
    rcases hj2 with rfl | rfl | rfl | rfl <;> rfl))
  (va_P.cons9 (at_i (hP 225 _ rfl) (fun _ _ => rfl))
  (va_P.cons9 (at_i (hP 226 _ rfl) (fun _ _ => rfl))
  (va_P.cons9 (at_i (hP 227 _ rfl) (fun _ _ => rfl))
  (va_P.cons9 (at_i (hP 228 _ rfl) (fun _ _ => rfl))
  (va_P.cons9 (at_o (hP 3 _ rfl) rfl)
  (va_P.cons9 (at_i (hP 4 _ rfl) (fun _ _ => rfl))
  (va_P.cons9 (at_o (hP 5 _ rfl) rfl)
  (va_P.cons9 (at_o (hP 6 _ rfl) rfl)
  (va_P.cons9 (at_i (hP 7 _ rfl) (fun _ _ => rfl))
  (va_P.cons9 (at_i (hP 8 _ rfl) (fun _ _ => rfl))
  (va_P.cons9 (at_i (hP 9 _ rfl) (fun _ _ => rfl))
  (va_P.cons9 (at_i (hP 10 _ rfl) (fun _ _ => rfl))
  (va_P.cons9 (at_i (hP 11 _ rfl) (fun _ _ => rfl))
  (va_P.cons9 (at_i (hP 12 _ rfl) (fun _ _ => rfl))
  (va_P.cons9 (at_i (hP 13 _ rfl) (fun _ _ => rfl))
  (va_P.cons9 (at_o (hP 14 _ rfl) rfl)
  (va_P.cons9 (at_o (hP 15 _ rfl) rfl)
  (va_P.cons9 (at_i (hP 16 _ rfl) (fun _ _ => rfl))
  (va_P.cons9 (hP 17 _ rfl)
  (va_P.cons9 (at_o (hP 18 _ rfl) rfl)
  (va_P.cons9 (at_i (hP 19 _ rfl) (fun _ _ => rfl))
  va_P.nil9))))))))))))))))))))))))
set_option maxHeartbeats 4000000 in
set_option maxRecDepth 100000 in
theorem hpc_1 {D : va_G} {k : Nat → ClassId} {x : Nat} {u : Nat → Nat → Nat} {y : Nat} {v : Nat → Nat} {H : Heap} (hP : va_P D vwCl (WL k x u y v) H) : va_P D vwCl (([24, 25, 26, 27, 28, 29, 30, 31, 32, 33, 34, 35, 36, 37, 38, 39, 40, 41, 42, 43, 44, 45, 46, 47] : List Nat).map (fun c => (adF x u y v c, ent k (adF x u y v) M0 L0 c))) H :=
  (va_P.cons9 (hP 20 _ rfl)
  (va_P.cons9 (at_o (hP 21 _ rfl) rfl)
  (va_P.cons9 (at_i (hP 22 _ rfl) (fun _ _ => rfl))
  (va_P.cons9 (hP 23 _ rfl)
  (va_P.cons9 (at_o (hP 24 _ rfl) rfl)
  (va_P.cons9 (at_i (hP 25 _ rfl) (fun _ _ => rfl))
  (va_P.cons9 (hP 26 _ rfl)
  (va_P.cons9 (at_o (hP 27 _ rfl) rfl)
  (va_P.cons9 (at_i (hP 28 _ rfl) (fun _ _ => rfl))
  (va_P.cons9 (hP 29 _ rfl)
  (va_P.cons9 (at_o (hP 30 _ rfl) rfl)
  (va_P.cons9 (at_i (hP 31 _ rfl) (fun _ _ => rfl))
  (va_P.cons9 (hP 32 _ rfl)
  (va_P.cons9 (at_o (hP 33 _ rfl) rfl)
  (va_P.cons9 (at_i (hP 34 _ rfl) (fun _ _ => rfl))
  (va_P.cons9 (at_i (hP 35 _ rfl) (fun _ _ => rfl))
  (va_P.cons9 (at_i (hP 36 _ rfl) (fun _ _ => rfl))
  (va_P.cons9 (at_i (hP 37 _ rfl) (fun _ _ => rfl))
  (va_P.cons9 (at_i (hP 38 _ rfl) (fun _ _ => rfl))
  (va_P.cons9 (at_i (hP 39 _ rfl) (fun _ _ => rfl))
  (va_P.cons9 (at_i (hP 40 _ rfl) (fun _ _ => rfl))
  (va_P.cons9 (at_o (hP 41 _ rfl) rfl)
  (va_P.cons9 (at_o (hP 42 _ rfl) rfl)
  (va_P.cons9 (at_i (hP 43 _ rfl) (fun _ _ => rfl))
  va_P.nil9))))))))))))))))))))))))
set_option maxHeartbeats 4000000 in
set_option maxRecDepth 100000 in
theorem hpc_2 {D : va_G} {k : Nat → ClassId} {x : Nat} {u : Nat → Nat → Nat} {y : Nat} {v : Nat → Nat} {H : Heap} (hP : va_P D vwCl (WL k x u y v) H) : va_P D vwCl (([48, 49, 50, 51, 52, 53, 54, 55, 56, 57, 58, 59, 60, 61, 62, 63, 64, 65, 66, 67, 68, 69, 70, 71] : List Nat).map (fun c => (adF x u y v c, ent k (adF x u y v) M0 L0 c))) H :=
  (va_P.cons9 (at_i (hP 44 _ rfl) (fun _ _ => rfl))
  (va_P.cons9 (at_i (hP 45 _ rfl) (fun _ _ => rfl))
  (va_P.cons9 (at_i (hP 46 _ rfl) (fun _ _ => rfl))
  (va_P.cons9 (at_i (hP 47 _ rfl) (fun _ _ => rfl))
  (va_P.cons9 (at_i (hP 48 _ rfl) (fun _ _ => rfl))
  (va_P.cons9 (at_i (hP 49 _ rfl) (fun _ _ => rfl))
  (va_P.cons9 (at_i (hP 50 _ rfl) (fun _ _ => rfl))
  (va_P.cons9 (at_i (hP 51 _ rfl) (fun _ _ => rfl))
  (va_P.cons9 (at_o (hP 52 _ rfl) rfl)
  (va_P.cons9 (at_i (hP 53 _ rfl) (fun _ _ => rfl))
  (va_P.cons9 (at_i (hP 54 _ rfl) (fun _ _ => rfl))
  (va_P.cons9 (at_i (hP 55 _ rfl) (fun _ _ => rfl))
  (va_P.cons9 (at_i (hP 56 _ rfl) (fun _ _ => rfl))
  (va_P.cons9 (at_i (hP 57 _ rfl) (fun _ _ => rfl))
  (va_P.cons9 (at_i (hP 58 _ rfl) (fun _ _ => rfl))
  (va_P.cons9 (at_i (hP 59 _ rfl) (fun _ _ => rfl))
  (va_P.cons9 (at_i (hP 60 _ rfl) (fun _ _ => rfl))
  (va_P.cons9 (at_i (hP 61 _ rfl) (fun _ _ => rfl))
  (va_P.cons9 (at_i (hP 62 _ rfl) (fun _ _ => rfl))
  (va_P.cons9 (at_i (hP 63 _ rfl) (fun _ _ => rfl))
  (va_P.cons9 (at_i (hP 64 _ rfl) (fun _ _ => rfl))
  (va_P.cons9 (at_i (hP 65 _ rfl) (fun _ _ => rfl))
  (va_P.cons9 (hP 66 _ rfl)
  (va_P.cons9 (at_i (hP 67 _ rfl) (fun _ _ => rfl))
  va_P.nil9))))))))))))))))))))))))
set_option maxHeartbeats 4000000 in
set_option maxRecDepth 100000 in
theorem hpc_3 {D : va_G} {k : Nat → ClassId} {x : Nat} {u : Nat → Nat → Nat} {y : Nat} {v : Nat → Nat} {H : Heap} (hP : va_P D vwCl (WL k x u y v) H) : va_P D vwCl (([72, 73, 74, 75, 76, 77, 78, 79, 80, 81, 82, 83, 84, 85, 86, 87, 88, 89, 90, 91, 92, 93, 94, 95] : List Nat).map (fun c => (adF x u y v c, ent k (adF x u y v) M0 L0 c))) H :=
  (va_P.cons9 (hP 68 _ rfl)
  (va_P.cons9 (at_o (hP 69 _ rfl) rfl)
  (va_P.cons9 (at_o (hP 70 _ rfl) rfl)
  (va_P.cons9 (at_i (hP 71 _ rfl) (fun _ _ => rfl))
  (va_P.cons9 (at_i (hP 72 _ rfl) (fun _ _ => rfl))
  (va_P.cons9 (at_i (hP 73 _ rfl) (fun _ _ => rfl))
  (va_P.cons9 (at_i (hP 74 _ rfl) (fun _ _ => rfl))
  (va_P.cons9 (at_i (hP 75 _ rfl) (fun _ _ => rfl))
  (va_P.cons9 (at_i (hP 76 _ rfl) (fun _ _ => rfl))
  (va_P.cons9 (at_i (hP 77 _ rfl) (fun _ _ => rfl))
  (va_P.cons9 (at_i (hP 78 _ rfl) (fun _ _ => rfl))
  (va_P.cons9 (at_i (hP 79 _ rfl) (fun _ _ => rfl))
  (va_P.cons9 (at_o (hP 80 _ rfl) rfl)
  (va_P.cons9 (at_i (hP 81 _ rfl) (fun _ _ => rfl))
  (va_P.cons9 (at_i (hP 82 _ rfl) (fun _ _ => rfl))
  (va_P.cons9 (at_i (hP 83 _ rfl) (fun _ _ => rfl))
  (va_P.cons9 (at_i (hP 84 _ rfl) (fun _ _ => rfl))
  (va_P.cons9 (at_i (hP 85 _ rfl) (fun _ _ => rfl))
  (va_P.cons9 (at_i (hP 86 _ rfl) (fun _ _ => rfl))
  (va_P.cons9 (at_i (hP 87 _ rfl) (fun _ _ => rfl))
  (va_P.cons9 (at_i (hP 88 _ rfl) (fun _ _ => rfl))
  (va_P.cons9 (at_i (hP 89 _ rfl) (fun _ _ => rfl))
  (va_P.cons9 (at_i (hP 90 _ rfl) (fun _ _ => rfl))
  (va_P.cons9 (at_i (hP 91 _ rfl) (fun _ _ => rfl))
  va_P.nil9))))))))))))))))))))))))
set_option maxHeartbeats 4000000 in
set_option maxRecDepth 100000 in
theorem hpc_4 {D : va_G} {k : Nat → ClassId} {x : Nat} {u : Nat → Nat → Nat} {y : Nat} {v : Nat → Nat} {H : Heap} (hP : va_P D vwCl (WL k x u y v) H) : va_P D vwCl (([96, 97, 98, 99, 100, 101, 102, 103, 104, 105, 106, 107, 108, 109, 110, 111, 112, 113, 114, 115, 116, 117, 118, 119] : List Nat).map (fun c => (adF x u y v c, ent k (adF x u y v) M0 L0 c))) H :=
  (va_P.cons9 (at_i (hP 92 _ rfl) (fun _ _ => rfl))
  (va_P.cons9 (at_i (hP 93 _ rfl) (fun _ _ => rfl))
  (va_P.cons9 (hP 94 _ rfl)
  (va_P.cons9 (at_i (hP 95 _ rfl) (fun _ _ => rfl))
  (va_P.cons9 (hP 96 _ rfl)
  (va_P.cons9 (at_o (hP 97 _ rfl) rfl)
  (va_P.cons9 (at_o (hP 98 _ rfl) rfl)
  (va_P.cons9 (at_i (hP 99 _ rfl) (fun _ _ => rfl))
  (va_P.cons9 (at_i (hP 100 _ rfl) (fun _ _ => rfl))
  (va_P.cons9 (at_i (hP 101 _ rfl) (fun _ _ => rfl))
  (va_P.cons9 (at_i (hP 102 _ rfl) (fun _ _ => rfl))
  (va_P.cons9 (at_i (hP 103 _ rfl) (fun _ _ => rfl))
  (va_P.cons9 (at_i (hP 104 _ rfl) (fun _ _ => rfl))
  (va_P.cons9 (at_i (hP 105 _ rfl) (fun _ _ => rfl))
  (va_P.cons9 (at_o (hP 106 _ rfl) rfl)
  (va_P.cons9 (at_i (hP 107 _ rfl) (fun _ _ => rfl))
  (va_P.cons9 (at_i (hP 108 _ rfl) (fun _ _ => rfl))
  (va_P.cons9 (at_i (hP 109 _ rfl) (fun _ _ => rfl))
  (va_P.cons9 (at_i (hP 110 _ rfl) (fun _ _ => rfl))
  (va_P.cons9 (at_i (hP 111 _ rfl) (fun _ _ => rfl))
  (va_P.cons9 (at_i (hP 112 _ rfl) (fun _ _ => rfl))
  (va_P.cons9 (at_i (hP 113 _ rfl) (fun _ _ => rfl))
  (va_P.cons9 (at_i (hP 114 _ rfl) (fun _ _ => rfl))
  (va_P.cons9 (at_i (hP 115 _ rfl) (fun _ _ => rfl))
  va_P.nil9))))))))))))))))))))))))
set_option maxHeartbeats 4000000 in
set_option maxRecDepth 100000 in
theorem hpc_5 {D : va_G} {k : Nat → ClassId} {x : Nat} {u : Nat → Nat → Nat} {y : Nat} {v : Nat → Nat} {H : Heap} (hP : va_P D vwCl (WL k x u y v) H) : va_P D vwCl (([120, 121, 122, 123, 124, 125, 126, 127, 128, 129, 130, 131, 132, 133, 134, 135, 136, 137, 138, 139, 140, 141, 142, 143] : List Nat).map (fun c => (adF x u y v c, ent k (adF x u y v) M0 L0 c))) H :=
  (va_P.cons9 (at_o (hP 116 _ rfl) rfl)
  (va_P.cons9 (at_i (hP 117 _ rfl) (fun _ _ => rfl))
  (va_P.cons9 (at_i (hP 118 _ rfl) (fun _ _ => rfl))
  (va_P.cons9 (at_i (hP 119 _ rfl) (fun _ _ => rfl))
  (va_P.cons9 (at_i (hP 120 _ rfl) (fun _ _ => rfl))
  (va_P.cons9 (at_i (hP 121 _ rfl) (fun _ _ => rfl))
  (va_P.cons9 (at_i (hP 122 _ rfl) (fun _ _ => rfl))
  (va_P.cons9 (at_i (hP 123 _ rfl) (fun _ _ => rfl))
  (va_P.cons9 (at_i (hP 124 _ rfl) (fun _ _ => rfl))
  (va_P.cons9 (at_i (hP 125 _ rfl) (fun _ _ => rfl))
  (va_P.cons9 (at_i (hP 126 _ rfl) (fun _ _ => rfl))
  (va_P.cons9 (at_i (hP 127 _ rfl) (fun _ _ => rfl))
  (va_P.cons9 (at_i (hP 128 _ rfl) (fun _ _ => rfl))
  (va_P.cons9 (at_o (hP 129 _ rfl) rfl)
  (va_P.cons9 (at_o (hP 130 _ rfl) rfl)
  (va_P.cons9 (at_i (hP 131 _ rfl) (fun _ _ => rfl))
  (va_P.cons9 (at_i (hP 132 _ rfl) (fun _ _ => rfl))
  (va_P.cons9 (at_i (hP 133 _ rfl) (fun _ _ => rfl))
  (va_P.cons9 (at_i (hP 134 _ rfl) (fun _ _ => rfl))
  (va_P.cons9 (at_i (hP 135 _ rfl) (fun _ _ => rfl))
  (va_P.cons9 (at_i (hP 136 _ rfl) (fun _ _ => rfl))
  (va_P.cons9 (at_i (hP 137 _ rfl) (fun _ _ => rfl))
  (va_P.cons9 (at_o (hP 138 _ rfl) rfl)
  (va_P.cons9 (at_i (hP 139 _ rfl) (fun _ _ => rfl))
  va_P.nil9))))))))))))))))))))))))
set_option maxHeartbeats 4000000 in
set_option maxRecDepth 100000 in
theorem hpc_6 {D : va_G} {k : Nat → ClassId} {x : Nat} {u : Nat → Nat → Nat} {y : Nat} {v : Nat → Nat} {H : Heap} (hP : va_P D vwCl (WL k x u y v) H) : va_P D vwCl (([144, 145, 146, 147, 148, 149, 150, 151, 152, 153, 154, 155, 156, 157, 158, 159, 160, 161, 162, 163, 164, 165, 166, 167] : List Nat).map (fun c => (adF x u y v c, ent k (adF x u y v) M0 L0 c))) H :=
  (va_P.cons9 (at_i (hP 140 _ rfl) (fun _ _ => rfl))
  (va_P.cons9 (at_i (hP 141 _ rfl) (fun _ _ => rfl))
  (va_P.cons9 (at_i (hP 142 _ rfl) (fun _ _ => rfl))
  (va_P.cons9 (at_i (hP 143 _ rfl) (fun _ _ => rfl))
  (va_P.cons9 (at_i (hP 144 _ rfl) (fun _ _ => rfl))
  (va_P.cons9 (at_i (hP 145 _ rfl) (fun _ _ => rfl))
  (va_P.cons9 (at_i (hP 146 _ rfl) (fun _ _ => rfl))
  (va_P.cons9 (at_i (hP 147 _ rfl) (fun _ _ => rfl))
  (va_P.cons9 (at_o (hP 148 _ rfl) rfl)
  (va_P.cons9 (at_i (hP 149 _ rfl) (fun _ _ => rfl))
  (va_P.cons9 (at_i (hP 150 _ rfl) (fun _ _ => rfl))
  (va_P.cons9 (at_i (hP 151 _ rfl) (fun _ _ => rfl))
  (va_P.cons9 (at_i (hP 152 _ rfl) (fun _ _ => rfl))
  (va_P.cons9 (at_i (hP 153 _ rfl) (fun _ _ => rfl))
  (va_P.cons9 (at_i (hP 154 _ rfl) (fun _ _ => rfl))
  (va_P.cons9 (at_i (hP 155 _ rfl) (fun _ _ => rfl))
  (va_P.cons9 (at_i (hP 156 _ rfl) (fun _ _ => rfl))
  (va_P.cons9 (at_i (hP 157 _ rfl) (fun _ _ => rfl))
  (va_P.cons9 (at_i (hP 158 _ rfl) (fun _ _ => rfl))
  (va_P.cons9 (at_i (hP 159 _ rfl) (fun _ _ => rfl))
  (va_P.cons9 (at_i (hP 160 _ rfl) (fun _ _ => rfl))
  (va_P.cons9 (at_o (hP 161 _ rfl) rfl)
  (va_P.cons9 (at_o (hP 162 _ rfl) rfl)
  (va_P.cons9 (at_i (hP 163 _ rfl) (fun _ _ => rfl))
  va_P.nil9))))))))))))))))))))))))
set_option maxHeartbeats 4000000 in
set_option maxRecDepth 100000 in
theorem hpc_7 {D : va_G} {k : Nat → ClassId} {x : Nat} {u : Nat → Nat → Nat} {y : Nat} {v : Nat → Nat} {H : Heap} (hP : va_P D vwCl (WL k x u y v) H) : va_P D vwCl (([168, 169, 170, 171, 172, 173, 174, 175, 176, 177, 178, 179, 180, 181, 182, 183, 184, 185, 186, 187, 188, 189, 190, 191] : List Nat).map (fun c => (adF x u y v c, ent k (adF x u y v) M0 L0 c))) H :=
  (va_P.cons9 (at_i (hP 164 _ rfl) (fun _ _ => rfl))
  (va_P.cons9 (at_i (hP 165 _ rfl) (fun _ _ => rfl))
  (va_P.cons9 (at_i (hP 166 _ rfl) (fun _ _ => rfl))
  (va_P.cons9 (at_i (hP 167 _ rfl) (fun _ _ => rfl))
  (va_P.cons9 (at_i (hP 168 _ rfl) (fun _ _ => rfl))
  (va_P.cons9 (at_i (hP 169 _ rfl) (fun _ _ => rfl))
  (va_P.cons9 (at_o (hP 170 _ rfl) rfl)
  (va_P.cons9 (at_i (hP 171 _ rfl) (fun _ _ => rfl))
  (va_P.cons9 (at_i (hP 172 _ rfl) (fun _ _ => rfl))
  (va_P.cons9 (at_i (hP 173 _ rfl) (fun _ _ => rfl))
  (va_P.cons9 (at_i (hP 174 _ rfl) (fun _ _ => rfl))
  (va_P.cons9 (at_i (hP 175 _ rfl) (fun _ _ => rfl))
  (va_P.cons9 (at_i (hP 176 _ rfl) (fun _ _ => rfl))
  (va_P.cons9 (at_i (hP 177 _ rfl) (fun _ _ => rfl))
  (va_P.cons9 (at_i (hP 178 _ rfl) (fun _ _ => rfl))
  (va_P.cons9 (at_i (hP 179 _ rfl) (fun _ _ => rfl))
  (va_P.cons9 (at_o (hP 180 _ rfl) rfl)
  (va_P.cons9 (at_i (hP 181 _ rfl) (fun _ _ => rfl))
  (va_P.cons9 (at_i (hP 182 _ rfl) (fun _ _ => rfl))
  (va_P.cons9 (at_i (hP 183 _ rfl) (fun _ _ => rfl))
  (va_P.cons9 (at_i (hP 184 _ rfl) (fun _ _ => rfl))
  (va_P.cons9 (at_i (hP 185 _ rfl) (fun _ _ => rfl))
  (va_P.cons9 (at_i (hP 186 _ rfl) (fun _ _ => rfl))
  (va_P.cons9 (at_i (hP 187 _ rfl) (fun _ _ => rfl))
  va_P.nil9))))))))))))))))))))))))
set_option maxHeartbeats 4000000 in
set_option maxRecDepth 100000 in
theorem hpc_8 {D : va_G} {k : Nat → ClassId} {x : Nat} {u : Nat → Nat → Nat} {y : Nat} {v : Nat → Nat} {H : Heap} (hP : va_P D vwCl (WL k x u y v) H) : va_P D vwCl (([192, 193, 194, 195, 196, 197, 198, 199, 200, 201, 202, 203, 204, 205, 206, 207, 208, 209, 210, 211, 212, 213, 214, 215] : List Nat).map (fun c => (adF x u y v c, ent k (adF x u y v) M0 L0 c))) H :=
  (va_P.cons9 (at_i (hP 188 _ rfl) (fun _ _ => rfl))
  (va_P.cons9 (at_i (hP 189 _ rfl) (fun _ _ => rfl))
  (va_P.cons9 (at_i (hP 190 _ rfl) (fun _ _ => rfl))
  (va_P.cons9 (at_i (hP 191 _ rfl) (fun _ _ => rfl))
  (va_P.cons9 (at_i (hP 192 _ rfl) (fun _ _ => rfl))
  (va_P.cons9 (at_o (hP 193 _ rfl) rfl)
  (va_P.cons9 (at_o (hP 194 _ rfl) rfl)
  (va_P.cons9 (at_i (hP 195 _ rfl) (fun _ _ => rfl))
  (va_P.cons9 (at_i (hP 196 _ rfl) (fun _ _ => rfl))
  (va_P.cons9 (at_i (hP 197 _ rfl) (fun _ _ => rfl))
  (va_P.cons9 (at_i (hP 198 _ rfl) (fun _ _ => rfl))
  (va_P.cons9 (at_i (hP 199 _ rfl) (fun _ _ => rfl))
  (va_P.cons9 (at_i (hP 200 _ rfl) (fun _ _ => rfl))
  (va_P.cons9 (at_i (hP 201 _ rfl) (fun _ _ => rfl))
  (va_P.cons9 (at_o (hP 202 _ rfl) rfl)
  (va_P.cons9 (at_i (hP 203 _ rfl) (fun _ _ => rfl))
  (va_P.cons9 (at_i (hP 204 _ rfl) (fun _ _ => rfl))
  (va_P.cons9 (at_i (hP 205 _ rfl) (fun _ _ => rfl))
  (va_P.cons9 (at_i (hP 206 _ rfl) (fun _ _ => rfl))
  (va_P.cons9 (at_i (hP 207 _ rfl) (fun _ _ => rfl))
  (va_P.cons9 (at_i (hP 208 _ rfl) (fun _ _ => rfl))
  (va_P.cons9 (at_i (hP 209 _ rfl) (fun _ _ => rfl))
  (va_P.cons9 (at_i (hP 210 _ rfl) (fun _ _ => rfl))
  (va_P.cons9 (at_i (hP 211 _ rfl) (fun _ _ => rfl))
  va_P.nil9))))))))))))))))))))))))
set_option maxHeartbeats 4000000 in
set_option maxRecDepth 100000 in
theorem hpc_9 {D : va_G} {k : Nat → ClassId} {x : Nat} {u : Nat → Nat → Nat} {y : Nat} {v : Nat → Nat} {H : Heap} (hP : va_P D vwCl (WL k x u y v) H) : va_P D vwCl (([216, 217, 218, 219, 220, 221, 222, 223, 224, 225, 226, 227, 228, 229, 230, 231, 232, 233, 234, 235, 236, 237, 238, 239] : List Nat).map (fun c => (adF x u y v c, ent k (adF x u y v) M0 L0 c))) H :=
  (va_P.cons9 (at_o (hP 212 _ rfl) rfl)
  (va_P.cons9 (at_i (hP 213 _ rfl) (fun _ _ => rfl))
  (va_P.cons9 (at_i (hP 214 _ rfl) (fun _ _ => rfl))
  (va_P.cons9 (at_i (hP 215 _ rfl) (fun _ _ => rfl))
  (va_P.cons9 (at_i (hP 216 _ rfl) (fun _ _ => rfl))
  (va_P.cons9 (at_i (hP 217 _ rfl) (fun _ _ => rfl))
  (va_P.cons9 (at_i (hP 218 _ rfl) (fun _ _ => rfl))
  (va_P.cons9 (at_i (hP 219 _ rfl) (fun _ _ => rfl))
  (va_P.cons9 (at_i (hP 220 _ rfl) (fun _ _ => rfl))
  (va_P.cons9 (at_i (hP 221 _ rfl) (fun _ _ => rfl))
  (va_P.cons9 (at_i (hP 222 _ rfl) (fun _ _ => rfl))
  (va_P.cons9 (at_i (hP 223 _ rfl) (fun _ _ => rfl))
  (va_P.cons9 (at_i (hP 224 _ rfl) (fun _ _ => rfl))
  (va_P.cons9 (at_o (hP 229 _ rfl) rfl)
  (va_P.cons9 (at_i (hP 230 _ rfl) scal0_at)
  (va_P.cons9 (at_i (hP 231 _ rfl) (fun _ _ => rfl))
  (va_P.cons9 (at_i (hP 232 _ rfl) (fun _ _ => rfl))
  (va_P.cons9 (at_i (hP 233 _ rfl) (fun _ _ => rfl))
  (va_P.cons9 (at_i (hP 234 _ rfl) (fun _ _ => rfl))
  (va_P.cons9 (at_i (hP 235 _ rfl) (fun _ _ => rfl))
  (va_P.cons9 (at_i (hP 236 _ rfl) (fun _ _ => rfl))
  (va_P.cons9 (at_i (hP 237 _ rfl) (fun _ _ => rfl))
  (va_P.cons9 (at_i (hP 238 _ rfl) (fun _ _ => rfl))
  (va_P.cons9 (at_i (hP 239 _ rfl) (fun _ _ => rfl))
  va_P.nil9))))))))))))))))))))))))
set_option maxHeartbeats 4000000 in
set_option maxRecDepth 100000 in
theorem hpc_10 {D : va_G} {k : Nat → ClassId} {x : Nat} {u : Nat → Nat → Nat} {y : Nat} {v : Nat → Nat} {H : Heap} (hP : va_P D vwCl (WL k x u y v) H) : va_P D vwCl (([240, 241, 242, 243, 244, 245, 246, 247, 248, 249, 250, 251, 252, 253, 254, 255, 256, 257, 258, 259, 260, 261, 262, 263] : List Nat).map (fun c => (adF x u y v c, ent k (adF x u y v) M0 L0 c))) H :=
  (va_P.cons9 (at_i (hP 240 _ rfl) (fun _ _ => rfl))
  (va_P.cons9 (at_i (hP 241 _ rfl) (fun _ _ => rfl))
  (va_P.cons9 (at_i (hP 242 _ rfl) (fun _ _ => rfl))
  (va_P.cons9 (at_i (hP 243 _ rfl) (fun _ _ => rfl))
  (va_P.cons9 (at_i (hP 244 _ rfl) (fun _ _ => rfl))
  (va_P.cons9 (at_i (hP 245 _ rfl) (fun _ _ => rfl))
  (va_P.cons9 (at_i (hP 246 _ rfl) (fun _ _ => rfl))
  (va_P.cons9 (at_i (hP 247 _ rfl) (fun _ _ => rfl))
  (va_P.cons9 (at_i (hP 248 _ rfl) (fun _ _ => rfl))
  (va_P.cons9 (at_i (hP 249 _ rfl) (fun _ _ => rfl))
  (va_P.cons9 (at_i (hP 250 _ rfl) (fun _ _ => rfl))
  (va_P.cons9 (at_i (hP 251 _ rfl) (fun _ _ => rfl))
  (va_P.cons9 (at_i (hP 252 _ rfl) (fun _ _ => rfl))
  (va_P.cons9 (at_i (hP 253 _ rfl) (fun _ _ => rfl))
  (va_P.cons9 (at_i (hP 254 _ rfl) (fun _ _ => rfl))
  (va_P.cons9 (at_i (hP 255 _ rfl) (fun _ _ => rfl))
  (va_P.cons9 (at_i (hP 256 _ rfl) (fun _ _ => rfl))
  (va_P.cons9 (at_i (hP 257 _ rfl) (fun _ _ => rfl))
  (va_P.cons9 (at_i (hP 258 _ rfl) (fun _ _ => rfl))
  (va_P.cons9 (at_i (hP 259 _ rfl) (fun _ _ => rfl))
  (va_P.cons9 (at_i (hP 260 _ rfl) (fun _ _ => rfl))
  (va_P.cons9 (at_i (hP 261 _ rfl) (fun _ _ => rfl))
  (va_P.cons9 (at_i (hP 262 _ rfl) (fun _ _ => rfl))
  (va_P.cons9 (at_i (hP 263 _ rfl) (fun _ _ => rfl))
  va_P.nil9))))))))))))))))))))))))
set_option maxHeartbeats 4000000 in
set_option maxRecDepth 100000 in
theorem hpc_11 {D : va_G} {k : Nat → ClassId} {x : Nat} {u : Nat → Nat → Nat} {y : Nat} {v : Nat → Nat} {H : Heap} (hP : va_P D vwCl (WL k x u y v) H) : va_P D vwCl (([264, 265, 266, 267, 268, 269, 270, 271, 272, 273, 274, 275, 276, 277, 278, 279, 280, 281, 282, 283, 284, 285, 286] : List Nat).map (fun c => (adF x u y v c, ent k (adF x u y v) M0 L0 c))) H :=
  (va_P.cons9 (at_i (hP 264 _ rfl) (fun _ _ => rfl))
  (va_P.cons9 (at_i (hP 265 _ rfl) (fun _ _ => rfl))
  (va_P.cons9 (at_i (hP 266 _ rfl) (fun _ _ => rfl))
  (va_P.cons9 (at_i (hP 267 _ rfl) (fun _ _ => rfl))
  (va_P.cons9 (at_i (hP 268 _ rfl) (fun _ _ => rfl))
  (va_P.cons9 (at_i (hP 269 _ rfl) (fun _ _ => rfl))
  (va_P.cons9 (at_i (hP 270 _ rfl) (fun _ _ => rfl))
  (va_P.cons9 (at_i (hP 271 _ rfl) (fun _ _ => rfl))
  (va_P.cons9 (at_i (hP 272 _ rfl) (fun _ _ => rfl))
  (va_P.cons9 (at_i (hP 273 _ rfl) (fun _ _ => rfl))
  (va_P.cons9 (at_i (hP 274 _ rfl) (fun _ _ => rfl))
  (va_P.cons9 (hP 275 _ rfl)
  (va_P.cons9 (hP 276 _ rfl)
  (va_P.cons9 (at_i (hP 277 _ rfl) (fun _ _ => rfl))
  (va_P.cons9 (hP 278 _ rfl)
  (va_P.cons9 (at_i (hP 279 _ rfl) (fun _ _ => rfl))
  (va_P.cons9 (at_i (hP 280 _ rfl) (fun _ _ => rfl))
  (va_P.cons9 (at_i (hP 281 _ rfl) (fun _ _ => rfl))
  (va_P.cons9 (at_i (hP 282 _ rfl) (fun _ _ => rfl))
  (va_P.cons9 (at_i (hP 283 _ rfl) (fun _ _ => rfl))
  (va_P.cons9 (at_i (hP 284 _ rfl) (fun _ _ => rfl))
  (va_P.cons9 (at_i (hP 285 _ rfl) (fun _ _ => rfl))
  (va_P.cons9 (at_i (hP 286 _ rfl) (fun _ _ => rfl))
  va_P.nil9)))))))))))))))))))))))
set_option maxRecDepth 100000 in
theorem zNC_range : List.range zNC = ([0, 1, 2, 3, 4, 5, 6, 7, 8, 9, 10, 11, 12, 13, 14, 15, 16, 17, 18, 19, 20, 21, 22, 23] : List Nat) ++ (([24, 25, 26, 27, 28, 29, 30, 31, 32, 33, 34, 35, 36, 37, 38, 39, 40, 41, 42, 43, 44, 45, 46, 47] : List Nat) ++ (([48, 49, 50, 51, 52, 53, 54, 55, 56, 57, 58, 59, 60, 61, 62, 63, 64, 65, 66, 67, 68, 69, 70, 71] : List Nat) ++ (([72, 73, 74, 75, 76, 77, 78, 79, 80, 81, 82, 83, 84, 85, 86, 87, 88, 89, 90, 91, 92, 93, 94, 95] : List Nat) ++ (([96, 97, 98, 99, 100, 101, 102, 103, 104, 105, 106, 107, 108, 109, 110, 111, 112, 113, 114, 115, 116, 117, 118, 119] : List Nat) ++ (([120, 121, 122, 123, 124, 125, 126, 127, 128, 129, 130, 131, 132, 133, 134, 135, 136, 137, 138, 139, 140, 141, 142, 143] : List Nat) ++ (([144, 145, 146, 147, 148, 149, 150, 151, 152, 153, 154, 155, 156, 157, 158, 159, 160, 161, 162, 163, 164, 165, 166, 167] : List Nat) ++ (([168, 169, 170, 171, 172, 173, 174, 175, 176, 177, 178, 179, 180, 181, 182, 183, 184, 185, 186, 187, 188, 189, 190, 191] : List Nat) ++ (([192, 193, 194, 195, 196, 197, 198, 199, 200, 201, 202, 203, 204, 205, 206, 207, 208, 209, 210, 211, 212, 213, 214, 215] : List Nat) ++ (([216, 217, 218, 219, 220, 221, 222, 223, 224, 225, 226, 227, 228, 229, 230, 231, 232, 233, 234, 235, 236, 237, 238, 239] : List Nat) ++ (([240, 241, 242, 243, 244, 245, 246, 247, 248, 249, 250, 251, 252, 253, 254, 255, 256, 257, 258, 259, 260, 261, 262, 263] : List Nat) ++ (([264, 265, 266, 267, 268, 269, 270, 271, 272, 273, 274, 275, 276, 277, 278, 279, 280, 281, 282, 283, 284, 285, 286] : List Nat)))))))))))) := by decide +kernel
theorem hp_start {D : va_G} {k : Nat → ClassId} {x : Nat} {u : Nat → Nat → Nat} {y : Nat} {v : Nat → Nat} {H : Heap} (hP : va_P D vwCl (WL k x u y v) H) : Hp D k (adF x u y v) M0 H := by
  refine ⟨z0_iv, L0, ?_⟩
  unfold wW
  rw [zNC_range]
  simp only [List.map_append]
  exact va_P.app (hpc_0 hP) (va_P.app (hpc_1 hP) (va_P.app (hpc_2 hP) (va_P.app (hpc_3 hP) (va_P.app (hpc_4 hP) (va_P.app (hpc_5 hP) (va_P.app (hpc_6 hP) (va_P.app (hpc_7 hP) (va_P.app (hpc_8 hP) (va_P.app (hpc_9 hP) (va_P.app (hpc_10 hP) (hpc_11 hP)))))))))))
theorem inv0 : Inv M0 := by
  have s1 : M0 (229 + 1) 1 = 0 := rfl
  have s3 : M0 (229 + 1) 3 = 0 := rfl
  have s41 : M0 229 41 = 0 := rfl
  have s57 : ∀ k : Nat, M0 (229 + 57) k = 0 := fun k => rfl
  refine ⟨⟨fun v hv => ?_, fun l hl => ?_, fun l hl => ?_, fun i hi => ?_, rfl⟩, fun o ho hm => ?_, ⟨fun v hv => ?_, fun l hl => ?_, fun l hl => ?_, fun q hq => ?_, fun k hk => ?_, fun h => ?_⟩, ⟨fun h => ?_, ?_, ?_, fun v hv => ?_, fun r hr => ?_⟩, fun l hl => ?_, fun k hk hm => ?_, by decide, rfl, fun k hk => ?_, fun k hk h1 => ?_⟩
  · have e : M0 37 1 = 0 := rfl
    omega
  · have e : M0 37 3 = 0 := rfl
    omega
  · have e : M0 37 3 = 0 := rfl
    omega
  · have e : M0 37 3 = 0 := rfl
    omega
  · rcases ho with rfl | rfl | rfl | rfl <;> exact absurd hm (by decide)
  · omega
  · omega
  · omega
  · have e : M0 (229 + 18) q = 0 := rfl
    omega
  · omega
  · omega
  · exact absurd h (by decide)
  · decide
  · decide
  · omega
  · omega
  · omega
  · have e := s57 k
    omega
  · have e : k = 0 ∨ k = 1 ∨ k = 2 ∨ k = 3 := by omega
    rcases e with rfl | rfl | rfl | rfl <;> rfl
  · have e := s57 k
    omega
theorem rel0 : RelA M0 := ⟨⟨fun _ => 0, 0, ⟨rfl, fun j hj => absurd hj (Nat.not_lt_zero j)⟩, ⟨rfl, fun j hj => absurd hj (Nat.not_lt_zero j)⟩⟩, rfl⟩
theorem relc0 : RelC M0 := ⟨rel0, ⟨rfl, rfl, rfl, rfl, rfl, rfl, rfl, rfl, ⟨(by decide : (0 : Int) ≤ 0), (by decide : (0 : Int) ≤ 999)⟩, fun j _ hv => absurd (show (j : Int) < 0 from hv) (by omega)⟩, fun k _ hm => absurd (show (0 : Int) = 1 from hm) (by decide)⟩
