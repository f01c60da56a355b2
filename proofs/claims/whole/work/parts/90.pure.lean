theorem pure_all (L : Nat) (hL : L ≤ 384) (xs : Nat → Int32) : Wp 40 M_L none 18 [.ref 0, .ref 4, .ref 106, .int (nI 0)] [] (S0 L, hin xs) (fun r _ => r = some (.int 1)) := sorry
