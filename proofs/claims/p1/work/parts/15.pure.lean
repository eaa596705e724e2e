theorem law_true {L : Nat} {xs : Nat → Int32} (hL : L ≤ 5) : f_law_loop L xs 2 sg0 0 = some () := sorry
