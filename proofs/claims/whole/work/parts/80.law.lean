theorem am_law {L : Nat} {xs : Nat → Int32} (hL : L ≤ 3072) : am_wp L xs 2000 92 10000 0 0 [.ref 1000, am_du, am_du, am_du] [] [] (fun _ _ => 0) (fun r _ _ => r = some (.int 1)) := sorry
