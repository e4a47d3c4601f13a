/-! HOW MANY THINGS THERE CAN BE -/
theorem th_bound {G : LG} {Hs : List (Int → Int)} (h : TH G Hs) : (gS G 1000 42) ≤ 59999 := sorry
