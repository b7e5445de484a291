theorem gw_m1 {a b : Cond} {l : List Cond} (h : a ∈ l) : a ∈ b :: l := List.mem_cons_of_mem _ h
theorem gw_m8 {a b1 b2 b3 b4 b5 b6 b7 b8 : Cond} {l : List Cond} (h : a ∈ l) : a ∈ b1 :: b2 :: b3 :: b4 :: b5 :: b6 :: b7 :: b8 :: l := gw_m1 (gw_m1 (gw_m1 (gw_m1 (gw_m1 (gw_m1 (gw_m1 (gw_m1 h)))))))
