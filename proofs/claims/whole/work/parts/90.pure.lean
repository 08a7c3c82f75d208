theorem pure_all (L : Nat) (xs : Nat → Int32) (hL : L ≤ 3076) : ∃ (n S SD F k : Nat) (σ0 τ0 : jj_S), f_Mesh_init n S SD F (fun _ _ => 0) (lc_v L xs 0) (lc_v L xs 1) (lc_v L xs 2) (lc_v L xs 3) = some σ0 ∧ f_rRef_init F (fun _ _ => 0) (lc_v L xs 0) (lc_v L xs 1) (lc_v L xs 2) (lc_v L xs 3) = some τ0 ∧ jl_lp (b_law n S SD F L xs) k σ0 τ0 4 = some () := by
  sorry
