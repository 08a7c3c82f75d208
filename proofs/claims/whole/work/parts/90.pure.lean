theorem pure_all (L : Nat) (xs : Nat → Int32) (hL : L ≤ 3076) : ∃ (n S SD F k : Nat) (σ0 τ0 : jj_S), f_Mesh_init n S SD F (fun _ _ => 0) (lc_v L xs 0) (lc_v L xs 1) (lc_v L xs 2) (lc_v L xs 3) = some σ0 ∧ f_rRef_init F (fun _ _ => 0) (lc_v L xs 0) (lc_v L xs 1) (lc_v L xs 2) (lc_v L xs 3) = some τ0 ∧ jl_lp (b_law n S SD F L xs) k σ0 τ0 4 = some () := by
  obtain ⟨F, hF⟩ : ∃ F : Nat, 300 ≤ F := ⟨300, Nat.le_refl _⟩
  obtain ⟨w, h, d, v, σ, τ, hD, H1, H2, hR⟩ := qq_init hF (lc_v L xs 0) (lc_v L xs 1) (lc_v L xs 2) (lc_v L xs 3)
  refine ⟨w * h, w * h * 6 * (2 * v), w * h * 6 * (2 * v) * d, F, 599 + 1, σ, τ, H1, H2, ?_⟩
  rw [pp_4]
  exact qq_law hF hL hD 599 4 σ τ 0 0 (by decide) (by omega) hR
