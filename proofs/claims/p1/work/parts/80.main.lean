theorem wp_main (L : Nat) (hL : L ≤ 5) (xs : Nat → Int32) : ∃ res : Int32 × wc_S, wf_law_23 L xs 600 0 0 wc_0 = some res ∧ res.1 = 1 := by
  sorry
