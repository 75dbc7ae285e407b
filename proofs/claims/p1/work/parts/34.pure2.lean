/-! own rows: numbers, once more -/
theorem kl_tab {c d : Nat} {x : Int32} (h : x < nI c ∨ nI d < x) (hc : c < 2 ^ 31 := by decide) (hd : d < 2 ^ 31 := by decide) : x.toInt < (c : Int) ∨ (d : Int) < x.toInt := by
  rcases h with h | h
  · left
    have h1 := Int32.lt_iff_toInt_lt.mp h
    rw [nI_toInt hc] at h1
    exact h1
  · right
    have h1 := Int32.lt_iff_toInt_lt.mp h
    rw [nI_toInt hd] at h1
    exact h1
theorem kl_15 {x : Int32} (h : 15 < x) : ¬ x < 16 := by
  intro h2
  have h1 := Int32.lt_iff_toInt_lt.mp h
  have h3 := Int32.lt_iff_toInt_lt.mp h2
  have e1 : (15 : Int32).toInt = 15 := by decide
  have e2 : (16 : Int32).toInt = 16 := by decide
  omega
theorem kc_self (x : Int64) : lg_cmp x x = 0 := by
  unfold lg_cmp
  rw [if_neg (show ¬ x > x from fun h => by have := Int64.lt_iff_toInt_lt.mp h; omega), if_pos rfl]
