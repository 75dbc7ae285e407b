/-! own rows: numbers -/
theorem kc_nlt {x y : Int64} (h : y ≤ x) : ¬ lg_cmp x y < 0 := by
  have h1 := Int64.le_iff_toInt_le.mp h
  unfold lg_cmp
  by_cases a : x > y
  · rw [if_pos a]; decide
  · rw [if_neg a]
    by_cases b : x = y
    · rw [if_pos b]; decide
    · have a' : ¬ y.toInt < x.toInt := fun z => a (Int64.lt_iff_toInt_lt.mpr z)
      exact absurd (Int64.toInt_inj.mp (by omega)) b
theorem kc_lt {x y : Int64} (h : x < y) : lg_cmp x y < 0 := by
  have h1 := Int64.lt_iff_toInt_lt.mp h
  unfold lg_cmp
  have a : ¬ x > y := fun z => by have := Int64.lt_iff_toInt_lt.mp z; omega
  have b : ¬ x = y := fun z => by rw [z] at h1; omega
  rw [if_neg a, if_neg b]; decide
theorem kc_ngt {x y : Int64} (h : x ≤ y) : ¬ 0 < lg_cmp x y := by
  have h1 := Int64.le_iff_toInt_le.mp h
  unfold lg_cmp
  have a : ¬ x > y := fun z => by have := Int64.lt_iff_toInt_lt.mp z; omega
  rw [if_neg a]
  by_cases b : x = y
  · rw [if_pos b]; decide
  · rw [if_neg b]; decide
theorem kc_gt {x y : Int64} (h : y < x) : 0 < lg_cmp x y := by
  unfold lg_cmp
  rw [if_pos h]; decide
theorem kl_in {c j d : Nat} (h1 : c ≤ j) (h2 : j ≤ d) (hd : d < 2 ^ 31) : lN c ≤ (nI j).toInt64 ∧ (nI j).toInt64 ≤ lN d := by
  rw [nI_l (by omega)]
  exact ⟨(lN_le (by omega) (by omega)).mpr h1, (lN_le (by omega) (by omega)).mpr h2⟩
theorem kl_out {c d : Nat} {x : Int32} (h : x < nI c ∨ nI d < x) (hc : c < 2 ^ 31 := by decide) (hd : d < 2 ^ 31 := by decide) : x.toInt64 < lN c ∨ lN d < x.toInt64 := by
  rcases h with h | h
  · left
    have h1 := Int32.lt_iff_toInt_lt.mp h
    rw [nI_toInt hc] at h1
    rw [Int64.lt_iff_toInt_lt, lN_toInt hc, Int32.toInt_toInt64]
    exact h1
  · right
    have h1 := Int32.lt_iff_toInt_lt.mp h
    rw [nI_toInt hd] at h1
    rw [Int64.lt_iff_toInt_lt, lN_toInt hd, Int32.toInt_toInt64]
    exact h1
theorem kl_none (x : Int32) : x.toInt64 < 0 ∨ -1 < x.toInt64 := by
  by_cases h : x.toInt < 0
  · left
    rw [Int64.lt_iff_toInt_lt, Int32.toInt_toInt64]
    exact h
  · right
    rw [Int64.lt_iff_toInt_lt, Int32.toInt_toInt64]
    have e : (-1 : Int64).toInt = -1 := by decide
    rw [e]
    omega
theorem kf_ne {j k : Nat} {v : Int32} (h : j ≠ k) : upd (fun _ => (0 : Int32)) k v j = 0 := by simp [upd, h]
