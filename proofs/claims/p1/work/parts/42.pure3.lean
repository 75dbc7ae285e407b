/-! own rows: numbers of the script -/
theorem kl_rng {c d : Nat} {x : Int32} (h : ¬ (x < nI c ∨ nI d < x)) (hc : c < 2 ^ 31 := by decide) (hd : d < 2 ^ 31 := by decide) : ∃ j : Nat, c ≤ j ∧ j ≤ d ∧ x = nI j := by
  have h1 : ¬ x.toInt < (c : Int) := fun q => h (Or.inl (Int32.lt_iff_toInt_lt.mpr (by rw [nI_toInt hc]; exact q)))
  have h2 : ¬ (d : Int) < x.toInt := fun q => h (Or.inr (Int32.lt_iff_toInt_lt.mpr (by rw [nI_toInt hd]; exact q)))
  refine ⟨x.toInt.toNat, by omega, by omega, ?_⟩
  apply Int32.toInt_inj.mp
  rw [nI_toInt (by omega)]
  omega
theorem kl_and15 (x : Int32) : ∃ n : Nat, n < 16 ∧ x &&& 15 = nI n := by
  have hb : (x &&& 15).toBitVec.toNat < 16 := by
    have e : (x &&& 15).toBitVec = x.toBitVec &&& 15#32 := rfl
    rw [e, BitVec.toNat_and]
    exact Nat.lt_of_le_of_lt Nat.and_le_right (by decide)
  have hI : (x &&& 15).toInt = ((x &&& 15).toBitVec.toNat : Int) := by
    show (x &&& 15).toBitVec.toInt = _
    rw [BitVec.toInt_eq_toNat_of_lt (by omega)]
  refine ⟨(x &&& 15).toBitVec.toNat, hb, ?_⟩
  apply Int32.toInt_inj.mp
  rw [nI_toInt (by omega), hI]
theorem kl_short {L : Nat} (h : L ≤ 3) : Int32.ofNat L - 4 < 0 := by
  match L, h with
  | 0, _ => decide
  | 1, _ => decide
  | 2, _ => decide
  | 3, _ => decide
  | L + 4, h => exact absurd h (by omega)
