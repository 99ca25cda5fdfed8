/-! a text: the signs of a long, by bits -/
theorem z255 : ∀ i, i < 32 → (255#32).getLsbD i = decide (i < 8) := by decide
theorem zbits (x : BitVec 64) (n : Nat) (hn : n ≤ 56) : BitVec.signExtend 32 (x >>> n) &&& 255#32 = BitVec.signExtend 32 (x.sshiftRight n) &&& 255#32 := by
  apply BitVec.eq_of_getLsbD_eq
  intro i hi
  rw [BitVec.getLsbD_and, BitVec.getLsbD_and, z255 i hi]
  by_cases q : i < 8
  · have h1 : i < 64 := by omega
    have h2 : n + i < 64 := by omega
    rw [BitVec.getLsbD_signExtend, BitVec.getLsbD_signExtend, if_pos h1, if_pos h1, BitVec.getLsbD_ushiftRight, BitVec.getLsbD_sshiftRight, if_pos h2, decide_eq_false (show ¬ 64 ≤ i by omega)]
    rfl
  · simp [q]
theorem zsh1 : ∀ k, k < 8 → (nI (8 * k)).toInt64.toUInt64 &&& Int64.toUInt64 63 = UInt64.ofNat (8 * k) := by decide
theorem zsh2 : ∀ k, k < 8 → (nI (8 * k)).toInt64 &&& 63 = Int64.ofNat (8 * k) := by decide
theorem zsh3 : ∀ k, k < 8 → ((8#64 * BitVec.ofNat 64 k).smod 64#64).toNat = 8 * k := by decide
theorem uCd_eq (y : Int64) (k : Nat) (hk : k < 8) : uCd y k = rCd y k := by
  unfold uCd rCd
  rw [zsh1 k hk, zsh2 k hk]
  apply Int32.toBitVec_inj.mp
  have h3 := zsh3 k hk
  have h4 : (nI 255).toBitVec = 255#32 := by decide
  have h5 : 8 * k % 64 = 8 * k := by omega
  simp only [Int32.toBitVec_and, h4]
  simp
  rw [h3, h5]
  exact zbits y.toBitVec (8 * k) (by omega)
