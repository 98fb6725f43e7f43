theorem byt_eq2 (v : Int64) (n : Nat) (hn : n < 8) : ((v >>> ((8 * nI n).toInt64 &&& 63)) &&& 255).toInt32 = byt v n := by
  rw [byt, show (8 : Int32) = nI 8 from rfl, pk_mul]
  have hk : 8 * n ≤ 56 := by omega
  generalize 8 * n = k at hk
  have h1 : ((nI k).toInt64 &&& 63).toBitVec.smod 64 = BitVec.ofNat 64 k := (by decide +kernel : ∀ k : Nat, k < 64 → ((nI k).toInt64 &&& 63).toBitVec.smod 64 = BitVec.ofNat 64 k) k (by omega)
  have h2 : ((nI k).toInt64.toUInt64 &&& Int64.toUInt64 63).toBitVec % 64 = BitVec.ofNat 64 k := (by decide +kernel : ∀ k : Nat, k < 64 → ((nI k).toInt64.toUInt64 &&& Int64.toUInt64 63).toBitVec % 64 = BitVec.ofNat 64 k) k (by omega)
  apply Int32.toBitVec_inj.mp
  show ((v.toBitVec.sshiftRight' (((nI k).toInt64 &&& 63).toBitVec.smod 64)) &&& 255#64).signExtend 32 = ((v.toBitVec >>> (((nI k).toInt64.toUInt64 &&& Int64.toUInt64 63).toBitVec % 64)).signExtend 32) &&& 255#32
  rw [h1, h2, BitVec.sshiftRight_eq', BitVec.ushiftRight_eq', BitVec.toNat_ofNat, Nat.mod_eq_of_lt (by omega)]
  apply BitVec.eq_of_getLsbD_eq
  intro i hi
  have b1 : (255#64).getLsbD i = decide (i < 8) := (by decide +kernel : ∀ i : Nat, i < 32 → (255#64).getLsbD i = decide (i < 8)) i hi
  have b2 : (255#32).getLsbD i = decide (i < 8) := (by decide +kernel : ∀ i : Nat, i < 32 → (255#32).getLsbD i = decide (i < 8)) i hi
  rw [BitVec.getLsbD_and, b2, BitVec.signExtend_eq_setWidth_of_le _ (by omega), BitVec.signExtend_eq_setWidth_of_le _ (by omega), BitVec.getLsbD_setWidth, BitVec.getLsbD_setWidth, BitVec.getLsbD_and, b1, BitVec.getLsbD_ushiftRight, BitVec.getLsbD_sshiftRight]
  by_cases h8 : i < 8
  · rw [if_pos (show k + i < 64 by omega), decide_eq_true hi, decide_eq_true h8, decide_eq_false (show ¬ 64 ≤ i by omega)]
    simp
  · rw [decide_eq_false h8]
    simp
theorem putF_agree (v : Int64) : ∀ (n k : Nat) (f g : Nat → Int32), (∀ j : Nat, j < k → f j = g j) → ∀ j : Nat, j < k + n → putF v n k f j = putF v n k g j := by
  intro n
  induction n with
  | zero =>
    intro k f g h j hj
    exact h j hj
  | succ n ih =>
    intro k f g h j hj
    rw [putF, putF]
    refine ih (k + 1) _ _ (fun a ha => ?_) j (by omega)
    by_cases e : a = k
    · subst e
      rw [pk_us, pk_us]
    · rw [pk_un e, pk_un e]
      exact h a (by omega)
theorem byteAt_agree {f g : Nat → Int32} {r : Nat} (hr : r ≤ 500) (h : ∀ j : Nat, j < r → f j = g j) (i : Int32) : byteAt f (nI r) i = byteAt g (nI r) i := by
  by_cases h0 : i < 0
  · rw [byteAt_a h0, byteAt_a h0]
  by_cases h1 : nI r ≤ i
  · rw [byteAt_b h1, byteAt_b h1]
  by_cases h2 : nI 500 ≤ i
  · rw [byteAt_c h2, byteAt_c h2]
  rw [byteAt_in h0 h1 h2, byteAt_in h0 h1 h2]
  obtain ⟨j, hj, rfl⟩ := nI_of h0
  rw [nI_clamp hj]
  exact h j (nI_lt_of hj h1)
def lvv (a b : Int32) : Int64 := (a.toInt64 <<< ((32 : Int32).toInt64 &&& 63)) ||| (b.toInt64 &&& 4294967295)
theorem nI_le150 {n : Nat} (h : n ≤ 150) : nI n ≤ 150 := nI_le (b := 150) h (by decide)
theorem nI_le500 {n : Nat} (h : n ≤ 500) : nI n ≤ 500 := nI_le (b := 500) h (by decide)
theorem law_i {i L : Nat} (hL : L ≤ 2048) (hi : i ≤ L) {x : Int32} (e : x = nI L - 4) (c : ¬ x < nI i) : i + 4 ≤ L := by
  have h1 := Int32.not_lt.mp c
  rw [e, show nI L - 4 = nI L - nI 4 from rfl, Int32.le_iff_toInt_le, pk_sub_toInt (by omega) (by omega), nI_toInt (by omega)] at h1
  omega
