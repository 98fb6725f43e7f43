/-! numbers and rows -/
def byteAt (g : Nat → Int32) (ln i : Int32) : Int32 := if ¬ i < 0 ∧ ¬ ln ≤ i ∧ ¬ nI 500 ≤ i then g i.toNatClampNeg else -1
theorem byteAt_in {g : Nat → Int32} {ln i : Int32} (h1 : ¬ i < 0) (h2 : ¬ ln ≤ i) (h3 : ¬ nI 500 ≤ i) : byteAt g ln i = g i.toNatClampNeg := if_pos ⟨h1, h2, h3⟩
theorem byteAt_a {g : Nat → Int32} {ln i : Int32} (h : i < 0) : byteAt g ln i = -1 := if_neg (fun q => q.1 h)
theorem byteAt_b {g : Nat → Int32} {ln i : Int32} (h : ln ≤ i) : byteAt g ln i = -1 := if_neg (fun q => q.2.1 h)
theorem byteAt_c {g : Nat → Int32} {ln i : Int32} (h : nI 500 ≤ i) : byteAt g ln i = -1 := if_neg (fun q => q.2.2 h)
theorem nlt150 {i : Int32} (h : i < 150) : ¬ nI 150 ≤ i := fun q => absurd h (Int32.not_lt.mpr q)
theorem pin {i n : Int32} (h0 : ¬ i < 0) (h1 : i < n) (hn : n ≤ 150) : vp_in i 150 := vin_of h0 (nlt150 (Int32.lt_of_lt_of_le h1 hn)) (by decide)
theorem bin {i n : Int32} (h1 : ¬ n ≤ i) (hn : n ≤ 500) : ¬ nI 500 ≤ i := fun q => h1 (Int32.le_trans hn q)
/-- byte i of v, the lowest is 0 -/
def byt (v : Int64) (i : Nat) : Int32 := (v.toUInt64 >>> ((nI (8 * i)).toInt64.toUInt64 &&& Int64.toUInt64 63)).toInt64.toInt32 &&& 255
/-- i bytes more, from place k on -/
def putF (v : Int64) : Nat → Nat → (Nat → Int32) → (Nat → Int32)
  | 0, _, f => f
  | i + 1, k, f => putF v i (k + 1) (upd f k (byt v i))
theorem byt_eq (v : Int64) (i : Nat) : (v.toUInt64 >>> ((8 * nI i).toInt64.toUInt64 &&& Int64.toUInt64 63)).toInt64.toInt32 &&& 255 = byt v i := by
  rw [byt, show (8 : Int32) = nI 8 from rfl, pk_mul]
theorem put_c20 {k0 j0 : Nat} {p2 x : Int32} (ep2 : p2 = nI (j0 + 1)) (hj : j0 < 8) (hk : k0 + j0 + 1 ≤ 500) (ex : x = 500 - p2) : nI k0 ≤ x := by
  rw [ex, ep2, show (500 : Int32) = nI 500 from rfl, pk_sub (by omega)]
  exact nI_le (by omega) (by omega)
theorem put_m20 {k0 j0 : Nat} {p2 x : Int32} (ep2 : p2 = nI (j0 + 1)) (hj : j0 < 8) (hk : k0 + j0 + 1 ≤ 500) (ex : x = nI k0 + p2) : x ≤ 500 := by
  rw [ex, ep2, nI_add, show (500 : Int32) = nI 500 from rfl]
  exact nI_le (by omega) (by omega)
theorem put_j {p2 : Int32} (h1 : ¬ p2 < 1) (h8 : ¬ 8 < p2) : ∃ j : Nat, j < 8 ∧ p2 = nI (j + 1) := by
  have a := Int32.le_iff_toInt_le.mp (Int32.not_lt.mp h1)
  have b := Int32.le_iff_toInt_le.mp (Int32.not_lt.mp h8)
  have e1 : (1 : Int32).toInt = 1 := by decide
  have e8 : (8 : Int32).toInt = 8 := by decide
  rw [e1] at a
  rw [e8] at b
  refine ⟨p2.toInt.toNat - 1, by omega, Int32.toInt_inj.mp ?_⟩
  rw [nI_toInt (by omega)]
  omega
theorem put_no {k0 : Nat} {p2 x : Int32} (h1 : ¬ p2 < 1) (h8 : ¬ 8 < p2) (ex : x = 500 - p2) (c : nI k0 ≤ x) (hno : ∀ j : Nat, j < 8 → p2 = nI (j + 1) → 500 < k0 + j + 1) (hk0 : k0 ≤ 500) : False := by
  obtain ⟨j, hj, ej⟩ := put_j h1 h8
  have h := hno j hj ej
  rw [ex, ej, show (500 : Int32) = nI 500 from rfl, pk_sub (by omega)] at c
  exact absurd c (nI_ge (by omega) (by omega))
theorem put_nom {k0 : Nat} {p2 x : Int32} (h1 : ¬ p2 < 1) (h8 : ¬ 8 < p2) (ex : x = nI k0 + p2) (c : x ≤ 500) (hno : ∀ j : Nat, j < 8 → p2 = nI (j + 1) → 500 < k0 + j + 1) (hk0 : k0 ≤ 500) : False := by
  obtain ⟨j, hj, ej⟩ := put_j h1 h8
  have h := hno j hj ej
  rw [ex, ej, nI_add, show (500 : Int32) = nI 500 from rfl] at c
  exact absurd c (nI_ge (by omega) (by omega))
theorem byteAt0 {g : Nat → Int32} {i : Int32} : byteAt g 0 i = -1 := by
  by_cases h : i < 0
  · exact byteAt_a h
  · exact byteAt_b (Int32.not_lt.mp h)
theorem lenS_lt (i : Nat) (h : i < 19) : lenS.getD i 0 < 2 ^ 31 := (by decide +kernel : ∀ i : Nat, i < 19 → lenS.getD i 0 < 2 ^ 31) i h
theorem lt_of_c {wi i : Nat} {r : Int32} (hwi : wi < 19) (hi : i ≤ lenS.getD wi 0) (hr : r = nI (lenS.getD wi 0)) (c : ¬ r ≤ nI i) : i < lenS.getD wi 0 := by
  rcases Nat.lt_or_ge i (lenS.getD wi 0) with h | h
  · exact h
  · exact absurd (by rw [hr]; exact nI_le h (by have := lenS_lt wi hwi; omega)) c
