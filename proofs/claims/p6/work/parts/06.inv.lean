/-! the reference's invariant -/
def Sp (x y : Int32) : Prop := ∃ u v : Nat, x = nI u ∧ y = nI v ∧ u + v ≤ 500
def Spans (n : Nat) (f g : Nat → Int32) : Prop := ∀ j : Nat, j < n → Sp (f j) (g j)
def nameSt (st : Int32) : Bool := st == 11 || st == 21 || st == 30 || st == 33 || st == 61
def endSt (st : Int32) : Bool := st == 20 || st == 21 || st == 22
def tagSt (st : Int32) : Bool := st == 32 || st == 33 || st == 34 || st == 35 || st == 36 || st == 37 || st == 38
def attSt (st : Int32) : Bool := st == 34 || st == 35 || st == 36
def valSt (st : Int32) : Bool := st == 36 || st == 37 || st == 60 || st == 61 || st == 62 || st == 63 || st == 64 || st == 65
def MInv (st ph : Int32) (no na t : Nat) (nm q tg tz : Int32) (fN fS fA fB : Nat → Int32) : Prop :=
  no ≤ 20 ∧ na ≤ 8 ∧ Spans no fN fS ∧ Spans na fA fB ∧ (ph = 1 → 1 ≤ no) ∧ (endSt st = true → 1 ≤ no) ∧ (tagSt st = true ∨ 0 < q → no ≤ 19 ∧ Sp tg tz) ∧ (attSt st = true ∨ 0 < q → 1 ≤ na) ∧ (nameSt st = true → ∃ n : Nat, n ≤ t ∧ nm = nI n) ∧ (0 < q → valSt st = true)
def SInv (ph : Int32) (no na : Nat) (q tg tz : Int32) (fN fS fA fB : Nat → Int32) : Prop := no ≤ 19 ∧ na ≤ 8 ∧ Spans no fN fS ∧ Spans na fA fB ∧ Sp tg tz ∧ ¬ 0 < q ∧ (ph = 1 → 1 ≤ no)
def EInv (ph : Int32) (no na : Nat) (q : Int32) (fN fS fA fB : Nat → Int32) : Prop := 1 ≤ no ∧ no ≤ 20 ∧ na ≤ 8 ∧ Spans no fN fS ∧ Spans na fA fB ∧ ¬ 0 < q
section MINV
variable {st ph : Int32} {no na t : Nat} {nm q tg tz : Int32} {fN fS fA fB : Nat → Int32}
theorem MInv.to {st2 nm2 : Int32} (h : MInv st ph no na t nm q tg tz fN fS fA fB) (c1 : endSt st2 = true → 1 ≤ no) (c2 : tagSt st2 = true → no ≤ 19 ∧ Sp tg tz) (c3 : attSt st2 = true → 1 ≤ na) (c4 : nameSt st2 = true → ∃ n : Nat, n ≤ t ∧ nm2 = nI n) (c5 : 0 < q → valSt st2 = true) : MInv st2 ph no na t nm2 q tg tz fN fS fA fB := by
  obtain ⟨h1, h2, h3, h4, h5, h6, h7, h8, h9, h10⟩ := h
  exact ⟨h1, h2, h3, h4, h5, c1, fun z => z.elim c2 (fun z => h7 (Or.inr z)), fun z => z.elim c3 (fun z => h8 (Or.inr z)), c4, c5⟩
theorem MInv.nq (h : MInv st ph no na t nm q tg tz fN fS fA fB) (hv : valSt st = false) : ¬ 0 < q := fun z => by
  have := h.2.2.2.2.2.2.2.2.2 z
  rw [hv] at this
  cases this
theorem MInv.next (h : MInv st ph no na t nm q tg tz fN fS fA fB) : MInv st ph no na (t + 1) nm q tg tz fN fS fA fB := by
  obtain ⟨h1, h2, h3, h4, h5, h6, h7, h8, h9, h10⟩ := h
  exact ⟨h1, h2, h3, h4, h5, h6, h7, h8, fun z => by obtain ⟨n, a, b⟩ := h9 z; exact ⟨n, by omega, b⟩, h10⟩
theorem MInv.sinv (h : MInv st ph no na t nm q tg tz fN fS fA fB) (ht : tagSt st = true) (hq : ¬ 0 < q) : SInv ph no na q tg tz fN fS fA fB := by
  obtain ⟨h1, h2, h3, h4, h5, h6, h7, h8, h9, h10⟩ := h
  obtain ⟨a, b⟩ := h7 (Or.inl ht)
  exact ⟨a, h2, h3, h4, b, hq, h5⟩
theorem MInv.einv (h : MInv st ph no na t nm q tg tz fN fS fA fB) (ht : endSt st = true) (hv : valSt st = false) : EInv ph no na q fN fS fA fB :=
  ⟨h.2.2.2.2.2.1 ht, h.1, h.2.1, h.2.2.1, h.2.2.2.1, h.nq hv⟩
theorem SInv.tag (h : SInv ph no na q tg tz fN fS fA fB) (h1 : endSt st = false) (h2 : attSt st = false) (h3 : nameSt st = false) : MInv st ph no na t nm q tg tz fN fS fA fB := by
  obtain ⟨a1, a2, a3, a4, a5, a6, a7⟩ := h
  exact ⟨by omega, a2, a3, a4, a7, fun z => (by rw [h1] at z; cases z), fun _ => ⟨a1, a5⟩, fun z => z.elim (fun z => (by rw [h2] at z; cases z)) (fun z => absurd z a6), fun z => (by rw [h3] at z; cases z), fun z => absurd z a6⟩
theorem spans_push {n : Nat} {f g : Nat → Int32} {x y : Int32} (h : Spans n f g) (hx : Sp x y) : Spans (n + 1) (upd f n x) (upd g n y) := by
  intro j hj
  by_cases e : j = n
  · subst e
    rw [pk_us, pk_us]
    exact hx
  · rw [pk_un e, pk_un e]
    exact h j (by omega)
theorem SInv.opened (h : SInv ph no na q tg tz fN fS fA fB) : MInv 50 1 (no + 1) na t nm q tg tz (upd fN no tg) (upd fS no tz) fA fB := by
  obtain ⟨a1, a2, a3, a4, a5, a6, a7⟩ := h
  exact ⟨by omega, a2, spans_push a3 a5, a4, fun _ => by omega, fun z => absurd z (by decide), fun z => z.elim (fun z => absurd z (by decide)) (fun z => absurd z a6), fun z => z.elim (fun z => absurd z (by decide)) (fun z => absurd z a6), fun z => absurd z (by decide), fun z => absurd z a6⟩
theorem SInv.plain {ph2 : Int32} (h : SInv ph no na q tg tz fN fS fA fB) (hp : ph2 = 1 → 1 ≤ no) (h0 : endSt st = false) (h1 : tagSt st = false) (h2 : attSt st = false) (h3 : nameSt st = false) : MInv st ph2 no na t nm q tg tz fN fS fA fB := by
  obtain ⟨a1, a2, a3, a4, a5, a6, a7⟩ := h
  exact ⟨by omega, a2, a3, a4, hp, fun z => (by rw [h0] at z; cases z), fun z => z.elim (fun z => (by rw [h1] at z; cases z)) (fun z => absurd z a6), fun z => z.elim (fun z => (by rw [h2] at z; cases z)) (fun z => absurd z a6), fun z => (by rw [h3] at z; cases z), fun z => absurd z a6⟩
theorem EInv.stay (h : EInv ph no na q fN fS fA fB) (hp : ph = 1 → 1 ≤ no) : MInv 22 ph no na t nm q tg tz fN fS fA fB := by
  obtain ⟨a1, a2, a3, a4, a5, a6⟩ := h
  exact ⟨a2, a3, a4, a5, hp, fun _ => a1, fun z => z.elim (fun z => absurd z (by decide)) (fun z => absurd z a6), fun z => z.elim (fun z => absurd z (by decide)) (fun z => absurd z a6), fun z => absurd z (by decide), fun z => absurd z a6⟩
theorem EInv.close {ph2 : Int32} (h : EInv ph no na q fN fS fA fB) (hp : ph2 = 1 → 1 ≤ no - 1) (h0 : endSt st = false) (h1 : tagSt st = false) (h2 : attSt st = false) (h3 : nameSt st = false) : MInv st ph2 (no - 1) na t nm q tg tz fN fS fA fB := by
  obtain ⟨a1, a2, a3, a4, a5, a6⟩ := h
  exact ⟨by omega, a3, fun j hj => a4 j (by omega), a5, hp, fun z => (by rw [h0] at z; cases z), fun z => z.elim (fun z => (by rw [h1] at z; cases z)) (fun z => absurd z a6), fun z => z.elim (fun z => (by rw [h2] at z; cases z)) (fun z => absurd z a6), fun z => (by rw [h3] at z; cases z), fun z => absurd z a6⟩
theorem MInv.name (h : MInv st ph no na t nm q tg tz fN fS fA fB) (hs : nameSt st = true) : ∃ n : Nat, n ≤ t ∧ nm = nI n := h.2.2.2.2.2.2.2.2.1 hs
theorem sp_name {n t : Nat} (h : n ≤ t) (ht : t ≤ 500) : Sp (nI n) (nI (t - n)) := ⟨n, t - n, rfl, rfl, by omega⟩
/-- an attribute more -/
theorem MInv.attr {st2 x y : Int32} (h : MInv 33 ph no na t nm q tg tz fN fS fA fB) (hna : na ≠ 8) (hx : Sp x y) (hs : st2 = 34 ∨ st2 = 35) : MInv st2 ph no (na + 1) t nm q tg tz fN fS (upd fA na x) (upd fB na y) := by
  have hq : ¬ 0 < q := h.nq (by decide)
  obtain ⟨h1, h2, h3, h4, h5, h6, h7, h8, h9, h10⟩ := h
  have hsp := h7 (Or.inl (by decide))
  exact ⟨h1, by omega, h3, spans_push h4 hx, h5, fun z => by rcases hs with rfl | rfl <;> exact absurd z (by decide), fun _ => hsp, fun _ => by omega, fun z => by rcases hs with rfl | rfl <;> exact absurd z (by decide), fun z => absurd z hq⟩
/-- a value begins -/
theorem MInv.quoted {x : Int32} (h : MInv 35 ph no na t nm q tg tz fN fS fA fB) : MInv 36 ph no na t nm x tg tz fN fS fA fB := by
  obtain ⟨h1, h2, h3, h4, h5, h6, h7, h8, h9, h10⟩ := h
  exact ⟨h1, h2, h3, h4, h5, fun z => absurd z (by decide), fun _ => h7 (Or.inl (by decide)), fun _ => h8 (Or.inl (by decide)), fun z => absurd z (by decide), fun _ => by decide⟩
end MINV
theorem np_lt {np : Nat} (h : np ≤ 150) (c : ¬ nI np = 150) : np < 150 := by
  rcases Nat.lt_or_ge np 150 with q | q
  · exact q
  · exact absurd (by rw [show np = 150 by omega]; rfl) c
theorem no_lt {no : Nat} (h : no ≤ 20) (c : ¬ nI no = 20) : no ≤ 19 := by
  rcases Nat.lt_or_ge no 20 with q | q
  · omega
  · exact absurd (by rw [show no = 20 by omega]; rfl) c
theorem na_ne {na : Nat} (c : ¬ nI na = 8) : na ≠ 8 := fun q => c (by rw [q]; rfl)
theorem nI_p1 {n : Nat} (h : 1 ≤ n) : nI n - 1 = nI (n - 1) := by
  rw [show (1 : Int32) = nI 1 from rfl, pk_sub h]
theorem nI_gt0 {n : Nat} (c : ¬ nI n ≤ 0) : 1 ≤ n := by
  rcases Nat.eq_zero_or_pos n with q | q
  · exact absurd (by rw [q]; decide) c
  · exact q
theorem nI_lt_of {i t : Nat} (hi : i < 2 ^ 31) (c : ¬ nI t ≤ nI i) : i < t := by
  rcases Nat.lt_or_ge i t with q | q
  · exact q
  · exact absurd (nI_le q hi) c
theorem nI_inj_of {p q : Int32} {u v u2 v2 : Nat} (e : p = nI v) (e2 : q = nI v2) (h : u + v ≤ 500) (h2 : u2 + v2 ≤ 500) (c : p = q) : v = v2 := by
  rw [e, e2] at c
  exact (nI_eq (by omega) (by omega)).mp c
theorem b3 {n t : Nat} (hn : n ≤ t) (ht : t ≤ 500) (c : nI (t - n) = 3) : t - n = 3 := (nI_eq (b := 3) (by omega) (by omega)).mp c
theorem k_le_of {i k : Nat} (hi : k < 2 ^ 31) (c : nI k ≤ nI i) : k ≤ i ∨ 2 ^ 31 ≤ i := by
  rcases Nat.lt_or_ge i (2 ^ 31) with q | q
  · exact Or.inl ((nI_leI hi q).mp c)
  · exact Or.inr q
theorem copy_up {f g : Nat → Int32} {i : Nat} (h : ∀ j : Nat, j < i → g j = f j) : ∀ j : Nat, j < i + 1 → upd g i (f i) j = f j := by
  intro j hj
  by_cases e : j = i
  · subst e
    exact pk_us
  · rw [pk_un e]
    exact h j (by omega)
def mu2 (k t : Nat) (x : Int32) : Nat := 2 * (k - t) + (if x = 0 then 1 else 0)
theorem mu2_a {k t n : Nat} {x y : Int32} (hx : x = 0) (ht : t < k) (h : mu2 k t x < n + 1) : mu2 k (t + 1) y < n := by
  unfold mu2 at h ⊢
  rw [if_pos hx] at h
  have : (if y = 0 then 1 else 0) ≤ 1 := by split <;> omega
  omega
theorem mu2_b {k t n : Nat} {x y : Int32} (hx : x = 0) (hy : ¬ y = 0) (h : mu2 k t x < n + 1) : mu2 k t y < n := by
  unfold mu2 at h ⊢
  rw [if_pos hx] at h
  rw [if_neg hy]
  omega
theorem lt_t {k t : Nat} (h : t ≤ k) (hk : k ≤ 500) (c : ¬ nI k ≤ nI t) : t < k := nI_lt_of (by omega) c
theorem minv0 {nm tg tz : Int32} {fN fS fA fB : Nat → Int32} : MInv 0 0 0 0 0 nm 0 tg tz fN fS fA fB :=
  ⟨by omega, by omega, fun j hj => absurd hj (Nat.not_lt_zero _), fun j hj => absurd hj (Nat.not_lt_zero _), fun z => absurd z (by decide), fun z => absurd z (by decide), fun z => z.elim (fun z => absurd z (by decide)) (fun z => absurd z (by decide)), fun z => z.elim (fun z => absurd z (by decide)) (fun z => absurd z (by decide)), fun z => absurd z (by decide), fun z => absurd z (by decide)⟩
