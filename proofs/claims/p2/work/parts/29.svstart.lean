abbrev fl_1 : List Cond := flatC (Jvm.Cond.and given_1 narrow_1)
abbrev tS (i : Nat) : Term := Term.string "NestedTags" (idxS.getD i 0)
abbrev vS (i : Nat) : Term := Term.field (tS i) "java/lang/String" "value" "[B"
theorem f_ex : ∀ i : Nat, i < 19 → Cond.exactly (tS i) "java/lang/String" ∈ fl_1 := by decide +kernel
theorem f_co : ∀ i : Nat, i < 19 → Cond.eq (.field (tS i) "java/lang/String" "coder" "B") (.int 0) ∈ fl_1 := by decide +kernel
theorem f_ar : ∀ i : Nat, i < 19 → Cond.arrayOf (vS i) .byte ∈ fl_1 := by decide +kernel
theorem f_le : ∀ i : Nat, i < 19 → Cond.eq (.length (vS i)) (.int (Int32.ofNat (lenS.getD i 0))) ∈ fl_1 := by decide +kernel
theorem f_el : ∀ i : Nat, i < 19 → ∀ j : Nat, j < lenS.getD i 0 → Cond.eq (.elem (vS i) (.int (Int32.ofNat j))) (.int ((bytS.getD i []).getD j 0)) ∈ fl_1 := by decide +kernel
theorem f_ne : ∀ i : Nat, i < 19 → ∀ j : Nat, j < 19 → i ≠ j → (Cond.not (Cond.eq (tS i) (tS j)) ∈ fl_1 ∨ Cond.not (Cond.eq (tS j) (tS i)) ∈ fl_1) := by decide +kernel
theorem f_cs : Cond.eq (.static "java/lang/String" "COMPACT_STRINGS" "Z") (.int 1) ∈ fl_1 := by decide +kernel
theorem f_sf : Cond.isRef (.static "jdk/internal/util/Preconditions" "SIOOBE_FORMATTER" "Ljava/util/function/BiFunction;") ∈ fl_1 := by decide +kernel
theorem f_sr : ∀ i : Nat, i < 19 → Cond.stringRef "NestedTags" (idxS.getD i 0) (txtS.getD i "") ∈ tables_1 := by decide +kernel
theorem f_l1 : Cond.laysStatic "java/lang/String" "COMPACT_STRINGS" "Z" ∈ tables_1 := by decide +kernel
theorem f_l2 : Cond.laysStatic "jdk/internal/util/Preconditions" "SIOOBE_FORMATTER" "Ljava/util/function/BiFunction;" ∈ tables_1 := by decide +kernel
theorem f_i1 : Cond.initialized "java/lang/String" ∈ tables_1 := by decide +kernel
theorem f_i2 : Cond.initialized "jdk/internal/util/Preconditions" ∈ tables_1 := by decide +kernel
theorem sv_start {args : Array Value} {s : State} (htl : ∀ w ∈ lw_tbl, w.before args s = true) (hgv : (Jvm.Cond.and given_1 narrow_1).before args s = true) {A : Nat → Prop} (hA : ∀ a : Nat, a < s.heap.size → ¬ A a) : ∃ V : (Nat → Nat) × (Nat → Nat), sv V A s s.heap := by
  have hs := flat_of_before _ hgv
  have ht : ∀ w ∈ tables_1, w.before args s = true := fun w h => htl w (List.mem_append_right _ h)
  obtain ⟨adK, adV, h1, h2⟩ := vk_Sof (args := args) (s := s) (N := 19) (tm := tS) (len := lenS) (byt := bytS) (A := A) (by decide +kernel) (fun i hi => hs _ (f_ex i hi)) (fun i hi => hs _ (f_co i hi)) (fun i hi => hs _ (f_ar i hi)) (fun i hi => hs _ (f_le i hi)) (fun i hi j hj => hs _ (f_el i hi j hj)) (fun i j hi hj hij => (f_ne i hi j hj hij).elim (fun z => Or.inl (hs _ z)) (fun z => Or.inr (hs _ z))) hA
  exact ⟨(adK, adV), h1, fun i hi => vk_R.of (ht _ (f_sr i hi)) (h2 i hi), va_Zof (ht _ f_l1) (ht _ f_i1) (va_eqt (hs _ f_cs)) hA, va_Zqof (ht _ f_l2) (ht _ f_i2) (hs _ f_sf) hA⟩
