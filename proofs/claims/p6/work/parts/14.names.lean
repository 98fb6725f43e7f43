set_option maxHeartbeats 4000000 in
set_option maxRecDepth 100000 in
/-- X1_isFull -/
theorem c_X1_isFull (l : Launch) (D : va_G) (cI : ClassId) (V : (Nat → Nat) × (Nat → Nat)) (h0 : Nat) (ob : Nat) (on : Nat) (os : Int32) (lim : Nat) (sz : Nat)  (hlim : lim < 1000) : Met l yX1_isFull (.code yX1_isFull cX1_isFull 1 (some .boolean) :: tbW) ({ frames := 0, cells := 0, slots := 0, locals := 0 }) (va_Pc [.ref h0] (gP D cI V [(h0, .inr (1, [.ref ob, .ref on, .int (nI lim), .int os]))] sz)) (va_Qi (fun (r : Int32) (u : Unit) => r = 0 ∨ r = 1) (fun u => gB D cI (va_A [(h0, .inr (1, [.ref ob, .ref on, .int (nI lim), .int os]))] sz) [(h0, .inr (1, [.ref ob, .ref on, .int (nI lim), .int os]))]) (va_A [(h0, .inr (1, [.ref ob, .ref on, .int (nI lim), .int os]))] sz)) 0 0 (va_A [(h0, .inr (1, [.ref ob, .ref on, .int (nI lim), .int os]))] sz) := by
  refine Met.ofW (cc := cX1_isFull) (maxL := 1) (ret := (some .boolean)) (by decide) rfl ?_
  intro p e s m args below meth c s₁ B hml hv
  obtain ⟨rfl, hsz, hP, hK, hD0, hN, hV⟩ := hv
  have hx := B.exec
  have hb := B.bytes
  have hr := B.returns
  have hts := tb_hts (atoms_spec (ws := .code yX1_isFull cX1_isFull 1 (some .boolean) :: tbW) B.pre)
  have hown : s.vm.findClass RX1 = some m.cls := findClass_of_methodNamed B.named
  have hlocks := B.notSynchronized
  subst hsz
  have hD := hD0.self (sz := s.heap.size)
  generalize hAe : va_A [(h0, .inr (1, [.ref ob, .ref on, .int (nI lim), .int os]))] s.heap.size = A at hD hV ⊢
  have hA : ∀ q : Nat, s.heap.size ≤ q → A q := fun q h => by rw [← hAe]; exact Or.inr h
  have hS : va_S A s.heap s.heap [] := va_S.rf
  have hP : va_P D classes [(h0, .inr (1, [.ref ob, .ref on, .int (nI lim), .int os]))] s.heap := hP
  have hl := lv_entry ([.ref h0]) (n := 1) (Nat.le_of_ble_eq_true rfl)
  rw [lg_entry_eq]
  generalize (lg_sl ([.ref h0]) ++ List.replicate (1 - (lg_sl ([.ref h0])).length) Slot.unset).toArray = ls at hl ⊢
  have hl : lv_has ls 1 [(0, .ref h0)] := hl
  refine lv_aload_n hx hb dX1_isFull_0 rfl (lv_at hl 0 rfl) ?_
  refine va_get (D := D) (ci := 1) (v := .int os) (C := RX1) (T := TX1) (N := 4) hx hb hts inX1 hown hK hP 0 rfl rfl 3 (by decide) (hts (Cond.fieldLink "NestedTags$Names" 26 "NestedTags$Names" "size" "I") kk_1_85) (fun _ h9 => h9) rfl dX1_isFull_1 ?_
  refine lv_aload_n hx hb dX1_isFull_4 rfl (lv_at hl 0 rfl) ?_
  refine va_get (D := D) (ci := 1) (v := .int (nI lim)) (C := RX1) (T := TX1) (N := 4) hx hb hts inX1 hown hK hP 0 rfl rfl 2 (by decide) (hts (Cond.fieldLink "NestedTags$Names" 13 "NestedTags$Names" "limit" "I") kk_1_84) (fun _ h9 => h9) rfl dX1_isFull_5 ?_
  refine lv_icmp_lt (tgt := 15) hx hb dX1_isFull_8 (by decide) (fun c_8 => ?_) (fun c_8 => ?_)
  · skip
    refine lv_iconst (v := 0) hx hb dX1_isFull_15 (by decide) ?_
    have hP9 := hP.sub (ws' := [(h0, .inr (1, [.ref ob, .ref on, .int (nI lim), .int os]))]) [0] rfl
    have hD9 := hD.sub (ws' := [(h0, .inr (1, [.ref ob, .ref on, .int (nI lim), .int os]))]) [0] (by decide) rfl
    exact W.zret (v := 0) (ty := .boolean) hx hb hr rfl (fun t ht hW => ⟨⟨0, (), rfl, Or.inl rfl, by rw [ht]; exact hP9, va_K.moved hW.alike hK, hD9⟩, hS.F ht⟩) hS.2.2 dX1_isFull_16
  · skip
    refine lv_iconst (v := 1) hx hb dX1_isFull_11 (by decide) ?_
    refine lv_goto (tgt := 16) hx hb dX1_isFull_12 (by decide) ?_
    have hP9 := hP.sub (ws' := [(h0, .inr (1, [.ref ob, .ref on, .int (nI lim), .int os]))]) [0] rfl
    have hD9 := hD.sub (ws' := [(h0, .inr (1, [.ref ob, .ref on, .int (nI lim), .int os]))]) [0] (by decide) rfl
    exact W.zret (v := 1) (ty := .boolean) hx hb hr rfl (fun t ht hW => ⟨⟨1, (), rfl, Or.inr rfl, by rw [ht]; exact hP9, va_K.moved hW.alike hK, hD9⟩, hS.F ht⟩) hS.2.2 dX1_isFull_16

set_option maxHeartbeats 4000000 in
set_option maxRecDepth 100000 in
/-- X1_add -/
theorem c_X1_add (l : Launch) (D : va_G) (cI : ClassId) (V : (Nat → Nat) × (Nat → Nat)) (h0 : Nat) (ob : Nat) (on : Nat) (os : Int32) (lim : Nat) (k5 : Nat → Int32) (k6 : Nat → Int32) (sz : Nat) (p1 : Int32) (p2 : Int32) (hlim : lim < 1000) : Met l yX1_add (.code yX1_add cX1_add 3 none :: tbW) ({ frames := 0, cells := 0, slots := 0, locals := 0 }) (va_Pc [.ref h0, .int p1, .int p2] (gP D cI V [(h0, .inr (1, [.ref ob, .ref on, .int (nI lim), .int os])), (ob, .inl (cI, lim, .inl k5)), (on, .inl (cI, lim, .inl k6))] sz)) (va_Qv (fun (u : Int32 × (Nat → Int32) × (Nat → Int32)) => True) (fun u => gB D cI (va_A [(h0, .inr (1, [.ref ob, .ref on, .int (nI lim), .int os])), (ob, .inl (cI, lim, .inl k5)), (on, .inl (cI, lim, .inl k6))] sz) [(h0, .inr (1, [.ref ob, .ref on, .int (nI lim), .int u.1])), (ob, .inl (cI, lim, .inl u.2.1)), (on, .inl (cI, lim, .inl u.2.2))]) (va_A [(h0, .inr (1, [.ref ob, .ref on, .int (nI lim), .int os])), (ob, .inl (cI, lim, .inl k5)), (on, .inl (cI, lim, .inl k6))] sz)) 0 0 (va_A [(h0, .inr (1, [.ref ob, .ref on, .int (nI lim), .int os])), (ob, .inl (cI, lim, .inl k5)), (on, .inl (cI, lim, .inl k6))] sz) := by
  refine Met.ofW (cc := cX1_add) (maxL := 3) (ret := none) (by decide) rfl ?_
  intro p e s m args below meth c s₁ B hml hv
  obtain ⟨rfl, hsz, hP, hK, hD0, hN, hV⟩ := hv
  have hx := B.exec
  have hb := B.bytes
  have hr := B.returns
  have hts := tb_hts (atoms_spec (ws := .code yX1_add cX1_add 3 none :: tbW) B.pre)
  have hown : s.vm.findClass RX1 = some m.cls := findClass_of_methodNamed B.named
  have hlocks := B.notSynchronized
  subst hsz
  have hD := hD0.self (sz := s.heap.size)
  generalize hAe : va_A [(h0, .inr (1, [.ref ob, .ref on, .int (nI lim), .int os])), (ob, .inl (cI, lim, .inl k5)), (on, .inl (cI, lim, .inl k6))] s.heap.size = A at hD hV ⊢
  have hA : ∀ q : Nat, s.heap.size ≤ q → A q := fun q h => by rw [← hAe]; exact Or.inr h
  have hS : va_S A s.heap s.heap [] := va_S.rf
  have hP : va_P D classes [(h0, .inr (1, [.ref ob, .ref on, .int (nI lim), .int os])), (ob, .inl (cI, lim, .inl k5)), (on, .inl (cI, lim, .inl k6))] s.heap := hP
  have hl := lv_entry ([.ref h0, .int p1, .int p2]) (n := 3) (Nat.le_of_ble_eq_true rfl)
  rw [lg_entry_eq]
  generalize (lg_sl ([.ref h0, .int p1, .int p2]) ++ List.replicate (3 - (lg_sl ([.ref h0, .int p1, .int p2])).length) Slot.unset).toArray = ls at hl ⊢
  have hl : lv_has ls 3 [(0, .ref h0), (1, .int p1), (2, .int p2)] := hl
  refine lv_aload_n hx hb dX1_add_0 rfl (lv_at hl 0 rfl) ?_
  refine va_get (D := D) (ci := 1) (v := .int os) (C := RX1) (T := TX1) (N := 4) hx hb hts inX1 hown hK hP 0 rfl rfl 3 (by decide) (hts (Cond.fieldLink "NestedTags$Names" 26 "NestedTags$Names" "size" "I") kk_1_85) (fun _ h9 => h9) rfl dX1_add_1 ?_
  refine lv_if_lt (tgt := 48) hx hb dX1_add_4 (by decide) (fun c_4 => ?_) (fun c_4 => ?_)
  · skip
    have hP9 := hP.sub (ws' := [(h0, .inr (1, [.ref ob, .ref on, .int (nI lim), .int os])), (ob, .inl (cI, lim, .inl k5)), (on, .inl (cI, lim, .inl k6))]) [0, 1, 2] rfl
    have hD9 := hD.sub (ws' := [(h0, .inr (1, [.ref ob, .ref on, .int (nI lim), .int os])), (ob, .inl (cI, lim, .inl k5)), (on, .inl (cI, lim, .inl k6))]) [0, 1, 2] (by decide) rfl
    exact W.vret hx hb hr (fun t ht hW => ⟨⟨(os, k5, k6), rfl, trivial, by rw [ht]; exact hP9, va_K.moved hW.alike hK, hD9⟩, hS.F ht⟩) hS.2.2 dX1_add_48
  · skip
    refine lv_aload_n hx hb dX1_add_7 rfl (lv_at hl 0 rfl) ?_
    refine va_get (D := D) (ci := 1) (v := .int os) (C := RX1) (T := TX1) (N := 4) hx hb hts inX1 hown hK hP 0 rfl rfl 3 (by decide) (hts (Cond.fieldLink "NestedTags$Names" 26 "NestedTags$Names" "size" "I") kk_1_85) (fun _ h9 => h9) rfl dX1_add_8 ?_
    refine lv_aload_n hx hb dX1_add_11 rfl (lv_at hl 0 rfl) ?_
    refine va_get (D := D) (ci := 1) (v := .int (nI lim)) (C := RX1) (T := TX1) (N := 4) hx hb hts inX1 hown hK hP 0 rfl rfl 2 (by decide) (hts (Cond.fieldLink "NestedTags$Names" 13 "NestedTags$Names" "limit" "I") kk_1_84) (fun _ h9 => h9) rfl dX1_add_12 ?_
    refine lv_icmp_ge (tgt := 48) hx hb dX1_add_15 (by decide) (fun c_15 => ?_) (fun c_15 => ?_)
    · skip
      have hP9 := hP.sub (ws' := [(h0, .inr (1, [.ref ob, .ref on, .int (nI lim), .int os])), (ob, .inl (cI, lim, .inl k5)), (on, .inl (cI, lim, .inl k6))]) [0, 1, 2] rfl
      have hD9 := hD.sub (ws' := [(h0, .inr (1, [.ref ob, .ref on, .int (nI lim), .int os])), (ob, .inl (cI, lim, .inl k5)), (on, .inl (cI, lim, .inl k6))]) [0, 1, 2] (by decide) rfl
      exact W.vret hx hb hr (fun t ht hW => ⟨⟨(os, k5, k6), rfl, trivial, by rw [ht]; exact hP9, va_K.moved hW.alike hK, hD9⟩, hS.F ht⟩) hS.2.2 dX1_add_48
    · skip
      refine lv_aload_n hx hb dX1_add_18 rfl (lv_at hl 0 rfl) ?_
      refine va_get (D := D) (ci := 1) (v := .ref ob) (C := RX1) (T := TX1) (N := 4) hx hb hts inX1 hown hK hP 0 rfl rfl 0 (by decide) (hts (Cond.fieldLink "NestedTags$Names" 19 "NestedTags$Names" "begins" "[I") kk_1_82) (fun _ h9 => h9) rfl dX1_add_19 ?_
      refine lv_aload_n hx hb dX1_add_22 rfl (lv_at hl 0 rfl) ?_
      refine va_get (D := D) (ci := 1) (v := .int os) (C := RX1) (T := TX1) (N := 4) hx hb hts inX1 hown hK hP 0 rfl rfl 3 (by decide) (hts (Cond.fieldLink "NestedTags$Names" 26 "NestedTags$Names" "size" "I") kk_1_85) (fun _ h9 => h9) rfl dX1_add_23 ?_
      refine lv_iload_n hx hb dX1_add_26 rfl (lv_at hl 1 rfl) ?_
      refine va_iast hx hb hK hP hD hS 1 0 rfl rfl (vin_of c_4 c_15 (by omega)) dX1_add_27 (fun H locs hP hD hS => ?_)
      have hP : va_P D classes [(h0, .inr (1, [.ref ob, .ref on, .int (nI lim), .int os])), (ob, .inl (cI, lim, .inl (upd k5 os.toNatClampNeg p1))), (on, .inl (cI, lim, .inl k6))] H := hP
      have hD : va_D A [(h0, .inr (1, [.ref ob, .ref on, .int (nI lim), .int os])), (ob, .inl (cI, lim, .inl (upd k5 os.toNatClampNeg p1))), (on, .inl (cI, lim, .inl k6))] := hD
      obtain ⟨f_1, ef_1⟩ : ∃ z, z = (upd k5 os.toNatClampNeg p1) := ⟨_, rfl⟩
      rw [← ef_1] at hP hD
      refine lv_aload_n hx hb dX1_add_28 rfl (lv_at hl 0 rfl) ?_
      refine va_get (D := D) (ci := 1) (v := .ref on) (C := RX1) (T := TX1) (N := 4) hx hb hts inX1 hown hK hP 0 rfl rfl 1 (by decide) (hts (Cond.fieldLink "NestedTags$Names" 23 "NestedTags$Names" "ends" "[I") kk_1_83) (fun _ h9 => h9) rfl dX1_add_29 ?_
      refine lv_aload_n hx hb dX1_add_32 rfl (lv_at hl 0 rfl) ?_
      refine va_get (D := D) (ci := 1) (v := .int os) (C := RX1) (T := TX1) (N := 4) hx hb hts inX1 hown hK hP 0 rfl rfl 3 (by decide) (hts (Cond.fieldLink "NestedTags$Names" 26 "NestedTags$Names" "size" "I") kk_1_85) (fun _ h9 => h9) rfl dX1_add_33 ?_
      refine lv_iload_n hx hb dX1_add_36 rfl (lv_at hl 2 rfl) ?_
      refine va_iast hx hb hK hP hD hS 2 0 rfl rfl (vin_of c_4 c_15 (by omega)) dX1_add_37 (fun H locs hP hD hS => ?_)
      have hP : va_P D classes [(h0, .inr (1, [.ref ob, .ref on, .int (nI lim), .int os])), (ob, .inl (cI, lim, .inl f_1)), (on, .inl (cI, lim, .inl (upd k6 os.toNatClampNeg p2)))] H := hP
      have hD : va_D A [(h0, .inr (1, [.ref ob, .ref on, .int (nI lim), .int os])), (ob, .inl (cI, lim, .inl f_1)), (on, .inl (cI, lim, .inl (upd k6 os.toNatClampNeg p2)))] := hD
      obtain ⟨f_2, ef_2⟩ : ∃ z, z = (upd k6 os.toNatClampNeg p2) := ⟨_, rfl⟩
      rw [← ef_2] at hP hD
      refine lv_aload_n hx hb dX1_add_38 rfl (lv_at hl 0 rfl) ?_
      refine lv_dup hx hb dX1_add_39 rfl ?_
      refine va_get (D := D) (ci := 1) (v := .int os) (C := RX1) (T := TX1) (N := 4) hx hb hts inX1 hown hK hP 0 rfl rfl 3 (by decide) (hts (Cond.fieldLink "NestedTags$Names" 26 "NestedTags$Names" "size" "I") kk_1_85) (fun _ h9 => h9) rfl dX1_add_40 ?_
      refine lv_iconst (v := 1) hx hb dX1_add_43 (by decide) ?_
      refine lv_iadd hx hb dX1_add_44 ?_
      refine lv_topi (fun x_3 ex_3 => ?_)
      refine va_put (D := D) (ci := 1) (v := .int x_3) (ty := .int) (C := RX1) (T := TX1) (N := 4) hx hb hts inX1 tyX1 tyX1_ok nmX1 hown hK hP hD hS 0 rfl rfl 3 (by decide) (hts (Cond.fieldLink "NestedTags$Names" 26 "NestedTags$Names" "size" "I") kk_1_85) (fun _ h9 => h9) rfl (tyX1_ok 3 (by decide)) rfl rfl (Nat.le_of_ble_eq_true rfl) dX1_add_45 (fun H locs hP hD hS => ?_)
      have hP : va_P D classes [(h0, .inr (1, [.ref ob, .ref on, .int (nI lim), .int x_3])), (ob, .inl (cI, lim, .inl f_1)), (on, .inl (cI, lim, .inl f_2))] H := hP
      have hD : va_D A [(h0, .inr (1, [.ref ob, .ref on, .int (nI lim), .int x_3])), (ob, .inl (cI, lim, .inl f_1)), (on, .inl (cI, lim, .inl f_2))] := hD
      have hP9 := hP.sub (ws' := [(h0, .inr (1, [.ref ob, .ref on, .int (nI lim), .int x_3])), (ob, .inl (cI, lim, .inl f_1)), (on, .inl (cI, lim, .inl f_2))]) [0, 1, 2] rfl
      have hD9 := hD.sub (ws' := [(h0, .inr (1, [.ref ob, .ref on, .int (nI lim), .int x_3])), (ob, .inl (cI, lim, .inl f_1)), (on, .inl (cI, lim, .inl f_2))]) [0, 1, 2] (by decide) rfl
      exact W.vret hx hb hr (fun t ht hW => ⟨⟨(x_3, f_1, f_2), rfl, trivial, by rw [ht]; exact hP9, va_K.moved hW.alike hK, hD9⟩, hS.F ht⟩) hS.2.2 dX1_add_48

set_option maxHeartbeats 4000000 in
set_option maxRecDepth 100000 in
/-- X1_dropLast -/
theorem c_X1_dropLast (l : Launch) (D : va_G) (cI : ClassId) (V : (Nat → Nat) × (Nat → Nat)) (h0 : Nat) (ob : Nat) (on : Nat) (os : Int32) (lim : Nat) (sz : Nat)  (hlim : lim < 1000) : Met l yX1_dropLast (.code yX1_dropLast cX1_dropLast 1 none :: tbW) ({ frames := 0, cells := 0, slots := 0, locals := 0 }) (va_Pc [.ref h0] (gP D cI V [(h0, .inr (1, [.ref ob, .ref on, .int (nI lim), .int os]))] sz)) (va_Qv (fun (u : Int32) => True) (fun u => gB D cI (va_A [(h0, .inr (1, [.ref ob, .ref on, .int (nI lim), .int os]))] sz) [(h0, .inr (1, [.ref ob, .ref on, .int (nI lim), .int u]))]) (va_A [(h0, .inr (1, [.ref ob, .ref on, .int (nI lim), .int os]))] sz)) 0 0 (va_A [(h0, .inr (1, [.ref ob, .ref on, .int (nI lim), .int os]))] sz) := by
  refine Met.ofW (cc := cX1_dropLast) (maxL := 1) (ret := none) (by decide) rfl ?_
  intro p e s m args below meth c s₁ B hml hv
  obtain ⟨rfl, hsz, hP, hK, hD0, hN, hV⟩ := hv
  have hx := B.exec
  have hb := B.bytes
  have hr := B.returns
  have hts := tb_hts (atoms_spec (ws := .code yX1_dropLast cX1_dropLast 1 none :: tbW) B.pre)
  have hown : s.vm.findClass RX1 = some m.cls := findClass_of_methodNamed B.named
  have hlocks := B.notSynchronized
  subst hsz
  have hD := hD0.self (sz := s.heap.size)
  generalize hAe : va_A [(h0, .inr (1, [.ref ob, .ref on, .int (nI lim), .int os]))] s.heap.size = A at hD hV ⊢
  have hA : ∀ q : Nat, s.heap.size ≤ q → A q := fun q h => by rw [← hAe]; exact Or.inr h
  have hS : va_S A s.heap s.heap [] := va_S.rf
  have hP : va_P D classes [(h0, .inr (1, [.ref ob, .ref on, .int (nI lim), .int os]))] s.heap := hP
  have hl := lv_entry ([.ref h0]) (n := 1) (Nat.le_of_ble_eq_true rfl)
  rw [lg_entry_eq]
  generalize (lg_sl ([.ref h0]) ++ List.replicate (1 - (lg_sl ([.ref h0])).length) Slot.unset).toArray = ls at hl ⊢
  have hl : lv_has ls 1 [(0, .ref h0)] := hl
  refine lv_aload_n hx hb dX1_dropLast_0 rfl (lv_at hl 0 rfl) ?_
  refine va_get (D := D) (ci := 1) (v := .int os) (C := RX1) (T := TX1) (N := 4) hx hb hts inX1 hown hK hP 0 rfl rfl 3 (by decide) (hts (Cond.fieldLink "NestedTags$Names" 26 "NestedTags$Names" "size" "I") kk_1_85) (fun _ h9 => h9) rfl dX1_dropLast_1 ?_
  refine lv_if_le (tgt := 17) hx hb dX1_dropLast_4 (by decide) (fun c_4 => ?_) (fun c_4 => ?_)
  · skip
    have hP9 := hP.sub (ws' := [(h0, .inr (1, [.ref ob, .ref on, .int (nI lim), .int os]))]) [0] rfl
    have hD9 := hD.sub (ws' := [(h0, .inr (1, [.ref ob, .ref on, .int (nI lim), .int os]))]) [0] (by decide) rfl
    exact W.vret hx hb hr (fun t ht hW => ⟨⟨os, rfl, trivial, by rw [ht]; exact hP9, va_K.moved hW.alike hK, hD9⟩, hS.F ht⟩) hS.2.2 dX1_dropLast_17
  · skip
    refine lv_aload_n hx hb dX1_dropLast_7 rfl (lv_at hl 0 rfl) ?_
    refine lv_dup hx hb dX1_dropLast_8 rfl ?_
    refine va_get (D := D) (ci := 1) (v := .int os) (C := RX1) (T := TX1) (N := 4) hx hb hts inX1 hown hK hP 0 rfl rfl 3 (by decide) (hts (Cond.fieldLink "NestedTags$Names" 26 "NestedTags$Names" "size" "I") kk_1_85) (fun _ h9 => h9) rfl dX1_dropLast_9 ?_
    refine lv_iconst (v := 1) hx hb dX1_dropLast_12 (by decide) ?_
    refine lv_isub hx hb dX1_dropLast_13 ?_
    refine lv_topi (fun x_1 ex_1 => ?_)
    refine va_put (D := D) (ci := 1) (v := .int x_1) (ty := .int) (C := RX1) (T := TX1) (N := 4) hx hb hts inX1 tyX1 tyX1_ok nmX1 hown hK hP hD hS 0 rfl rfl 3 (by decide) (hts (Cond.fieldLink "NestedTags$Names" 26 "NestedTags$Names" "size" "I") kk_1_85) (fun _ h9 => h9) rfl (tyX1_ok 3 (by decide)) rfl rfl (Nat.le_of_ble_eq_true rfl) dX1_dropLast_14 (fun H locs hP hD hS => ?_)
    have hP : va_P D classes [(h0, .inr (1, [.ref ob, .ref on, .int (nI lim), .int x_1]))] H := hP
    have hD : va_D A [(h0, .inr (1, [.ref ob, .ref on, .int (nI lim), .int x_1]))] := hD
    have hP9 := hP.sub (ws' := [(h0, .inr (1, [.ref ob, .ref on, .int (nI lim), .int x_1]))]) [0] rfl
    have hD9 := hD.sub (ws' := [(h0, .inr (1, [.ref ob, .ref on, .int (nI lim), .int x_1]))]) [0] (by decide) rfl
    exact W.vret hx hb hr (fun t ht hW => ⟨⟨x_1, rfl, trivial, by rw [ht]; exact hP9, va_K.moved hW.alike hK, hD9⟩, hS.F ht⟩) hS.2.2 dX1_dropLast_17

set_option maxHeartbeats 4000000 in
set_option maxRecDepth 100000 in
/-- X1_isAt -/
theorem c_X1_isAt (l : Launch) (D : va_G) (cI : ClassId) (V : (Nat → Nat) × (Nat → Nat)) (h0 : Nat) (ob : Nat) (on : Nat) (os : Int32) (lim : Nat) (k5 : Nat → Int32) (k6 : Nat → Int32) (cu : Nat) (b0 : Nat) (ln : Int32) (ca : Int32) (fa : Int32) (fp : Int32) (g : Nat → Int32) (sz : Nat) (p1 : Int32) (p2 : Int32) (p3 : Int32) (hlim : lim < 1000) : Met l yX1_isAt (.code yX1_isAt cX1_isAt 5 (some .boolean) :: tbW) ({ frames := 2, cells := 0, slots := 0, locals := 45 }) (va_Pc [.ref h0, .int p1, .ref cu, .int p2, .int p3] (gP D cI V [(h0, .inr (1, [.ref ob, .ref on, .int (nI lim), .int os])), (ob, .inl (cI, lim, .inl k5)), (on, .inl (cI, lim, .inl k6)), (cu, .inr (0, [.ref b0, .int ln, .int ca, .int fa, .int fp])), (b0, .inl (cI, 500, .inl g))] sz)) (va_Qi (fun (r : Int32) (u : Unit) => r = 0 ∨ r = 1) (fun u => gB D cI (va_A [(h0, .inr (1, [.ref ob, .ref on, .int (nI lim), .int os])), (ob, .inl (cI, lim, .inl k5)), (on, .inl (cI, lim, .inl k6)), (cu, .inr (0, [.ref b0, .int ln, .int ca, .int fa, .int fp])), (b0, .inl (cI, 500, .inl g))] sz) [(h0, .inr (1, [.ref ob, .ref on, .int (nI lim), .int os])), (ob, .inl (cI, lim, .inl k5)), (on, .inl (cI, lim, .inl k6)), (cu, .inr (0, [.ref b0, .int ln, .int ca, .int fa, .int fp])), (b0, .inl (cI, 500, .inl g))]) (va_A [(h0, .inr (1, [.ref ob, .ref on, .int (nI lim), .int os])), (ob, .inl (cI, lim, .inl k5)), (on, .inl (cI, lim, .inl k6)), (cu, .inr (0, [.ref b0, .int ln, .int ca, .int fa, .int fp])), (b0, .inl (cI, 500, .inl g))] sz)) 0 0 (va_A [(h0, .inr (1, [.ref ob, .ref on, .int (nI lim), .int os])), (ob, .inl (cI, lim, .inl k5)), (on, .inl (cI, lim, .inl k6)), (cu, .inr (0, [.ref b0, .int ln, .int ca, .int fa, .int fp])), (b0, .inl (cI, 500, .inl g))] sz) := by
  refine Met.ofW (cc := cX1_isAt) (maxL := 5) (ret := (some .boolean)) (by decide) rfl ?_
  intro p e s m args below meth c s₁ B hml hv
  obtain ⟨rfl, hsz, hP, hK, hD0, hN, hV⟩ := hv
  have hx := B.exec
  have hb := B.bytes
  have hr := B.returns
  have hts := tb_hts (atoms_spec (ws := .code yX1_isAt cX1_isAt 5 (some .boolean) :: tbW) B.pre)
  have hown : s.vm.findClass RX1 = some m.cls := findClass_of_methodNamed B.named
  have hlocks := B.notSynchronized
  subst hsz
  have hD := hD0.self (sz := s.heap.size)
  generalize hAe : va_A [(h0, .inr (1, [.ref ob, .ref on, .int (nI lim), .int os])), (ob, .inl (cI, lim, .inl k5)), (on, .inl (cI, lim, .inl k6)), (cu, .inr (0, [.ref b0, .int ln, .int ca, .int fa, .int fp])), (b0, .inl (cI, 500, .inl g))] s.heap.size = A at hD hV ⊢
  have hA : ∀ q : Nat, s.heap.size ≤ q → A q := fun q h => by rw [← hAe]; exact Or.inr h
  have hS : va_S A s.heap s.heap [] := va_S.rf
  have hP : va_P D classes [(h0, .inr (1, [.ref ob, .ref on, .int (nI lim), .int os])), (ob, .inl (cI, lim, .inl k5)), (on, .inl (cI, lim, .inl k6)), (cu, .inr (0, [.ref b0, .int ln, .int ca, .int fa, .int fp])), (b0, .inl (cI, 500, .inl g))] s.heap := hP
  have hl := lv_entry ([.ref h0, .int p1, .ref cu, .int p2, .int p3]) (n := 5) (Nat.le_of_ble_eq_true rfl)
  rw [lg_entry_eq]
  generalize (lg_sl ([.ref h0, .int p1, .ref cu, .int p2, .int p3]) ++ List.replicate (5 - (lg_sl ([.ref h0, .int p1, .ref cu, .int p2, .int p3])).length) Slot.unset).toArray = ls at hl ⊢
  have hl : lv_has ls 5 [(0, .ref h0), (1, .int p1), (2, .ref cu), (3, .int p2), (4, .int p3)] := hl
  refine lv_iload_n hx hb dX1_isAt_0 rfl (lv_at hl 1 rfl) ?_
  refine lv_if_lt (tgt := 62) hx hb dX1_isAt_1 (by decide) (fun c_1 => ?_) (fun c_1 => ?_)
  · skip
    refine lv_iconst (v := 0) hx hb dX1_isAt_62 (by decide) ?_
    have hP9 := hP.sub (ws' := [(h0, .inr (1, [.ref ob, .ref on, .int (nI lim), .int os])), (ob, .inl (cI, lim, .inl k5)), (on, .inl (cI, lim, .inl k6)), (cu, .inr (0, [.ref b0, .int ln, .int ca, .int fa, .int fp])), (b0, .inl (cI, 500, .inl g))]) [0, 1, 2, 3, 4] rfl
    have hD9 := hD.sub (ws' := [(h0, .inr (1, [.ref ob, .ref on, .int (nI lim), .int os])), (ob, .inl (cI, lim, .inl k5)), (on, .inl (cI, lim, .inl k6)), (cu, .inr (0, [.ref b0, .int ln, .int ca, .int fa, .int fp])), (b0, .inl (cI, 500, .inl g))]) [0, 1, 2, 3, 4] (by decide) rfl
    exact W.zret (v := 0) (ty := .boolean) hx hb hr rfl (fun t ht hW => ⟨⟨0, (), rfl, Or.inl rfl, by rw [ht]; exact hP9, va_K.moved hW.alike hK, hD9⟩, hS.F ht⟩) hS.2.2 dX1_isAt_63
  · skip
    refine lv_iload_n hx hb dX1_isAt_4 rfl (lv_at hl 1 rfl) ?_
    refine lv_aload_n hx hb dX1_isAt_5 rfl (lv_at hl 0 rfl) ?_
    refine va_get (D := D) (ci := 1) (v := .int os) (C := RX1) (T := TX1) (N := 4) hx hb hts inX1 hown hK hP 0 rfl rfl 3 (by decide) (hts (Cond.fieldLink "NestedTags$Names" 26 "NestedTags$Names" "size" "I") kk_1_85) (fun _ h9 => h9) rfl dX1_isAt_6 ?_
    refine lv_icmp_ge (tgt := 62) hx hb dX1_isAt_9 (by decide) (fun c_9 => ?_) (fun c_9 => ?_)
    · skip
      refine lv_iconst (v := 0) hx hb dX1_isAt_62 (by decide) ?_
      have hP9 := hP.sub (ws' := [(h0, .inr (1, [.ref ob, .ref on, .int (nI lim), .int os])), (ob, .inl (cI, lim, .inl k5)), (on, .inl (cI, lim, .inl k6)), (cu, .inr (0, [.ref b0, .int ln, .int ca, .int fa, .int fp])), (b0, .inl (cI, 500, .inl g))]) [0, 1, 2, 3, 4] rfl
      have hD9 := hD.sub (ws' := [(h0, .inr (1, [.ref ob, .ref on, .int (nI lim), .int os])), (ob, .inl (cI, lim, .inl k5)), (on, .inl (cI, lim, .inl k6)), (cu, .inr (0, [.ref b0, .int ln, .int ca, .int fa, .int fp])), (b0, .inl (cI, 500, .inl g))]) [0, 1, 2, 3, 4] (by decide) rfl
      exact W.zret (v := 0) (ty := .boolean) hx hb hr rfl (fun t ht hW => ⟨⟨0, (), rfl, Or.inl rfl, by rw [ht]; exact hP9, va_K.moved hW.alike hK, hD9⟩, hS.F ht⟩) hS.2.2 dX1_isAt_63
    · skip
      refine lv_iload_n hx hb dX1_isAt_12 rfl (lv_at hl 1 rfl) ?_
      refine lv_aload_n hx hb dX1_isAt_13 rfl (lv_at hl 0 rfl) ?_
      refine va_get (D := D) (ci := 1) (v := .int (nI lim)) (C := RX1) (T := TX1) (N := 4) hx hb hts inX1 hown hK hP 0 rfl rfl 2 (by decide) (hts (Cond.fieldLink "NestedTags$Names" 13 "NestedTags$Names" "limit" "I") kk_1_84) (fun _ h9 => h9) rfl dX1_isAt_14 ?_
      refine lv_icmp_ge (tgt := 62) hx hb dX1_isAt_17 (by decide) (fun c_17 => ?_) (fun c_17 => ?_)
      · skip
        refine lv_iconst (v := 0) hx hb dX1_isAt_62 (by decide) ?_
        have hP9 := hP.sub (ws' := [(h0, .inr (1, [.ref ob, .ref on, .int (nI lim), .int os])), (ob, .inl (cI, lim, .inl k5)), (on, .inl (cI, lim, .inl k6)), (cu, .inr (0, [.ref b0, .int ln, .int ca, .int fa, .int fp])), (b0, .inl (cI, 500, .inl g))]) [0, 1, 2, 3, 4] rfl
        have hD9 := hD.sub (ws' := [(h0, .inr (1, [.ref ob, .ref on, .int (nI lim), .int os])), (ob, .inl (cI, lim, .inl k5)), (on, .inl (cI, lim, .inl k6)), (cu, .inr (0, [.ref b0, .int ln, .int ca, .int fa, .int fp])), (b0, .inl (cI, 500, .inl g))]) [0, 1, 2, 3, 4] (by decide) rfl
        exact W.zret (v := 0) (ty := .boolean) hx hb hr rfl (fun t ht hW => ⟨⟨0, (), rfl, Or.inl rfl, by rw [ht]; exact hP9, va_K.moved hW.alike hK, hD9⟩, hS.F ht⟩) hS.2.2 dX1_isAt_63
      · skip
        refine lv_aload_n hx hb dX1_isAt_20 rfl (lv_at hl 0 rfl) ?_
        refine va_get (D := D) (ci := 1) (v := .ref on) (C := RX1) (T := TX1) (N := 4) hx hb hts inX1 hown hK hP 0 rfl rfl 1 (by decide) (hts (Cond.fieldLink "NestedTags$Names" 23 "NestedTags$Names" "ends" "[I") kk_1_83) (fun _ h9 => h9) rfl dX1_isAt_21 ?_
        refine lv_iload_n hx hb dX1_isAt_24 rfl (lv_at hl 1 rfl) ?_
        refine va_iald hx hb hK hP 2 0 rfl rfl (vin_of c_1 c_17 (by omega)) dX1_isAt_25 ?_
        refine lv_topi (fun x_1 ex_1 => ?_)
        refine lv_aload_n hx hb dX1_isAt_26 rfl (lv_at hl 0 rfl) ?_
        refine va_get (D := D) (ci := 1) (v := .ref ob) (C := RX1) (T := TX1) (N := 4) hx hb hts inX1 hown hK hP 0 rfl rfl 0 (by decide) (hts (Cond.fieldLink "NestedTags$Names" 19 "NestedTags$Names" "begins" "[I") kk_1_82) (fun _ h9 => h9) rfl dX1_isAt_27 ?_
        refine lv_iload_n hx hb dX1_isAt_30 rfl (lv_at hl 1 rfl) ?_
        refine va_iald hx hb hK hP 1 0 rfl rfl (vin_of c_1 c_17 (by omega)) dX1_isAt_31 ?_
        refine lv_topi (fun x_2 ex_2 => ?_)
        refine lv_isub hx hb dX1_isAt_32 ?_
        refine lv_topi (fun x_3 ex_3 => ?_)
        refine lv_iload hx hb dX1_isAt_33 (lv_at hl 4 rfl) ?_
        refine lv_iload_n hx hb dX1_isAt_35 rfl (lv_at hl 3 rfl) ?_
        refine lv_isub hx hb dX1_isAt_36 ?_
        refine lv_topi (fun x_4 ex_4 => ?_)
        refine lv_icmp_ne (tgt := 62) hx hb dX1_isAt_37 (by decide) (fun c_37 => ?_) (fun c_37 => ?_)
        · skip
          refine lv_iconst (v := 0) hx hb dX1_isAt_62 (by decide) ?_
          have hP9 := hP.sub (ws' := [(h0, .inr (1, [.ref ob, .ref on, .int (nI lim), .int os])), (ob, .inl (cI, lim, .inl k5)), (on, .inl (cI, lim, .inl k6)), (cu, .inr (0, [.ref b0, .int ln, .int ca, .int fa, .int fp])), (b0, .inl (cI, 500, .inl g))]) [0, 1, 2, 3, 4] rfl
          have hD9 := hD.sub (ws' := [(h0, .inr (1, [.ref ob, .ref on, .int (nI lim), .int os])), (ob, .inl (cI, lim, .inl k5)), (on, .inl (cI, lim, .inl k6)), (cu, .inr (0, [.ref b0, .int ln, .int ca, .int fa, .int fp])), (b0, .inl (cI, 500, .inl g))]) [0, 1, 2, 3, 4] (by decide) rfl
          exact W.zret (v := 0) (ty := .boolean) hx hb hr rfl (fun t ht hW => ⟨⟨0, (), rfl, Or.inl rfl, by rw [ht]; exact hP9, va_K.moved hW.alike hK, hD9⟩, hS.F ht⟩) hS.2.2 dX1_isAt_63
        · skip
          refine lv_aload_n hx hb dX1_isAt_40 rfl (lv_at hl 2 rfl) ?_
          refine lv_aload_n hx hb dX1_isAt_41 rfl (lv_at hl 0 rfl) ?_
          refine va_get (D := D) (ci := 1) (v := .ref ob) (C := RX1) (T := TX1) (N := 4) hx hb hts inX1 hown hK hP 0 rfl rfl 0 (by decide) (hts (Cond.fieldLink "NestedTags$Names" 19 "NestedTags$Names" "begins" "[I") kk_1_82) (fun _ h9 => h9) rfl dX1_isAt_42 ?_
          refine lv_iload_n hx hb dX1_isAt_45 rfl (lv_at hl 1 rfl) ?_
          refine va_iald hx hb hK hP 1 0 rfl rfl (vin_of c_1 c_17 (by omega)) dX1_isAt_46 ?_
          refine lv_topi (fun x_5 ex_5 => ?_)
          refine lv_iload_n hx hb dX1_isAt_47 rfl (lv_at hl 3 rfl) ?_
          refine lv_iload hx hb dX1_isAt_48 (lv_at hl 4 rfl) ?_
          refine lv_iload_n hx hb dX1_isAt_50 rfl (lv_at hl 3 rfl) ?_
          refine lv_isub hx hb dX1_isAt_51 ?_
          refine lv_topi (fun x_6 ex_6 => ?_)
          refine gcall_i (va_runV (As := [.int x_5, .int p2, .int x_6]) (rest := []) ⟨hx, hb, hml, hown, hts⟩ (c_X0_sameBytes l D cI V cu b0 ln ca fa fp g s.heap.size x_5 p2 x_6) (cwV 3 hts (tb_goodV kk_2_88 kk_2_89 kk_2_90 kk_1_2 kk_2_91) rfl rfl rfl (hdV_X0_sameBytes) ⟨Nat.le_of_ble_eq_true rfl, Nat.le_of_ble_eq_true rfl⟩) (gpreV hK hN hV hS hA hP hD [3, 4] rfl rfl (by decide) (va_recv hK hP (ci := 0) (q0 := 3) rfl rfl)) rfl rfl hl.1 rfl (lv_room (Nat.le_of_ble_eq_true rfl)) dX1_isAt_52 ⟨Nat.le_of_ble_eq_true rfl, Nat.le_of_ble_eq_true rfl⟩) hP hD hS hA [3, 4] [0, 1, 2] (wr := [(h0, .inr (1, [.ref ob, .ref on, .int (nI lim), .int os])), (ob, .inl (cI, lim, .inl k5)), (on, .inl (cI, lim, .inl k6))]) rfl rfl (by decide) (by decide) (fun r_7 u_8 H locs hw_52 hP hD hS => ?_)
          try dsimp only at hw_52
          have hP : va_P D classes [(h0, .inr (1, [.ref ob, .ref on, .int (nI lim), .int os])), (ob, .inl (cI, lim, .inl k5)), (on, .inl (cI, lim, .inl k6)), (cu, .inr (0, [.ref b0, .int ln, .int ca, .int fa, .int fp])), (b0, .inl (cI, 500, .inl g))] H := hP
          have hD : va_D A [(h0, .inr (1, [.ref ob, .ref on, .int (nI lim), .int os])), (ob, .inl (cI, lim, .inl k5)), (on, .inl (cI, lim, .inl k6)), (cu, .inr (0, [.ref b0, .int ln, .int ca, .int fa, .int fp])), (b0, .inl (cI, 500, .inl g))] := hD
          refine lv_if_eq (tgt := 62) hx hb dX1_isAt_55 (by decide) (fun c_55 => ?_) (fun c_55 => ?_)
          · skip
            refine lv_iconst (v := 0) hx hb dX1_isAt_62 (by decide) ?_
            have hP9 := hP.sub (ws' := [(h0, .inr (1, [.ref ob, .ref on, .int (nI lim), .int os])), (ob, .inl (cI, lim, .inl k5)), (on, .inl (cI, lim, .inl k6)), (cu, .inr (0, [.ref b0, .int ln, .int ca, .int fa, .int fp])), (b0, .inl (cI, 500, .inl g))]) [0, 1, 2, 3, 4] rfl
            have hD9 := hD.sub (ws' := [(h0, .inr (1, [.ref ob, .ref on, .int (nI lim), .int os])), (ob, .inl (cI, lim, .inl k5)), (on, .inl (cI, lim, .inl k6)), (cu, .inr (0, [.ref b0, .int ln, .int ca, .int fa, .int fp])), (b0, .inl (cI, 500, .inl g))]) [0, 1, 2, 3, 4] (by decide) rfl
            exact W.zret (v := 0) (ty := .boolean) hx hb hr rfl (fun t ht hW => ⟨⟨0, (), rfl, Or.inl rfl, by rw [ht]; exact hP9, va_K.moved hW.alike hK, hD9⟩, hS.F ht⟩) hS.2.2 dX1_isAt_63
          · skip
            refine lv_iconst (v := 1) hx hb dX1_isAt_58 (by decide) ?_
            refine lv_goto (tgt := 63) hx hb dX1_isAt_59 (by decide) ?_
            have hP9 := hP.sub (ws' := [(h0, .inr (1, [.ref ob, .ref on, .int (nI lim), .int os])), (ob, .inl (cI, lim, .inl k5)), (on, .inl (cI, lim, .inl k6)), (cu, .inr (0, [.ref b0, .int ln, .int ca, .int fa, .int fp])), (b0, .inl (cI, 500, .inl g))]) [0, 1, 2, 3, 4] rfl
            have hD9 := hD.sub (ws' := [(h0, .inr (1, [.ref ob, .ref on, .int (nI lim), .int os])), (ob, .inl (cI, lim, .inl k5)), (on, .inl (cI, lim, .inl k6)), (cu, .inr (0, [.ref b0, .int ln, .int ca, .int fa, .int fp])), (b0, .inl (cI, 500, .inl g))]) [0, 1, 2, 3, 4] (by decide) rfl
            exact W.zret (v := 1) (ty := .boolean) hx hb hr rfl (fun t ht hW => ⟨⟨1, (), rfl, Or.inr rfl, by rw [ht]; exact hP9, va_K.moved hW.alike hK, hD9⟩, hS.F ht⟩) hS.2.2 dX1_isAt_63

set_option maxHeartbeats 4000000 in
set_option maxRecDepth 100000 in
/-- X1_isLast -/
theorem c_X1_isLast (l : Launch) (D : va_G) (cI : ClassId) (V : (Nat → Nat) × (Nat → Nat)) (h0 : Nat) (ob : Nat) (on : Nat) (os : Int32) (lim : Nat) (k5 : Nat → Int32) (k6 : Nat → Int32) (cu : Nat) (b0 : Nat) (ln : Int32) (ca : Int32) (fa : Int32) (fp : Int32) (g : Nat → Int32) (sz : Nat) (p1 : Int32) (p2 : Int32) (hlim : lim < 1000) : Met l yX1_isLast (.code yX1_isLast cX1_isLast 4 (some .boolean) :: tbW) ({ frames := 3, cells := 0, slots := 0, locals := 69 }) (va_Pc [.ref h0, .ref cu, .int p1, .int p2] (gP D cI V [(h0, .inr (1, [.ref ob, .ref on, .int (nI lim), .int os])), (ob, .inl (cI, lim, .inl k5)), (on, .inl (cI, lim, .inl k6)), (cu, .inr (0, [.ref b0, .int ln, .int ca, .int fa, .int fp])), (b0, .inl (cI, 500, .inl g))] sz)) (va_Qi (fun (r : Int32) (u : Unit) => r = 0 ∨ r = 1) (fun u => gB D cI (va_A [(h0, .inr (1, [.ref ob, .ref on, .int (nI lim), .int os])), (ob, .inl (cI, lim, .inl k5)), (on, .inl (cI, lim, .inl k6)), (cu, .inr (0, [.ref b0, .int ln, .int ca, .int fa, .int fp])), (b0, .inl (cI, 500, .inl g))] sz) [(h0, .inr (1, [.ref ob, .ref on, .int (nI lim), .int os])), (ob, .inl (cI, lim, .inl k5)), (on, .inl (cI, lim, .inl k6)), (cu, .inr (0, [.ref b0, .int ln, .int ca, .int fa, .int fp])), (b0, .inl (cI, 500, .inl g))]) (va_A [(h0, .inr (1, [.ref ob, .ref on, .int (nI lim), .int os])), (ob, .inl (cI, lim, .inl k5)), (on, .inl (cI, lim, .inl k6)), (cu, .inr (0, [.ref b0, .int ln, .int ca, .int fa, .int fp])), (b0, .inl (cI, 500, .inl g))] sz)) 0 0 (va_A [(h0, .inr (1, [.ref ob, .ref on, .int (nI lim), .int os])), (ob, .inl (cI, lim, .inl k5)), (on, .inl (cI, lim, .inl k6)), (cu, .inr (0, [.ref b0, .int ln, .int ca, .int fa, .int fp])), (b0, .inl (cI, 500, .inl g))] sz) := by
  refine Met.ofW (cc := cX1_isLast) (maxL := 4) (ret := (some .boolean)) (by decide) rfl ?_
  intro p e s m args below meth c s₁ B hml hv
  obtain ⟨rfl, hsz, hP, hK, hD0, hN, hV⟩ := hv
  have hx := B.exec
  have hb := B.bytes
  have hr := B.returns
  have hts := tb_hts (atoms_spec (ws := .code yX1_isLast cX1_isLast 4 (some .boolean) :: tbW) B.pre)
  have hown : s.vm.findClass RX1 = some m.cls := findClass_of_methodNamed B.named
  have hlocks := B.notSynchronized
  subst hsz
  have hD := hD0.self (sz := s.heap.size)
  generalize hAe : va_A [(h0, .inr (1, [.ref ob, .ref on, .int (nI lim), .int os])), (ob, .inl (cI, lim, .inl k5)), (on, .inl (cI, lim, .inl k6)), (cu, .inr (0, [.ref b0, .int ln, .int ca, .int fa, .int fp])), (b0, .inl (cI, 500, .inl g))] s.heap.size = A at hD hV ⊢
  have hA : ∀ q : Nat, s.heap.size ≤ q → A q := fun q h => by rw [← hAe]; exact Or.inr h
  have hS : va_S A s.heap s.heap [] := va_S.rf
  have hP : va_P D classes [(h0, .inr (1, [.ref ob, .ref on, .int (nI lim), .int os])), (ob, .inl (cI, lim, .inl k5)), (on, .inl (cI, lim, .inl k6)), (cu, .inr (0, [.ref b0, .int ln, .int ca, .int fa, .int fp])), (b0, .inl (cI, 500, .inl g))] s.heap := hP
  have hl := lv_entry ([.ref h0, .ref cu, .int p1, .int p2]) (n := 4) (Nat.le_of_ble_eq_true rfl)
  rw [lg_entry_eq]
  generalize (lg_sl ([.ref h0, .ref cu, .int p1, .int p2]) ++ List.replicate (4 - (lg_sl ([.ref h0, .ref cu, .int p1, .int p2])).length) Slot.unset).toArray = ls at hl ⊢
  have hl : lv_has ls 4 [(0, .ref h0), (1, .ref cu), (2, .int p1), (3, .int p2)] := hl
  refine lv_aload_n hx hb dX1_isLast_0 rfl (lv_at hl 0 rfl) ?_
  refine lv_aload_n hx hb dX1_isLast_1 rfl (lv_at hl 0 rfl) ?_
  refine va_get (D := D) (ci := 1) (v := .int os) (C := RX1) (T := TX1) (N := 4) hx hb hts inX1 hown hK hP 0 rfl rfl 3 (by decide) (hts (Cond.fieldLink "NestedTags$Names" 26 "NestedTags$Names" "size" "I") kk_1_85) (fun _ h9 => h9) rfl dX1_isLast_2 ?_
  refine lv_iconst (v := 1) hx hb dX1_isLast_5 (by decide) ?_
  refine lv_isub hx hb dX1_isLast_6 ?_
  refine lv_topi (fun x_1 ex_1 => ?_)
  refine lv_aload_n hx hb dX1_isLast_7 rfl (lv_at hl 1 rfl) ?_
  refine lv_iload_n hx hb dX1_isLast_8 rfl (lv_at hl 2 rfl) ?_
  refine lv_iload_n hx hb dX1_isLast_9 rfl (lv_at hl 3 rfl) ?_
  refine gcall_i (va_runV (As := [.int x_1, .ref cu, .int p1, .int p2]) (rest := []) ⟨hx, hb, hml, hown, hts⟩ (c_X1_isAt l D cI V h0 ob on os lim k5 k6 cu b0 ln ca fa fp g s.heap.size x_1 p1 p2 hlim) (cwV 4 hts (tb_goodV kk_2_84 kk_2_86 kk_0_8 kk_1_4 kk_2_87) rfl rfl rfl (hdV_X1_isAt) ⟨Nat.le_of_ble_eq_true rfl, Nat.le_of_ble_eq_true rfl⟩) (gpreV hK hN hV hS hA hP hD [0, 1, 2, 3, 4] rfl rfl (by decide) (va_recv hK hP (ci := 1) (q0 := 0) rfl rfl)) rfl rfl hl.1 rfl (lv_room (Nat.le_of_ble_eq_true rfl)) dX1_isLast_10 ⟨Nat.le_of_ble_eq_true rfl, Nat.le_of_ble_eq_true rfl⟩) hP hD hS hA [0, 1, 2, 3, 4] [] (wr := []) rfl rfl (by decide) (by decide) (fun r_2 u_3 H locs hw_10 hP hD hS => ?_)
  try dsimp only at hw_10
  have hP : va_P D classes [(h0, .inr (1, [.ref ob, .ref on, .int (nI lim), .int os])), (ob, .inl (cI, lim, .inl k5)), (on, .inl (cI, lim, .inl k6)), (cu, .inr (0, [.ref b0, .int ln, .int ca, .int fa, .int fp])), (b0, .inl (cI, 500, .inl g))] H := hP
  have hD : va_D A [(h0, .inr (1, [.ref ob, .ref on, .int (nI lim), .int os])), (ob, .inl (cI, lim, .inl k5)), (on, .inl (cI, lim, .inl k6)), (cu, .inr (0, [.ref b0, .int ln, .int ca, .int fa, .int fp])), (b0, .inl (cI, 500, .inl g))] := hD
  have hP9 := hP.sub (ws' := [(h0, .inr (1, [.ref ob, .ref on, .int (nI lim), .int os])), (ob, .inl (cI, lim, .inl k5)), (on, .inl (cI, lim, .inl k6)), (cu, .inr (0, [.ref b0, .int ln, .int ca, .int fa, .int fp])), (b0, .inl (cI, 500, .inl g))]) [0, 1, 2, 3, 4] rfl
  have hD9 := hD.sub (ws' := [(h0, .inr (1, [.ref ob, .ref on, .int (nI lim), .int os])), (ob, .inl (cI, lim, .inl k5)), (on, .inl (cI, lim, .inl k6)), (cu, .inr (0, [.ref b0, .int ln, .int ca, .int fa, .int fp])), (b0, .inl (cI, 500, .inl g))]) [0, 1, 2, 3, 4] (by decide) rfl
  exact W.zret (v := r_2) (ty := .boolean) hx hb hr (nb01 hw_10) (fun t ht hW => ⟨⟨r_2, (), rfl, hw_10, by rw [ht]; exact hP9, va_K.moved hW.alike hK, hD9⟩, hS.F ht⟩) hS.2.2 dX1_isLast_13

set_option maxHeartbeats 4000000 in
set_option maxRecDepth 100000 in
/-- X1_has -/
theorem c_X1_has (l : Launch) (D : va_G) (cI : ClassId) (V : (Nat → Nat) × (Nat → Nat)) (h0 : Nat) (ob : Nat) (on : Nat) (os : Int32) (lim : Nat) (k5 : Nat → Int32) (k6 : Nat → Int32) (cu : Nat) (b0 : Nat) (ln : Int32) (ca : Int32) (fa : Int32) (fp : Int32) (g : Nat → Int32) (sz : Nat) (p1 : Int32) (p2 : Int32) (hlim : lim < 1000) : Met l yX1_has (.code yX1_has cX1_has 5 (some .boolean) :: tbW) ({ frames := 3, cells := 0, slots := 0, locals := 69 }) (va_Pc [.ref h0, .ref cu, .int p1, .int p2] (gP D cI V [(h0, .inr (1, [.ref ob, .ref on, .int (nI lim), .int os])), (ob, .inl (cI, lim, .inl k5)), (on, .inl (cI, lim, .inl k6)), (cu, .inr (0, [.ref b0, .int ln, .int ca, .int fa, .int fp])), (b0, .inl (cI, 500, .inl g))] sz)) (va_Qi (fun (r : Int32) (u : Unit) => r = 0 ∨ r = 1) (fun u => gB D cI (va_A [(h0, .inr (1, [.ref ob, .ref on, .int (nI lim), .int os])), (ob, .inl (cI, lim, .inl k5)), (on, .inl (cI, lim, .inl k6)), (cu, .inr (0, [.ref b0, .int ln, .int ca, .int fa, .int fp])), (b0, .inl (cI, 500, .inl g))] sz) [(h0, .inr (1, [.ref ob, .ref on, .int (nI lim), .int os])), (ob, .inl (cI, lim, .inl k5)), (on, .inl (cI, lim, .inl k6)), (cu, .inr (0, [.ref b0, .int ln, .int ca, .int fa, .int fp])), (b0, .inl (cI, 500, .inl g))]) (va_A [(h0, .inr (1, [.ref ob, .ref on, .int (nI lim), .int os])), (ob, .inl (cI, lim, .inl k5)), (on, .inl (cI, lim, .inl k6)), (cu, .inr (0, [.ref b0, .int ln, .int ca, .int fa, .int fp])), (b0, .inl (cI, 500, .inl g))] sz)) 0 0 (va_A [(h0, .inr (1, [.ref ob, .ref on, .int (nI lim), .int os])), (ob, .inl (cI, lim, .inl k5)), (on, .inl (cI, lim, .inl k6)), (cu, .inr (0, [.ref b0, .int ln, .int ca, .int fa, .int fp])), (b0, .inl (cI, 500, .inl g))] sz) := by
  refine Met.ofW (cc := cX1_has) (maxL := 5) (ret := (some .boolean)) (by decide) rfl ?_
  intro p e s m args below meth c s₁ B hml hv
  obtain ⟨rfl, hsz, hP, hK, hD0, hN, hV⟩ := hv
  have hx := B.exec
  have hb := B.bytes
  have hr := B.returns
  have hts := tb_hts (atoms_spec (ws := .code yX1_has cX1_has 5 (some .boolean) :: tbW) B.pre)
  have hown : s.vm.findClass RX1 = some m.cls := findClass_of_methodNamed B.named
  have hlocks := B.notSynchronized
  subst hsz
  have hD := hD0.self (sz := s.heap.size)
  generalize hAe : va_A [(h0, .inr (1, [.ref ob, .ref on, .int (nI lim), .int os])), (ob, .inl (cI, lim, .inl k5)), (on, .inl (cI, lim, .inl k6)), (cu, .inr (0, [.ref b0, .int ln, .int ca, .int fa, .int fp])), (b0, .inl (cI, 500, .inl g))] s.heap.size = A at hD hV ⊢
  have hA : ∀ q : Nat, s.heap.size ≤ q → A q := fun q h => by rw [← hAe]; exact Or.inr h
  have hS : va_S A s.heap s.heap [] := va_S.rf
  have hP : va_P D classes [(h0, .inr (1, [.ref ob, .ref on, .int (nI lim), .int os])), (ob, .inl (cI, lim, .inl k5)), (on, .inl (cI, lim, .inl k6)), (cu, .inr (0, [.ref b0, .int ln, .int ca, .int fa, .int fp])), (b0, .inl (cI, 500, .inl g))] s.heap := hP
  have hl := lv_entry ([.ref h0, .ref cu, .int p1, .int p2]) (n := 5) (Nat.le_of_ble_eq_true rfl)
  rw [lg_entry_eq]
  generalize (lg_sl ([.ref h0, .ref cu, .int p1, .int p2]) ++ List.replicate (5 - (lg_sl ([.ref h0, .ref cu, .int p1, .int p2])).length) Slot.unset).toArray = ls at hl ⊢
  have hl : lv_has ls 5 [(0, .ref h0), (1, .ref cu), (2, .int p1), (3, .int p2)] := hl
  generalize hQ : MQ below (va_Qi (fun (r : Int32) (u : Unit) => r = 0 ∨ r = 1) (fun u => gB D cI A [(h0, .inr (1, [.ref ob, .ref on, .int (nI lim), .int os])), (ob, .inl (cI, lim, .inl k5)), (on, .inl (cI, lim, .inl k6)), (cu, .inr (0, [.ref b0, .int ln, .int ca, .int fa, .int fp])), (b0, .inl (cI, 500, .inl g))]) A) (([.ref h0, .ref cu, .int p1, .int p2] : List Value).toArray) s 0 0 A = Q
  refine lv_iconst (v := 0) hx hb dX1_has_0 (by decide) ?_
  refine lv_istore (lv' := [(4, .int 0), (0, .ref h0), (1, .ref cu), (2, .int p1), (3, .int p2)]) hx hb dX1_has_1 hl (by decide) rfl (fun ls hl => ?_)
  have loop_3 : ∀ (n : Nat) (x_l : Int32) (H : Heap) (locs : List Loc), (os.toInt - x_l.toInt).toNat < n → va_P D classes [(h0, .inr (1, [.ref ob, .ref on, .int (nI lim), .int os])), (ob, .inl (cI, lim, .inl k5)), (on, .inl (cI, lim, .inl k6)), (cu, .inr (0, [.ref b0, .int ln, .int ca, .int fa, .int fp])), (b0, .inl (cI, 500, .inl g))] H → va_D A [(h0, .inr (1, [.ref ob, .ref on, .int (nI lim), .int os])), (ob, .inl (cI, lim, .inl k5)), (on, .inl (cI, lim, .inl k6)), (cu, .inr (0, [.ref b0, .int ln, .int ca, .int fa, .int fp])), (b0, .inl (cI, 500, .inl g))] → va_S A s.heap H locs → ∀ (ls : Array Slot), lv_has ls 5 [(4, .int x_l), (0, .ref h0), (1, .ref cu), (2, .int p1), (3, .int p2)] → W p l e (headSpec (.code yX1_has cX1_has 5 (some .boolean) :: tbW) { frames := 3, cells := 0, slots := 0, locals := 69 }).room s m (([.ref h0, .ref cu, .int p1, .int p2] : List Value).toArray) below meth c H locs 0 0 Q (F0 m 3 ls []) := by
    intro n
    induction n with
    | zero =>
      intro x_l H locs hm
      exact absurd hm (Nat.not_lt_zero _)
    | succ n ih_3 =>
      intro x_l H locs hm_3  hP hD hS ls hl
      refine lv_iload hx hb dX1_has_3 (lv_at hl 0 rfl) ?_
      refine lv_aload_n hx hb dX1_has_5 rfl (lv_at hl 1 rfl) ?_
      refine va_get (D := D) (ci := 1) (v := .int os) (C := RX1) (T := TX1) (N := 4) hx hb hts inX1 hown hK hP 0 rfl rfl 3 (by decide) (hts (Cond.fieldLink "NestedTags$Names" 26 "NestedTags$Names" "size" "I") kk_1_85) (fun _ h9 => h9) rfl dX1_has_6 ?_
      refine lv_icmp_ge (tgt := 32) hx hb dX1_has_9 (by decide) (fun c_9 => ?_) (fun c_9 => ?_)
      · skip
        refine lv_iconst (v := 0) hx hb dX1_has_32 (by decide) ?_
        have hP9 := hP.sub (ws' := [(h0, .inr (1, [.ref ob, .ref on, .int (nI lim), .int os])), (ob, .inl (cI, lim, .inl k5)), (on, .inl (cI, lim, .inl k6)), (cu, .inr (0, [.ref b0, .int ln, .int ca, .int fa, .int fp])), (b0, .inl (cI, 500, .inl g))]) [0, 1, 2, 3, 4] rfl
        have hD9 := hD.sub (ws' := [(h0, .inr (1, [.ref ob, .ref on, .int (nI lim), .int os])), (ob, .inl (cI, lim, .inl k5)), (on, .inl (cI, lim, .inl k6)), (cu, .inr (0, [.ref b0, .int ln, .int ca, .int fa, .int fp])), (b0, .inl (cI, 500, .inl g))]) [0, 1, 2, 3, 4] (by decide) rfl
        rw [← hQ]
        exact W.zret (v := 0) (ty := .boolean) hx hb hr rfl (fun t ht hW => ⟨⟨0, (), rfl, Or.inl rfl, by rw [ht]; exact hP9, va_K.moved hW.alike hK, hD9⟩, hS.F ht⟩) hS.2.2 dX1_has_33
      · skip
        refine lv_aload_n hx hb dX1_has_12 rfl (lv_at hl 1 rfl) ?_
        refine lv_iload hx hb dX1_has_13 (lv_at hl 0 rfl) ?_
        refine lv_aload_n hx hb dX1_has_15 rfl (lv_at hl 2 rfl) ?_
        refine lv_iload_n hx hb dX1_has_16 rfl (lv_at hl 3 rfl) ?_
        refine lv_iload_n hx hb dX1_has_17 rfl (lv_at hl 4 rfl) ?_
        refine gcall_i (va_runV (As := [.int x_l, .ref cu, .int p1, .int p2]) (rest := []) ⟨hx, hb, hml, hown, hts⟩ (c_X1_isAt l D cI V h0 ob on os lim k5 k6 cu b0 ln ca fa fp g H.size x_l p1 p2 hlim) (cwV 4 hts (tb_goodV kk_2_84 kk_2_86 kk_0_8 kk_1_4 kk_2_87) rfl rfl rfl (hdV_X1_isAt) ⟨Nat.le_of_ble_eq_true rfl, Nat.le_of_ble_eq_true rfl⟩) (gpreV hK hN hV hS hA hP hD [0, 1, 2, 3, 4] rfl rfl (by decide) (va_recv hK hP (ci := 1) (q0 := 0) rfl rfl)) rfl rfl hl.1 rfl (lv_room (Nat.le_of_ble_eq_true rfl)) dX1_has_18 ⟨Nat.le_of_ble_eq_true rfl, Nat.le_of_ble_eq_true rfl⟩) hP hD hS hA [0, 1, 2, 3, 4] [] (wr := []) rfl rfl (by decide) (by decide) (fun r_1 u_2 H locs hw_18 hP hD hS => ?_)
        try dsimp only at hw_18
        have hP : va_P D classes [(h0, .inr (1, [.ref ob, .ref on, .int (nI lim), .int os])), (ob, .inl (cI, lim, .inl k5)), (on, .inl (cI, lim, .inl k6)), (cu, .inr (0, [.ref b0, .int ln, .int ca, .int fa, .int fp])), (b0, .inl (cI, 500, .inl g))] H := hP
        have hD : va_D A [(h0, .inr (1, [.ref ob, .ref on, .int (nI lim), .int os])), (ob, .inl (cI, lim, .inl k5)), (on, .inl (cI, lim, .inl k6)), (cu, .inr (0, [.ref b0, .int ln, .int ca, .int fa, .int fp])), (b0, .inl (cI, 500, .inl g))] := hD
        refine lv_if_eq (tgt := 26) hx hb dX1_has_21 (by decide) (fun c_21 => ?_) (fun c_21 => ?_)
        · skip
          obtain ⟨x_3, ex_3⟩ : ∃ y : Int32, y = x_l + 1 := ⟨_, rfl⟩
          refine lv_iinc (v := x_3) (lv' := [(4, .int x_3), (0, .ref h0), (1, .ref cu), (2, .int p1), (3, .int p2)]) hx hb dX1_has_26 hl (k := 0) rfl (by rw [ex_3]; rfl) (by decide) rfl (fun ls hl => ?_)
          refine lv_goto (tgt := 3) hx hb dX1_has_29 (by decide) ?_
          exact ih_3 x_3 _ _ (mu_up c_9 ex_3 hm_3)  (hP.sub [0, 1, 2, 3, 4] rfl) (hD.sub [0, 1, 2, 3, 4] (by decide) rfl) hS ls (lv_sub hl [0, 1, 2, 3, 4] rfl)
        · skip
          refine lv_iconst (v := 1) hx hb dX1_has_24 (by decide) ?_
          have hP9 := hP.sub (ws' := [(h0, .inr (1, [.ref ob, .ref on, .int (nI lim), .int os])), (ob, .inl (cI, lim, .inl k5)), (on, .inl (cI, lim, .inl k6)), (cu, .inr (0, [.ref b0, .int ln, .int ca, .int fa, .int fp])), (b0, .inl (cI, 500, .inl g))]) [0, 1, 2, 3, 4] rfl
          have hD9 := hD.sub (ws' := [(h0, .inr (1, [.ref ob, .ref on, .int (nI lim), .int os])), (ob, .inl (cI, lim, .inl k5)), (on, .inl (cI, lim, .inl k6)), (cu, .inr (0, [.ref b0, .int ln, .int ca, .int fa, .int fp])), (b0, .inl (cI, 500, .inl g))]) [0, 1, 2, 3, 4] (by decide) rfl
          rw [← hQ]
          exact W.zret (v := 1) (ty := .boolean) hx hb hr rfl (fun t ht hW => ⟨⟨1, (), rfl, Or.inr rfl, by rw [ht]; exact hP9, va_K.moved hW.alike hK, hD9⟩, hS.F ht⟩) hS.2.2 dX1_has_25
  exact loop_3 _ 0 _ _ (Nat.lt_succ_self _)  hP hD hS ls hl

set_option maxHeartbeats 4000000 in
set_option maxRecDepth 100000 in
/-- X2_add -/
theorem c_X2_add (l : Launch) (D : va_G) (cI : ClassId) (V : (Nat → Nat) × (Nat → Nat)) (h0 : Nat) (pk : Nat) (pb : Nat) (pe : Nat) (pd : Nat) (ps : Int32) (pa : Int32) (k1 : Nat → Int32) (k2 : Nat → Int32) (k3 : Nat → Int32) (k4 : Nat → Int32) (sz : Nat) (p1 : Int32) (p2 : Int32) (p3 : Int32) (p4 : Int32)  : Met l yX2_add (.code yX2_add cX2_add 5 (some .boolean) :: tbW) ({ frames := 0, cells := 0, slots := 0, locals := 0 }) (va_Pc [.ref h0, .int p1, .int p2, .int p3, .int p4] (gP D cI V [(h0, .inr (2, [.ref pk, .ref pb, .ref pe, .ref pd, .int ps, .int pa])), (pk, .inl (cI, 150, .inl k1)), (pb, .inl (cI, 150, .inl k2)), (pe, .inl (cI, 150, .inl k3)), (pd, .inl (cI, 150, .inl k4))] sz)) (va_Qi (fun (r : Int32) (u : Int32 × Int32 × (Nat → Int32) × (Nat → Int32) × (Nat → Int32) × (Nat → Int32)) => r = 0 ∨ r = 1) (fun u => gB D cI (va_A [(h0, .inr (2, [.ref pk, .ref pb, .ref pe, .ref pd, .int ps, .int pa])), (pk, .inl (cI, 150, .inl k1)), (pb, .inl (cI, 150, .inl k2)), (pe, .inl (cI, 150, .inl k3)), (pd, .inl (cI, 150, .inl k4))] sz) [(h0, .inr (2, [.ref pk, .ref pb, .ref pe, .ref pd, .int u.1, .int u.2.1])), (pk, .inl (cI, 150, .inl u.2.2.1)), (pb, .inl (cI, 150, .inl u.2.2.2.1)), (pe, .inl (cI, 150, .inl u.2.2.2.2.1)), (pd, .inl (cI, 150, .inl u.2.2.2.2.2))]) (va_A [(h0, .inr (2, [.ref pk, .ref pb, .ref pe, .ref pd, .int ps, .int pa])), (pk, .inl (cI, 150, .inl k1)), (pb, .inl (cI, 150, .inl k2)), (pe, .inl (cI, 150, .inl k3)), (pd, .inl (cI, 150, .inl k4))] sz)) 0 0 (va_A [(h0, .inr (2, [.ref pk, .ref pb, .ref pe, .ref pd, .int ps, .int pa])), (pk, .inl (cI, 150, .inl k1)), (pb, .inl (cI, 150, .inl k2)), (pe, .inl (cI, 150, .inl k3)), (pd, .inl (cI, 150, .inl k4))] sz) := by
  refine Met.ofW (cc := cX2_add) (maxL := 5) (ret := (some .boolean)) (by decide) rfl ?_
  intro p e s m args below meth c s₁ B hml hv
  obtain ⟨rfl, hsz, hP, hK, hD0, hN, hV⟩ := hv
  have hx := B.exec
  have hb := B.bytes
  have hr := B.returns
  have hts := tb_hts (atoms_spec (ws := .code yX2_add cX2_add 5 (some .boolean) :: tbW) B.pre)
  have hown : s.vm.findClass RX2 = some m.cls := findClass_of_methodNamed B.named
  have hlocks := B.notSynchronized
  subst hsz
  have hD := hD0.self (sz := s.heap.size)
  generalize hAe : va_A [(h0, .inr (2, [.ref pk, .ref pb, .ref pe, .ref pd, .int ps, .int pa])), (pk, .inl (cI, 150, .inl k1)), (pb, .inl (cI, 150, .inl k2)), (pe, .inl (cI, 150, .inl k3)), (pd, .inl (cI, 150, .inl k4))] s.heap.size = A at hD hV ⊢
  have hA : ∀ q : Nat, s.heap.size ≤ q → A q := fun q h => by rw [← hAe]; exact Or.inr h
  have hS : va_S A s.heap s.heap [] := va_S.rf
  have hP : va_P D classes [(h0, .inr (2, [.ref pk, .ref pb, .ref pe, .ref pd, .int ps, .int pa])), (pk, .inl (cI, 150, .inl k1)), (pb, .inl (cI, 150, .inl k2)), (pe, .inl (cI, 150, .inl k3)), (pd, .inl (cI, 150, .inl k4))] s.heap := hP
  have hl := lv_entry ([.ref h0, .int p1, .int p2, .int p3, .int p4]) (n := 5) (Nat.le_of_ble_eq_true rfl)
  rw [lg_entry_eq]
  generalize (lg_sl ([.ref h0, .int p1, .int p2, .int p3, .int p4]) ++ List.replicate (5 - (lg_sl ([.ref h0, .int p1, .int p2, .int p3, .int p4])).length) Slot.unset).toArray = ls at hl ⊢
  have hl : lv_has ls 5 [(0, .ref h0), (1, .int p1), (2, .int p2), (3, .int p3), (4, .int p4)] := hl
  refine lv_aload_n hx hb dX2_add_0 rfl (lv_at hl 0 rfl) ?_
  refine va_get (D := D) (ci := 2) (v := .int ps) (C := RX2) (T := TX2) (N := 6) hx hb hts inX2 hown hK hP 0 rfl rfl 4 (by decide) (hts (Cond.fieldLink "NestedTags$Pieces" 24 "NestedTags$Pieces" "size" "I") kk_1_56) (fun _ h9 => h9) rfl dX2_add_1 ?_
  refine lv_if_lt (tgt := 17) hx hb dX2_add_4 (by decide) (fun c_4 => ?_) (fun c_4 => ?_)
  · skip
    refine lv_iconst (v := 0) hx hb dX2_add_17 (by decide) ?_
    have hP9 := hP.sub (ws' := [(h0, .inr (2, [.ref pk, .ref pb, .ref pe, .ref pd, .int ps, .int pa])), (pk, .inl (cI, 150, .inl k1)), (pb, .inl (cI, 150, .inl k2)), (pe, .inl (cI, 150, .inl k3)), (pd, .inl (cI, 150, .inl k4))]) [0, 1, 2, 3, 4] rfl
    have hD9 := hD.sub (ws' := [(h0, .inr (2, [.ref pk, .ref pb, .ref pe, .ref pd, .int ps, .int pa])), (pk, .inl (cI, 150, .inl k1)), (pb, .inl (cI, 150, .inl k2)), (pe, .inl (cI, 150, .inl k3)), (pd, .inl (cI, 150, .inl k4))]) [0, 1, 2, 3, 4] (by decide) rfl
    exact W.zret (v := 0) (ty := .boolean) hx hb hr rfl (fun t ht hW => ⟨⟨0, (ps, pa, k1, k2, k3, k4), rfl, Or.inl rfl, by rw [ht]; exact hP9, va_K.moved hW.alike hK, hD9⟩, hS.F ht⟩) hS.2.2 dX2_add_18
  · skip
    refine lv_aload_n hx hb dX2_add_7 rfl (lv_at hl 0 rfl) ?_
    refine va_get (D := D) (ci := 2) (v := .int ps) (C := RX2) (T := TX2) (N := 6) hx hb hts inX2 hown hK hP 0 rfl rfl 4 (by decide) (hts (Cond.fieldLink "NestedTags$Pieces" 24 "NestedTags$Pieces" "size" "I") kk_1_56) (fun _ h9 => h9) rfl dX2_add_8 ?_
    refine lv_sipush (v := 150) hx hb dX2_add_11 (by decide) ?_
    refine lv_icmp_lt (tgt := 19) hx hb dX2_add_14 (by decide) (fun c_14 => ?_) (fun c_14 => ?_)
    · skip
      refine lv_aload_n hx hb dX2_add_19 rfl (lv_at hl 0 rfl) ?_
      refine va_get (D := D) (ci := 2) (v := .ref pk) (C := RX2) (T := TX2) (N := 6) hx hb hts inX2 hown hK hP 0 rfl rfl 0 (by decide) (hts (Cond.fieldLink "NestedTags$Pieces" 9 "NestedTags$Pieces" "kinds" "[I") kk_1_52) (fun _ h9 => h9) rfl dX2_add_20 ?_
      refine lv_aload_n hx hb dX2_add_23 rfl (lv_at hl 0 rfl) ?_
      refine va_get (D := D) (ci := 2) (v := .int ps) (C := RX2) (T := TX2) (N := 6) hx hb hts inX2 hown hK hP 0 rfl rfl 4 (by decide) (hts (Cond.fieldLink "NestedTags$Pieces" 24 "NestedTags$Pieces" "size" "I") kk_1_56) (fun _ h9 => h9) rfl dX2_add_24 ?_
      refine lv_iload_n hx hb dX2_add_27 rfl (lv_at hl 1 rfl) ?_
      refine va_iast hx hb hK hP hD hS 1 0 rfl rfl (vin_of c_4 (nlt150 c_14) (by decide)) dX2_add_28 (fun H locs hP hD hS => ?_)
      have hP : va_P D classes [(h0, .inr (2, [.ref pk, .ref pb, .ref pe, .ref pd, .int ps, .int pa])), (pk, .inl (cI, 150, .inl (upd k1 ps.toNatClampNeg p1))), (pb, .inl (cI, 150, .inl k2)), (pe, .inl (cI, 150, .inl k3)), (pd, .inl (cI, 150, .inl k4))] H := hP
      have hD : va_D A [(h0, .inr (2, [.ref pk, .ref pb, .ref pe, .ref pd, .int ps, .int pa])), (pk, .inl (cI, 150, .inl (upd k1 ps.toNatClampNeg p1))), (pb, .inl (cI, 150, .inl k2)), (pe, .inl (cI, 150, .inl k3)), (pd, .inl (cI, 150, .inl k4))] := hD
      obtain ⟨f_1, ef_1⟩ : ∃ z, z = (upd k1 ps.toNatClampNeg p1) := ⟨_, rfl⟩
      rw [← ef_1] at hP hD
      refine lv_aload_n hx hb dX2_add_29 rfl (lv_at hl 0 rfl) ?_
      refine va_get (D := D) (ci := 2) (v := .ref pb) (C := RX2) (T := TX2) (N := 6) hx hb hts inX2 hown hK hP 0 rfl rfl 1 (by decide) (hts (Cond.fieldLink "NestedTags$Pieces" 15 "NestedTags$Pieces" "begins" "[I") kk_1_53) (fun _ h9 => h9) rfl dX2_add_30 ?_
      refine lv_aload_n hx hb dX2_add_33 rfl (lv_at hl 0 rfl) ?_
      refine va_get (D := D) (ci := 2) (v := .int ps) (C := RX2) (T := TX2) (N := 6) hx hb hts inX2 hown hK hP 0 rfl rfl 4 (by decide) (hts (Cond.fieldLink "NestedTags$Pieces" 24 "NestedTags$Pieces" "size" "I") kk_1_56) (fun _ h9 => h9) rfl dX2_add_34 ?_
      refine lv_iload_n hx hb dX2_add_37 rfl (lv_at hl 2 rfl) ?_
      refine va_iast hx hb hK hP hD hS 2 0 rfl rfl (vin_of c_4 (nlt150 c_14) (by decide)) dX2_add_38 (fun H locs hP hD hS => ?_)
      have hP : va_P D classes [(h0, .inr (2, [.ref pk, .ref pb, .ref pe, .ref pd, .int ps, .int pa])), (pk, .inl (cI, 150, .inl f_1)), (pb, .inl (cI, 150, .inl (upd k2 ps.toNatClampNeg p2))), (pe, .inl (cI, 150, .inl k3)), (pd, .inl (cI, 150, .inl k4))] H := hP
      have hD : va_D A [(h0, .inr (2, [.ref pk, .ref pb, .ref pe, .ref pd, .int ps, .int pa])), (pk, .inl (cI, 150, .inl f_1)), (pb, .inl (cI, 150, .inl (upd k2 ps.toNatClampNeg p2))), (pe, .inl (cI, 150, .inl k3)), (pd, .inl (cI, 150, .inl k4))] := hD
      obtain ⟨f_2, ef_2⟩ : ∃ z, z = (upd k2 ps.toNatClampNeg p2) := ⟨_, rfl⟩
      rw [← ef_2] at hP hD
      refine lv_aload_n hx hb dX2_add_39 rfl (lv_at hl 0 rfl) ?_
      refine va_get (D := D) (ci := 2) (v := .ref pe) (C := RX2) (T := TX2) (N := 6) hx hb hts inX2 hown hK hP 0 rfl rfl 2 (by decide) (hts (Cond.fieldLink "NestedTags$Pieces" 18 "NestedTags$Pieces" "ends" "[I") kk_1_54) (fun _ h9 => h9) rfl dX2_add_40 ?_
      refine lv_aload_n hx hb dX2_add_43 rfl (lv_at hl 0 rfl) ?_
      refine va_get (D := D) (ci := 2) (v := .int ps) (C := RX2) (T := TX2) (N := 6) hx hb hts inX2 hown hK hP 0 rfl rfl 4 (by decide) (hts (Cond.fieldLink "NestedTags$Pieces" 24 "NestedTags$Pieces" "size" "I") kk_1_56) (fun _ h9 => h9) rfl dX2_add_44 ?_
      refine lv_iload_n hx hb dX2_add_47 rfl (lv_at hl 3 rfl) ?_
      refine va_iast hx hb hK hP hD hS 3 0 rfl rfl (vin_of c_4 (nlt150 c_14) (by decide)) dX2_add_48 (fun H locs hP hD hS => ?_)
      have hP : va_P D classes [(h0, .inr (2, [.ref pk, .ref pb, .ref pe, .ref pd, .int ps, .int pa])), (pk, .inl (cI, 150, .inl f_1)), (pb, .inl (cI, 150, .inl f_2)), (pe, .inl (cI, 150, .inl (upd k3 ps.toNatClampNeg p3))), (pd, .inl (cI, 150, .inl k4))] H := hP
      have hD : va_D A [(h0, .inr (2, [.ref pk, .ref pb, .ref pe, .ref pd, .int ps, .int pa])), (pk, .inl (cI, 150, .inl f_1)), (pb, .inl (cI, 150, .inl f_2)), (pe, .inl (cI, 150, .inl (upd k3 ps.toNatClampNeg p3))), (pd, .inl (cI, 150, .inl k4))] := hD
      obtain ⟨f_3, ef_3⟩ : ∃ z, z = (upd k3 ps.toNatClampNeg p3) := ⟨_, rfl⟩
      rw [← ef_3] at hP hD
      refine lv_aload_n hx hb dX2_add_49 rfl (lv_at hl 0 rfl) ?_
      refine va_get (D := D) (ci := 2) (v := .ref pd) (C := RX2) (T := TX2) (N := 6) hx hb hts inX2 hown hK hP 0 rfl rfl 3 (by decide) (hts (Cond.fieldLink "NestedTags$Pieces" 21 "NestedTags$Pieces" "depths" "[I") kk_1_55) (fun _ h9 => h9) rfl dX2_add_50 ?_
      refine lv_aload_n hx hb dX2_add_53 rfl (lv_at hl 0 rfl) ?_
      refine va_get (D := D) (ci := 2) (v := .int ps) (C := RX2) (T := TX2) (N := 6) hx hb hts inX2 hown hK hP 0 rfl rfl 4 (by decide) (hts (Cond.fieldLink "NestedTags$Pieces" 24 "NestedTags$Pieces" "size" "I") kk_1_56) (fun _ h9 => h9) rfl dX2_add_54 ?_
      refine lv_iload hx hb dX2_add_57 (lv_at hl 4 rfl) ?_
      refine va_iast hx hb hK hP hD hS 4 0 rfl rfl (vin_of c_4 (nlt150 c_14) (by decide)) dX2_add_59 (fun H locs hP hD hS => ?_)
      have hP : va_P D classes [(h0, .inr (2, [.ref pk, .ref pb, .ref pe, .ref pd, .int ps, .int pa])), (pk, .inl (cI, 150, .inl f_1)), (pb, .inl (cI, 150, .inl f_2)), (pe, .inl (cI, 150, .inl f_3)), (pd, .inl (cI, 150, .inl (upd k4 ps.toNatClampNeg p4)))] H := hP
      have hD : va_D A [(h0, .inr (2, [.ref pk, .ref pb, .ref pe, .ref pd, .int ps, .int pa])), (pk, .inl (cI, 150, .inl f_1)), (pb, .inl (cI, 150, .inl f_2)), (pe, .inl (cI, 150, .inl f_3)), (pd, .inl (cI, 150, .inl (upd k4 ps.toNatClampNeg p4)))] := hD
      obtain ⟨f_4, ef_4⟩ : ∃ z, z = (upd k4 ps.toNatClampNeg p4) := ⟨_, rfl⟩
      rw [← ef_4] at hP hD
      refine lv_aload_n hx hb dX2_add_60 rfl (lv_at hl 0 rfl) ?_
      refine lv_dup hx hb dX2_add_61 rfl ?_
      refine va_get (D := D) (ci := 2) (v := .int ps) (C := RX2) (T := TX2) (N := 6) hx hb hts inX2 hown hK hP 0 rfl rfl 4 (by decide) (hts (Cond.fieldLink "NestedTags$Pieces" 24 "NestedTags$Pieces" "size" "I") kk_1_56) (fun _ h9 => h9) rfl dX2_add_62 ?_
      refine lv_iconst (v := 1) hx hb dX2_add_65 (by decide) ?_
      refine lv_iadd hx hb dX2_add_66 ?_
      refine lv_topi (fun x_5 ex_5 => ?_)
      refine va_put (D := D) (ci := 2) (v := .int x_5) (ty := .int) (C := RX2) (T := TX2) (N := 6) hx hb hts inX2 tyX2 tyX2_ok nmX2 hown hK hP hD hS 0 rfl rfl 4 (by decide) (hts (Cond.fieldLink "NestedTags$Pieces" 24 "NestedTags$Pieces" "size" "I") kk_1_56) (fun _ h9 => h9) rfl (tyX2_ok 4 (by decide)) rfl rfl (Nat.le_of_ble_eq_true rfl) dX2_add_67 (fun H locs hP hD hS => ?_)
      have hP : va_P D classes [(h0, .inr (2, [.ref pk, .ref pb, .ref pe, .ref pd, .int x_5, .int pa])), (pk, .inl (cI, 150, .inl f_1)), (pb, .inl (cI, 150, .inl f_2)), (pe, .inl (cI, 150, .inl f_3)), (pd, .inl (cI, 150, .inl f_4))] H := hP
      have hD : va_D A [(h0, .inr (2, [.ref pk, .ref pb, .ref pe, .ref pd, .int x_5, .int pa])), (pk, .inl (cI, 150, .inl f_1)), (pb, .inl (cI, 150, .inl f_2)), (pe, .inl (cI, 150, .inl f_3)), (pd, .inl (cI, 150, .inl f_4))] := hD
      refine lv_iload_n hx hb dX2_add_70 rfl (lv_at hl 1 rfl) ?_
      refine lv_iconst (v := 3) hx hb dX2_add_71 (by decide) ?_
      refine lv_icmp_ne (tgt := 85) hx hb dX2_add_72 (by decide) (fun c_72 => ?_) (fun c_72 => ?_)
      · skip
        refine lv_iconst (v := 1) hx hb dX2_add_85 (by decide) ?_
        have hP9 := hP.sub (ws' := [(h0, .inr (2, [.ref pk, .ref pb, .ref pe, .ref pd, .int x_5, .int pa])), (pk, .inl (cI, 150, .inl f_1)), (pb, .inl (cI, 150, .inl f_2)), (pe, .inl (cI, 150, .inl f_3)), (pd, .inl (cI, 150, .inl f_4))]) [0, 1, 2, 3, 4] rfl
        have hD9 := hD.sub (ws' := [(h0, .inr (2, [.ref pk, .ref pb, .ref pe, .ref pd, .int x_5, .int pa])), (pk, .inl (cI, 150, .inl f_1)), (pb, .inl (cI, 150, .inl f_2)), (pe, .inl (cI, 150, .inl f_3)), (pd, .inl (cI, 150, .inl f_4))]) [0, 1, 2, 3, 4] (by decide) rfl
        exact W.zret (v := 1) (ty := .boolean) hx hb hr rfl (fun t ht hW => ⟨⟨1, (x_5, pa, f_1, f_2, f_3, f_4), rfl, Or.inr rfl, by rw [ht]; exact hP9, va_K.moved hW.alike hK, hD9⟩, hS.F ht⟩) hS.2.2 dX2_add_86
      · skip
        refine lv_aload_n hx hb dX2_add_75 rfl (lv_at hl 0 rfl) ?_
        refine lv_dup hx hb dX2_add_76 rfl ?_
        refine va_get (D := D) (ci := 2) (v := .int pa) (C := RX2) (T := TX2) (N := 6) hx hb hts inX2 hown hK hP 0 rfl rfl 5 (by decide) (hts (Cond.fieldLink "NestedTags$Pieces" 28 "NestedTags$Pieces" "attributes" "I") kk_1_58) (fun _ h9 => h9) rfl dX2_add_77 ?_
        refine lv_iconst (v := 1) hx hb dX2_add_80 (by decide) ?_
        refine lv_iadd hx hb dX2_add_81 ?_
        refine lv_topi (fun x_6 ex_6 => ?_)
        refine va_put (D := D) (ci := 2) (v := .int x_6) (ty := .int) (C := RX2) (T := TX2) (N := 6) hx hb hts inX2 tyX2 tyX2_ok nmX2 hown hK hP hD hS 0 rfl rfl 5 (by decide) (hts (Cond.fieldLink "NestedTags$Pieces" 28 "NestedTags$Pieces" "attributes" "I") kk_1_58) (fun _ h9 => h9) rfl (tyX2_ok 5 (by decide)) rfl rfl (Nat.le_of_ble_eq_true rfl) dX2_add_82 (fun H locs hP hD hS => ?_)
        have hP : va_P D classes [(h0, .inr (2, [.ref pk, .ref pb, .ref pe, .ref pd, .int x_5, .int x_6])), (pk, .inl (cI, 150, .inl f_1)), (pb, .inl (cI, 150, .inl f_2)), (pe, .inl (cI, 150, .inl f_3)), (pd, .inl (cI, 150, .inl f_4))] H := hP
        have hD : va_D A [(h0, .inr (2, [.ref pk, .ref pb, .ref pe, .ref pd, .int x_5, .int x_6])), (pk, .inl (cI, 150, .inl f_1)), (pb, .inl (cI, 150, .inl f_2)), (pe, .inl (cI, 150, .inl f_3)), (pd, .inl (cI, 150, .inl f_4))] := hD
        refine lv_iconst (v := 1) hx hb dX2_add_85 (by decide) ?_
        have hP9 := hP.sub (ws' := [(h0, .inr (2, [.ref pk, .ref pb, .ref pe, .ref pd, .int x_5, .int x_6])), (pk, .inl (cI, 150, .inl f_1)), (pb, .inl (cI, 150, .inl f_2)), (pe, .inl (cI, 150, .inl f_3)), (pd, .inl (cI, 150, .inl f_4))]) [0, 1, 2, 3, 4] rfl
        have hD9 := hD.sub (ws' := [(h0, .inr (2, [.ref pk, .ref pb, .ref pe, .ref pd, .int x_5, .int x_6])), (pk, .inl (cI, 150, .inl f_1)), (pb, .inl (cI, 150, .inl f_2)), (pe, .inl (cI, 150, .inl f_3)), (pd, .inl (cI, 150, .inl f_4))]) [0, 1, 2, 3, 4] (by decide) rfl
        exact W.zret (v := 1) (ty := .boolean) hx hb hr rfl (fun t ht hW => ⟨⟨1, (x_5, x_6, f_1, f_2, f_3, f_4), rfl, Or.inr rfl, by rw [ht]; exact hP9, va_K.moved hW.alike hK, hD9⟩, hS.F ht⟩) hS.2.2 dX2_add_86
    · skip
      refine lv_iconst (v := 0) hx hb dX2_add_17 (by decide) ?_
      have hP9 := hP.sub (ws' := [(h0, .inr (2, [.ref pk, .ref pb, .ref pe, .ref pd, .int ps, .int pa])), (pk, .inl (cI, 150, .inl k1)), (pb, .inl (cI, 150, .inl k2)), (pe, .inl (cI, 150, .inl k3)), (pd, .inl (cI, 150, .inl k4))]) [0, 1, 2, 3, 4] rfl
      have hD9 := hD.sub (ws' := [(h0, .inr (2, [.ref pk, .ref pb, .ref pe, .ref pd, .int ps, .int pa])), (pk, .inl (cI, 150, .inl k1)), (pb, .inl (cI, 150, .inl k2)), (pe, .inl (cI, 150, .inl k3)), (pd, .inl (cI, 150, .inl k4))]) [0, 1, 2, 3, 4] (by decide) rfl
      exact W.zret (v := 0) (ty := .boolean) hx hb hr rfl (fun t ht hW => ⟨⟨0, (ps, pa, k1, k2, k3, k4), rfl, Or.inl rfl, by rw [ht]; exact hP9, va_K.moved hW.alike hK, hD9⟩, hS.F ht⟩) hS.2.2 dX2_add_18
