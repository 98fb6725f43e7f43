set_option maxHeartbeats 4000000 in
set_option maxRecDepth 100000 in
/-- X0_goesOn -/
theorem c_X0_goesOn_w (l : Launch) (D : va_G) (cI : ClassId) (V : (Nat → Nat) × (Nat → Nat)) (h0 : Nat) (b0 : Nat) (ln : Int32) (ca : Int32) (fa : Int32) (fp : Int32) (sz : Nat)   : Met l yX0_goesOn (.code yX0_goesOn cX0_goesOn 1 (some .boolean) :: tbW) ({ frames := 0, cells := 0, slots := 0, locals := 0 }) (va_Pc [.ref h0] (gP D cI V [(h0, .inr (0, [.ref b0, .int ln, .int ca, .int fa, .int fp]))] sz)) (va_Qi (fun (r : Int32) (u : Unit) => r = 0 ∨ r = 1) (fun u => gB D cI (va_A [(h0, .inr (0, [.ref b0, .int ln, .int ca, .int fa, .int fp]))] sz) [(h0, .inr (0, [.ref b0, .int ln, .int ca, .int fa, .int fp]))]) (va_A [(h0, .inr (0, [.ref b0, .int ln, .int ca, .int fa, .int fp]))] sz)) 0 0 (va_A [(h0, .inr (0, [.ref b0, .int ln, .int ca, .int fa, .int fp]))] sz) := by
  refine Met.ofW (cc := cX0_goesOn) (maxL := 1) (ret := (some .boolean)) (by decide) rfl ?_
  intro p e s m args below meth c s₁ B hml hv
  obtain ⟨rfl, hsz, hP, hK, hD0, hN, hV⟩ := hv
  have hx := B.exec
  have hb := B.bytes
  have hr := B.returns
  have hts := tb_hts (atoms_spec (ws := .code yX0_goesOn cX0_goesOn 1 (some .boolean) :: tbW) B.pre)
  have hown : s.vm.findClass RX0 = some m.cls := findClass_of_methodNamed B.named
  have hlocks := B.notSynchronized
  subst hsz
  have hD := hD0.self (sz := s.heap.size)
  generalize hAe : va_A [(h0, .inr (0, [.ref b0, .int ln, .int ca, .int fa, .int fp]))] s.heap.size = A at hD hV ⊢
  have hA : ∀ q : Nat, s.heap.size ≤ q → A q := fun q h => by rw [← hAe]; exact Or.inr h
  have hS : va_S A s.heap s.heap [] := va_S.rf
  have hP : va_P D classes [(h0, .inr (0, [.ref b0, .int ln, .int ca, .int fa, .int fp]))] s.heap := hP
  have hl := lv_entry ([.ref h0]) (n := 1) (Nat.le_of_ble_eq_true rfl)
  rw [lg_entry_eq]
  generalize (lg_sl ([.ref h0]) ++ List.replicate (1 - (lg_sl ([.ref h0])).length) Slot.unset).toArray = ls at hl ⊢
  have hl : lv_has ls 1 [(0, .ref h0)] := hl
  refine lv_aload_n hx hb dX0_goesOn_0 rfl (lv_at hl 0 rfl) ?_
  refine va_get (D := D) (ci := 0) (v := .int fa) (C := RX0) (T := TX0) (N := 5) hx hb hts inX0 hown hK hP 0 rfl rfl 3 (by decide) (hts (Cond.fieldLink "NestedTags$Cursor" 15 "NestedTags$Cursor" "fault" "I") kk_1_30) (fun _ h9 => h9) rfl dX0_goesOn_1 ?_
  refine lv_if_ne (tgt := 22) hx hb dX0_goesOn_4 (by decide) (fun c_4 => ?_) (fun c_4 => ?_)
  · skip
    refine lv_iconst (v := 0) hx hb dX0_goesOn_22 (by decide) ?_
    have hP9 := hP.sub (ws' := [(h0, .inr (0, [.ref b0, .int ln, .int ca, .int fa, .int fp]))]) [0] rfl
    have hD9 := hD.sub (ws' := [(h0, .inr (0, [.ref b0, .int ln, .int ca, .int fa, .int fp]))]) [0] (by decide) rfl
    exact W.zret (v := 0) (ty := .boolean) hx hb hr rfl (fun t ht hW => ⟨⟨0, (), rfl, Or.inl rfl, by rw [ht]; exact hP9, va_K.moved hW.alike hK, hD9⟩, hS.F ht⟩) hS.2.2 dX0_goesOn_23
  · skip
    refine lv_aload_n hx hb dX0_goesOn_7 rfl (lv_at hl 0 rfl) ?_
    refine va_get (D := D) (ci := 0) (v := .int ca) (C := RX0) (T := TX0) (N := 5) hx hb hts inX0 hown hK hP 0 rfl rfl 2 (by decide) (hts (Cond.fieldLink "NestedTags$Cursor" 25 "NestedTags$Cursor" "at" "I") kk_1_28) (fun _ h9 => h9) rfl dX0_goesOn_8 ?_
    refine lv_aload_n hx hb dX0_goesOn_11 rfl (lv_at hl 0 rfl) ?_
    refine va_get (D := D) (ci := 0) (v := .int ln) (C := RX0) (T := TX0) (N := 5) hx hb hts inX0 hown hK hP 0 rfl rfl 1 (by decide) (hts (Cond.fieldLink "NestedTags$Cursor" 22 "NestedTags$Cursor" "length" "I") kk_1_26) (fun _ h9 => h9) rfl dX0_goesOn_12 ?_
    refine lv_icmp_ge (tgt := 22) hx hb dX0_goesOn_15 (by decide) (fun c_15 => ?_) (fun c_15 => ?_)
    · skip
      refine lv_iconst (v := 0) hx hb dX0_goesOn_22 (by decide) ?_
      have hP9 := hP.sub (ws' := [(h0, .inr (0, [.ref b0, .int ln, .int ca, .int fa, .int fp]))]) [0] rfl
      have hD9 := hD.sub (ws' := [(h0, .inr (0, [.ref b0, .int ln, .int ca, .int fa, .int fp]))]) [0] (by decide) rfl
      exact W.zret (v := 0) (ty := .boolean) hx hb hr rfl (fun t ht hW => ⟨⟨0, (), rfl, Or.inl rfl, by rw [ht]; exact hP9, va_K.moved hW.alike hK, hD9⟩, hS.F ht⟩) hS.2.2 dX0_goesOn_23
    · skip
      refine lv_iconst (v := 1) hx hb dX0_goesOn_18 (by decide) ?_
      refine lv_goto (tgt := 23) hx hb dX0_goesOn_19 (by decide) ?_
      have hP9 := hP.sub (ws' := [(h0, .inr (0, [.ref b0, .int ln, .int ca, .int fa, .int fp]))]) [0] rfl
      have hD9 := hD.sub (ws' := [(h0, .inr (0, [.ref b0, .int ln, .int ca, .int fa, .int fp]))]) [0] (by decide) rfl
      exact W.zret (v := 1) (ty := .boolean) hx hb hr rfl (fun t ht hW => ⟨⟨1, (), rfl, Or.inr rfl, by rw [ht]; exact hP9, va_K.moved hW.alike hK, hD9⟩, hS.F ht⟩) hS.2.2 dX0_goesOn_23

set_option maxHeartbeats 4000000 in
set_option maxRecDepth 100000 in
/-- X0_here -/
theorem c_X0_here (l : Launch) (D : va_G) (cI : ClassId) (V : (Nat → Nat) × (Nat → Nat)) (h0 : Nat) (b0 : Nat) (ln : Int32) (ca : Int32) (fa : Int32) (fp : Int32) (g : Nat → Int32) (sz : Nat)   : Met l yX0_here (.code yX0_here cX0_here 1 (some .int) :: tbW) ({ frames := 1, cells := 0, slots := 0, locals := 21 }) (va_Pc [.ref h0] (gP D cI V [(h0, .inr (0, [.ref b0, .int ln, .int ca, .int fa, .int fp])), (b0, .inl (cI, 500, .inl g))] sz)) (va_Qi (fun (r : Int32) (u : Unit) => True) (fun u => gB D cI (va_A [(h0, .inr (0, [.ref b0, .int ln, .int ca, .int fa, .int fp])), (b0, .inl (cI, 500, .inl g))] sz) [(h0, .inr (0, [.ref b0, .int ln, .int ca, .int fa, .int fp])), (b0, .inl (cI, 500, .inl g))]) (va_A [(h0, .inr (0, [.ref b0, .int ln, .int ca, .int fa, .int fp])), (b0, .inl (cI, 500, .inl g))] sz)) 0 0 (va_A [(h0, .inr (0, [.ref b0, .int ln, .int ca, .int fa, .int fp])), (b0, .inl (cI, 500, .inl g))] sz) := by
  refine Met.ofW (cc := cX0_here) (maxL := 1) (ret := (some .int)) (by decide) rfl ?_
  intro p e s m args below meth c s₁ B hml hv
  obtain ⟨rfl, hsz, hP, hK, hD0, hN, hV⟩ := hv
  have hx := B.exec
  have hb := B.bytes
  have hr := B.returns
  have hts := tb_hts (atoms_spec (ws := .code yX0_here cX0_here 1 (some .int) :: tbW) B.pre)
  have hown : s.vm.findClass RX0 = some m.cls := findClass_of_methodNamed B.named
  have hlocks := B.notSynchronized
  subst hsz
  have hD := hD0.self (sz := s.heap.size)
  generalize hAe : va_A [(h0, .inr (0, [.ref b0, .int ln, .int ca, .int fa, .int fp])), (b0, .inl (cI, 500, .inl g))] s.heap.size = A at hD hV ⊢
  have hA : ∀ q : Nat, s.heap.size ≤ q → A q := fun q h => by rw [← hAe]; exact Or.inr h
  have hS : va_S A s.heap s.heap [] := va_S.rf
  have hP : va_P D classes [(h0, .inr (0, [.ref b0, .int ln, .int ca, .int fa, .int fp])), (b0, .inl (cI, 500, .inl g))] s.heap := hP
  have hl := lv_entry ([.ref h0]) (n := 1) (Nat.le_of_ble_eq_true rfl)
  rw [lg_entry_eq]
  generalize (lg_sl ([.ref h0]) ++ List.replicate (1 - (lg_sl ([.ref h0])).length) Slot.unset).toArray = ls at hl ⊢
  have hl : lv_has ls 1 [(0, .ref h0)] := hl
  refine lv_aload_n hx hb dX0_here_0 rfl (lv_at hl 0 rfl) ?_
  refine lv_aload_n hx hb dX0_here_1 rfl (lv_at hl 0 rfl) ?_
  refine va_get (D := D) (ci := 0) (v := .int ca) (C := RX0) (T := TX0) (N := 5) hx hb hts inX0 hown hK hP 0 rfl rfl 2 (by decide) (hts (Cond.fieldLink "NestedTags$Cursor" 25 "NestedTags$Cursor" "at" "I") kk_1_28) (fun _ h9 => h9) rfl dX0_here_2 ?_
  refine gcall_i (va_runV (As := [.int ca]) (rest := []) ⟨hx, hb, hml, hown, hts⟩ (c_X0_byteAt l D cI V h0 b0 ln ca fa fp g s.heap.size ca) (cwV 1 hts (tb_goodV kk_1_175 kk_1_176 kk_1_177 kk_1_2 kk_1_178) rfl rfl rfl (hdV_X0_byteAt) ⟨Nat.le_of_ble_eq_true rfl, Nat.le_of_ble_eq_true rfl⟩) (gpreV hK hN hV hS hA hP hD [0, 1] rfl rfl (by decide) (va_recv hK hP (ci := 0) (q0 := 0) rfl rfl)) rfl rfl hl.1 rfl (lv_room (Nat.le_of_ble_eq_true rfl)) dX0_here_5 ⟨Nat.le_of_ble_eq_true rfl, Nat.le_of_ble_eq_true rfl⟩) hP hD hS hA [0, 1] [] (wr := []) rfl rfl (by decide) (by decide) (fun r_1 u_2 H locs hw_5 hP hD hS => ?_)
  try dsimp only at hw_5
  have hP : va_P D classes [(h0, .inr (0, [.ref b0, .int ln, .int ca, .int fa, .int fp])), (b0, .inl (cI, 500, .inl g))] H := hP
  have hD : va_D A [(h0, .inr (0, [.ref b0, .int ln, .int ca, .int fa, .int fp])), (b0, .inl (cI, 500, .inl g))] := hD
  have hP9 := hP.sub (ws' := [(h0, .inr (0, [.ref b0, .int ln, .int ca, .int fa, .int fp])), (b0, .inl (cI, 500, .inl g))]) [0, 1] rfl
  have hD9 := hD.sub (ws' := [(h0, .inr (0, [.ref b0, .int ln, .int ca, .int fa, .int fp])), (b0, .inl (cI, 500, .inl g))]) [0, 1] (by decide) rfl
  exact W.iret (v := r_1) hx hb hr (fun t ht hW => ⟨⟨r_1, (), rfl, trivial, by rw [ht]; exact hP9, va_K.moved hW.alike hK, hD9⟩, hS.F ht⟩) hS.2.2 dX0_here_8

set_option maxHeartbeats 4000000 in
set_option maxRecDepth 100000 in
/-- X0_fail -/
theorem c_X0_fail_w (l : Launch) (D : va_G) (cI : ClassId) (V : (Nat → Nat) × (Nat → Nat)) (h0 : Nat) (b0 : Nat) (ln : Int32) (ca : Int32) (fa : Int32) (fp : Int32) (sz : Nat) (p1 : Int32) (p2 : Int32)  : Met l yX0_fail (.code yX0_fail cX0_fail 3 (some .boolean) :: tbW) ({ frames := 0, cells := 0, slots := 0, locals := 0 }) (va_Pc [.ref h0, .int p1, .int p2] (gP D cI V [(h0, .inr (0, [.ref b0, .int ln, .int ca, .int fa, .int fp]))] sz)) (va_Qi (fun (r : Int32) (u : Int32 × Int32) => r = 0 ∨ r = 1) (fun u => gB D cI (va_A [(h0, .inr (0, [.ref b0, .int ln, .int ca, .int fa, .int fp]))] sz) [(h0, .inr (0, [.ref b0, .int ln, .int ca, .int u.1, .int u.2]))]) (va_A [(h0, .inr (0, [.ref b0, .int ln, .int ca, .int fa, .int fp]))] sz)) 0 0 (va_A [(h0, .inr (0, [.ref b0, .int ln, .int ca, .int fa, .int fp]))] sz) := by
  refine Met.ofW (cc := cX0_fail) (maxL := 3) (ret := (some .boolean)) (by decide) rfl ?_
  intro p e s m args below meth c s₁ B hml hv
  obtain ⟨rfl, hsz, hP, hK, hD0, hN, hV⟩ := hv
  have hx := B.exec
  have hb := B.bytes
  have hr := B.returns
  have hts := tb_hts (atoms_spec (ws := .code yX0_fail cX0_fail 3 (some .boolean) :: tbW) B.pre)
  have hown : s.vm.findClass RX0 = some m.cls := findClass_of_methodNamed B.named
  have hlocks := B.notSynchronized
  subst hsz
  have hD := hD0.self (sz := s.heap.size)
  generalize hAe : va_A [(h0, .inr (0, [.ref b0, .int ln, .int ca, .int fa, .int fp]))] s.heap.size = A at hD hV ⊢
  have hA : ∀ q : Nat, s.heap.size ≤ q → A q := fun q h => by rw [← hAe]; exact Or.inr h
  have hS : va_S A s.heap s.heap [] := va_S.rf
  have hP : va_P D classes [(h0, .inr (0, [.ref b0, .int ln, .int ca, .int fa, .int fp]))] s.heap := hP
  have hl := lv_entry ([.ref h0, .int p1, .int p2]) (n := 3) (Nat.le_of_ble_eq_true rfl)
  rw [lg_entry_eq]
  generalize (lg_sl ([.ref h0, .int p1, .int p2]) ++ List.replicate (3 - (lg_sl ([.ref h0, .int p1, .int p2])).length) Slot.unset).toArray = ls at hl ⊢
  have hl : lv_has ls 3 [(0, .ref h0), (1, .int p1), (2, .int p2)] := hl
  refine lv_aload_n hx hb dX0_fail_0 rfl (lv_at hl 0 rfl) ?_
  refine va_get (D := D) (ci := 0) (v := .int fa) (C := RX0) (T := TX0) (N := 5) hx hb hts inX0 hown hK hP 0 rfl rfl 3 (by decide) (hts (Cond.fieldLink "NestedTags$Cursor" 15 "NestedTags$Cursor" "fault" "I") kk_1_30) (fun _ h9 => h9) rfl dX0_fail_1 ?_
  refine lv_if_ne (tgt := 17) hx hb dX0_fail_4 (by decide) (fun c_4 => ?_) (fun c_4 => ?_)
  · skip
    refine lv_iconst (v := 0) hx hb dX0_fail_17 (by decide) ?_
    have hP9 := hP.sub (ws' := [(h0, .inr (0, [.ref b0, .int ln, .int ca, .int fa, .int fp]))]) [0] rfl
    have hD9 := hD.sub (ws' := [(h0, .inr (0, [.ref b0, .int ln, .int ca, .int fa, .int fp]))]) [0] (by decide) rfl
    exact W.zret (v := 0) (ty := .boolean) hx hb hr rfl (fun t ht hW => ⟨⟨0, (fa, fp), rfl, Or.inl rfl, by rw [ht]; exact hP9, va_K.moved hW.alike hK, hD9⟩, hS.F ht⟩) hS.2.2 dX0_fail_18
  · skip
    refine lv_aload_n hx hb dX0_fail_7 rfl (lv_at hl 0 rfl) ?_
    refine lv_iload_n hx hb dX0_fail_8 rfl (lv_at hl 1 rfl) ?_
    refine va_put (D := D) (ci := 0) (v := .int p1) (ty := .int) (C := RX0) (T := TX0) (N := 5) hx hb hts inX0 tyX0 tyX0_ok nmX0 hown hK hP hD hS 0 rfl rfl 3 (by decide) (hts (Cond.fieldLink "NestedTags$Cursor" 15 "NestedTags$Cursor" "fault" "I") kk_1_30) (fun _ h9 => h9) rfl (tyX0_ok 3 (by decide)) rfl rfl (Nat.le_of_ble_eq_true rfl) dX0_fail_9 (fun H locs hP hD hS => ?_)
    have hP : va_P D classes [(h0, .inr (0, [.ref b0, .int ln, .int ca, .int p1, .int fp]))] H := hP
    have hD : va_D A [(h0, .inr (0, [.ref b0, .int ln, .int ca, .int p1, .int fp]))] := hD
    refine lv_aload_n hx hb dX0_fail_12 rfl (lv_at hl 0 rfl) ?_
    refine lv_iload_n hx hb dX0_fail_13 rfl (lv_at hl 2 rfl) ?_
    refine va_put (D := D) (ci := 0) (v := .int p2) (ty := .int) (C := RX0) (T := TX0) (N := 5) hx hb hts inX0 tyX0 tyX0_ok nmX0 hown hK hP hD hS 0 rfl rfl 4 (by decide) (hts (Cond.fieldLink "NestedTags$Cursor" 19 "NestedTags$Cursor" "faultPlace" "I") kk_1_32) (fun _ h9 => h9) rfl (tyX0_ok 4 (by decide)) rfl rfl (Nat.le_of_ble_eq_true rfl) dX0_fail_14 (fun H locs hP hD hS => ?_)
    have hP : va_P D classes [(h0, .inr (0, [.ref b0, .int ln, .int ca, .int p1, .int p2]))] H := hP
    have hD : va_D A [(h0, .inr (0, [.ref b0, .int ln, .int ca, .int p1, .int p2]))] := hD
    refine lv_iconst (v := 0) hx hb dX0_fail_17 (by decide) ?_
    have hP9 := hP.sub (ws' := [(h0, .inr (0, [.ref b0, .int ln, .int ca, .int p1, .int p2]))]) [0] rfl
    have hD9 := hD.sub (ws' := [(h0, .inr (0, [.ref b0, .int ln, .int ca, .int p1, .int p2]))]) [0] (by decide) rfl
    exact W.zret (v := 0) (ty := .boolean) hx hb hr rfl (fun t ht hW => ⟨⟨0, (p1, p2), rfl, Or.inl rfl, by rw [ht]; exact hP9, va_K.moved hW.alike hK, hD9⟩, hS.F ht⟩) hS.2.2 dX0_fail_18

set_option maxHeartbeats 4000000 in
set_option maxRecDepth 100000 in
/-- X0_failHere -/
theorem c_X0_failHere_w (l : Launch) (D : va_G) (cI : ClassId) (V : (Nat → Nat) × (Nat → Nat)) (h0 : Nat) (b0 : Nat) (ln : Int32) (ca : Int32) (fa : Int32) (fp : Int32) (sz : Nat)   : Met l yX0_failHere (.code yX0_failHere cX0_failHere 1 (some .boolean) :: tbW) ({ frames := 1, cells := 0, slots := 0, locals := 22 }) (va_Pc [.ref h0] (gP D cI V [(h0, .inr (0, [.ref b0, .int ln, .int ca, .int fa, .int fp]))] sz)) (va_Qi (fun (r : Int32) (u : Int32 × Int32) => r = 0 ∨ r = 1) (fun u => gB D cI (va_A [(h0, .inr (0, [.ref b0, .int ln, .int ca, .int fa, .int fp]))] sz) [(h0, .inr (0, [.ref b0, .int ln, .int ca, .int u.1, .int u.2]))]) (va_A [(h0, .inr (0, [.ref b0, .int ln, .int ca, .int fa, .int fp]))] sz)) 0 0 (va_A [(h0, .inr (0, [.ref b0, .int ln, .int ca, .int fa, .int fp]))] sz) := by
  refine Met.ofW (cc := cX0_failHere) (maxL := 1) (ret := (some .boolean)) (by decide) rfl ?_
  intro p e s m args below meth c s₁ B hml hv
  obtain ⟨rfl, hsz, hP, hK, hD0, hN, hV⟩ := hv
  have hx := B.exec
  have hb := B.bytes
  have hr := B.returns
  have hts := tb_hts (atoms_spec (ws := .code yX0_failHere cX0_failHere 1 (some .boolean) :: tbW) B.pre)
  have hown : s.vm.findClass RX0 = some m.cls := findClass_of_methodNamed B.named
  have hlocks := B.notSynchronized
  subst hsz
  have hD := hD0.self (sz := s.heap.size)
  generalize hAe : va_A [(h0, .inr (0, [.ref b0, .int ln, .int ca, .int fa, .int fp]))] s.heap.size = A at hD hV ⊢
  have hA : ∀ q : Nat, s.heap.size ≤ q → A q := fun q h => by rw [← hAe]; exact Or.inr h
  have hS : va_S A s.heap s.heap [] := va_S.rf
  have hP : va_P D classes [(h0, .inr (0, [.ref b0, .int ln, .int ca, .int fa, .int fp]))] s.heap := hP
  have hl := lv_entry ([.ref h0]) (n := 1) (Nat.le_of_ble_eq_true rfl)
  rw [lg_entry_eq]
  generalize (lg_sl ([.ref h0]) ++ List.replicate (1 - (lg_sl ([.ref h0])).length) Slot.unset).toArray = ls at hl ⊢
  have hl : lv_has ls 1 [(0, .ref h0)] := hl
  refine lv_aload_n hx hb dX0_failHere_0 rfl (lv_at hl 0 rfl) ?_
  refine lv_iconst (v := 2) hx hb dX0_failHere_1 (by decide) ?_
  refine lv_aload_n hx hb dX0_failHere_2 rfl (lv_at hl 0 rfl) ?_
  refine va_get (D := D) (ci := 0) (v := .int ca) (C := RX0) (T := TX0) (N := 5) hx hb hts inX0 hown hK hP 0 rfl rfl 2 (by decide) (hts (Cond.fieldLink "NestedTags$Cursor" 25 "NestedTags$Cursor" "at" "I") kk_1_28) (fun _ h9 => h9) rfl dX0_failHere_3 ?_
  refine gcall_i (va_runV (As := [.int 2, .int ca]) (rest := []) ⟨hx, hb, hml, hown, hts⟩ (c_X0_fail_w l D cI V h0 b0 ln ca fa fp s.heap.size 2 ca) (cwV 2 hts (tb_goodV kk_2_13 kk_1_188 kk_1_189 kk_1_2 kk_1_190) rfl rfl rfl (hdV_X0_fail) ⟨Nat.le_of_ble_eq_true rfl, Nat.le_of_ble_eq_true rfl⟩) (gpreV hK hN hV hS hA hP hD [0] rfl rfl (by decide) (va_recv hK hP (ci := 0) (q0 := 0) rfl rfl)) rfl rfl hl.1 rfl (lv_room (Nat.le_of_ble_eq_true rfl)) dX0_failHere_6 ⟨Nat.le_of_ble_eq_true rfl, Nat.le_of_ble_eq_true rfl⟩) hP hD hS hA [0] [] (wr := []) rfl rfl (by decide) (by decide) (fun r_1 u_2 H locs hw_6 hP hD hS => ?_)
  try dsimp only at hw_6
  have hP : va_P D classes [(h0, .inr (0, [.ref b0, .int ln, .int ca, .int u_2.1, .int u_2.2]))] H := hP
  have hD : va_D A [(h0, .inr (0, [.ref b0, .int ln, .int ca, .int u_2.1, .int u_2.2]))] := hD
  have hP9 := hP.sub (ws' := [(h0, .inr (0, [.ref b0, .int ln, .int ca, .int u_2.1, .int u_2.2]))]) [0] rfl
  have hD9 := hD.sub (ws' := [(h0, .inr (0, [.ref b0, .int ln, .int ca, .int u_2.1, .int u_2.2]))]) [0] (by decide) rfl
  exact W.zret (v := r_1) (ty := .boolean) hx hb hr (nb01 hw_6) (fun t ht hW => ⟨⟨r_1, (u_2.1, u_2.2), rfl, hw_6, by rw [ht]; exact hP9, va_K.moved hW.alike hK, hD9⟩, hS.F ht⟩) hS.2.2 dX0_failHere_9

set_option maxHeartbeats 4000000 in
set_option maxRecDepth 100000 in
/-- X0_standsAt -/
theorem c_X0_standsAt (l : Launch) (D : va_G) (cI : ClassId) (V : (Nat → Nat) × (Nat → Nat)) (h0 : Nat) (b0 : Nat) (ln : Int32) (ca : Int32) (fa : Int32) (fp : Int32) (g : Nat → Int32) (wi : Nat) (sz : Nat) (p1 : Int32) (hwi : wi < 19) : Met l yX0_standsAt (.code yX0_standsAt cX0_standsAt 4 (some .boolean) :: tbW) ({ frames := 4, cells := 0, slots := 0, locals := 85 }) (va_Pc [.ref h0, .ref (V.1 wi), .int p1] (gP D cI V [(h0, .inr (0, [.ref b0, .int ln, .int ca, .int fa, .int fp])), (b0, .inl (cI, 500, .inl g))] sz)) (va_Qi (fun (r : Int32) (u : Unit) => r = 0 ∨ r = 1) (fun u => gB D cI (va_A [(h0, .inr (0, [.ref b0, .int ln, .int ca, .int fa, .int fp])), (b0, .inl (cI, 500, .inl g))] sz) [(h0, .inr (0, [.ref b0, .int ln, .int ca, .int fa, .int fp])), (b0, .inl (cI, 500, .inl g))]) (va_A [(h0, .inr (0, [.ref b0, .int ln, .int ca, .int fa, .int fp])), (b0, .inl (cI, 500, .inl g))] sz)) 0 0 (va_A [(h0, .inr (0, [.ref b0, .int ln, .int ca, .int fa, .int fp])), (b0, .inl (cI, 500, .inl g))] sz) := by
  refine Met.ofW (cc := cX0_standsAt) (maxL := 4) (ret := (some .boolean)) (by decide) rfl ?_
  intro p e s m args below meth c s₁ B hml hv
  obtain ⟨rfl, hsz, hP, hK, hD0, hN, hV⟩ := hv
  have hx := B.exec
  have hb := B.bytes
  have hr := B.returns
  have hts := tb_hts (atoms_spec (ws := .code yX0_standsAt cX0_standsAt 4 (some .boolean) :: tbW) B.pre)
  have hown : s.vm.findClass RX0 = some m.cls := findClass_of_methodNamed B.named
  have hlocks := B.notSynchronized
  subst hsz
  have hD := hD0.self (sz := s.heap.size)
  generalize hAe : va_A [(h0, .inr (0, [.ref b0, .int ln, .int ca, .int fa, .int fp])), (b0, .inl (cI, 500, .inl g))] s.heap.size = A at hD hV ⊢
  have hA : ∀ q : Nat, s.heap.size ≤ q → A q := fun q h => by rw [← hAe]; exact Or.inr h
  have hS : va_S A s.heap s.heap [] := va_S.rf
  have hP : va_P D classes [(h0, .inr (0, [.ref b0, .int ln, .int ca, .int fa, .int fp])), (b0, .inl (cI, 500, .inl g))] s.heap := hP
  have hl := lv_entry ([.ref h0, .ref (V.1 wi), .int p1]) (n := 4) (Nat.le_of_ble_eq_true rfl)
  rw [lg_entry_eq]
  generalize (lg_sl ([.ref h0, .ref (V.1 wi), .int p1]) ++ List.replicate (4 - (lg_sl ([.ref h0, .ref (V.1 wi), .int p1])).length) Slot.unset).toArray = ls at hl ⊢
  have hl : lv_has ls 4 [(0, .ref h0), (1, .ref (V.1 wi)), (2, .int p1)] := hl
  generalize hQ : MQ below (va_Qi (fun (r : Int32) (u : Unit) => r = 0 ∨ r = 1) (fun u => gB D cI A [(h0, .inr (0, [.ref b0, .int ln, .int ca, .int fa, .int fp])), (b0, .inl (cI, 500, .inl g))]) A) (([.ref h0, .ref (V.1 wi), .int p1] : List Value).toArray) s 0 0 A = Q
  refine lv_iconst (v := 0) hx hb dX0_standsAt_0 (by decide) ?_
  refine lv_istore_n (lv' := [(3, .int 0), (0, .ref h0), (1, .ref (V.1 wi)), (2, .int p1)]) hx hb dX0_standsAt_1 rfl hl (by decide) rfl (fun ls hl => ?_)
  have loop_2 : ∀ (n : Nat) (i : Nat) (H : Heap) (locs : List Loc), lenS.getD wi 0 - i < n → i ≤ lenS.getD wi 0 → va_P D classes [(h0, .inr (0, [.ref b0, .int ln, .int ca, .int fa, .int fp])), (b0, .inl (cI, 500, .inl g))] H → va_D A [(h0, .inr (0, [.ref b0, .int ln, .int ca, .int fa, .int fp])), (b0, .inl (cI, 500, .inl g))] → va_S A s.heap H locs → ∀ (ls : Array Slot), lv_has ls 4 [(3, .int (nI i)), (0, .ref h0), (1, .ref (V.1 wi)), (2, .int p1)] → W p l e (headSpec (.code yX0_standsAt cX0_standsAt 4 (some .boolean) :: tbW) { frames := 4, cells := 0, slots := 0, locals := 85 }).room s m (([.ref h0, .ref (V.1 wi), .int p1] : List Value).toArray) below meth c H locs 0 0 Q (F0 m 2 ls []) := by
    intro n
    induction n with
    | zero =>
      intro i H locs hm
      exact absurd hm (Nat.not_lt_zero _)
    | succ n ih_2 =>
      intro i H locs hm_2 hi hP hD hS ls hl
      refine lv_iload_n hx hb dX0_standsAt_2 rfl (lv_at hl 0 rfl) ?_
      refine lv_aload_n hx hb dX0_standsAt_3 rfl (lv_at hl 2 rfl) ?_
      refine gcall_i (va_runV (As := []) (rest := [.int (nI i)]) ⟨hx, hb, hml, hown, hts⟩ (c_J0_length_8abf5 l D cI V wi H.size  hwi) (cwV 0 hts (tb_goodV kk_1_200 kk_1_201 kk_1_202 kk_1_7 kk_1_203) rfl rfl rfl (hdV_J0_length_8abf5) ⟨Nat.le_of_ble_eq_true rfl, Nat.le_of_ble_eq_true rfl⟩) (gpreV hK hN hV hS hA hP hD [] rfl rfl (by decide) (vk_recv hV.1 hwi hS)) rfl rfl hl.1 rfl (lv_room (Nat.le_of_ble_eq_true rfl)) dX0_standsAt_4 ⟨Nat.le_of_ble_eq_true rfl, Nat.le_of_ble_eq_true rfl⟩) hP hD hS hA [] [0, 1] (wr := [(h0, .inr (0, [.ref b0, .int ln, .int ca, .int fa, .int fp])), (b0, .inl (cI, 500, .inl g))]) rfl rfl (by decide) (by decide) (fun r_1 u_2 H locs hw_4 hP hD hS => ?_)
      try dsimp only at hw_4
      have hP : va_P D classes [(h0, .inr (0, [.ref b0, .int ln, .int ca, .int fa, .int fp])), (b0, .inl (cI, 500, .inl g))] H := hP
      have hD : va_D A [(h0, .inr (0, [.ref b0, .int ln, .int ca, .int fa, .int fp])), (b0, .inl (cI, 500, .inl g))] := hD
      refine lv_icmp_ge (tgt := 33) hx hb dX0_standsAt_7 (by decide) (fun c_7 => ?_) (fun c_7 => ?_)
      · skip
        refine lv_iconst (v := 1) hx hb dX0_standsAt_33 (by decide) ?_
        have hP9 := hP.sub (ws' := [(h0, .inr (0, [.ref b0, .int ln, .int ca, .int fa, .int fp])), (b0, .inl (cI, 500, .inl g))]) [0, 1] rfl
        have hD9 := hD.sub (ws' := [(h0, .inr (0, [.ref b0, .int ln, .int ca, .int fa, .int fp])), (b0, .inl (cI, 500, .inl g))]) [0, 1] (by decide) rfl
        rw [← hQ]
        exact W.zret (v := 1) (ty := .boolean) hx hb hr rfl (fun t ht hW => ⟨⟨1, (), rfl, Or.inr rfl, by rw [ht]; exact hP9, va_K.moved hW.alike hK, hD9⟩, hS.F ht⟩) hS.2.2 dX0_standsAt_34
      · skip
        refine lv_aload_n hx hb dX0_standsAt_10 rfl (lv_at hl 1 rfl) ?_
        refine lv_iload_n hx hb dX0_standsAt_11 rfl (lv_at hl 3 rfl) ?_
        refine lv_iload_n hx hb dX0_standsAt_12 rfl (lv_at hl 0 rfl) ?_
        refine lv_iadd hx hb dX0_standsAt_13 ?_
        refine lv_topi (fun x_3 ex_3 => ?_)
        refine gcall_i (va_runV (As := [.int x_3]) (rest := []) ⟨hx, hb, hml, hown, hts⟩ (c_X0_byteAt l D cI V h0 b0 ln ca fa fp g H.size x_3) (cwV 1 hts (tb_goodV kk_1_175 kk_1_176 kk_1_177 kk_1_2 kk_1_178) rfl rfl rfl (hdV_X0_byteAt) ⟨Nat.le_of_ble_eq_true rfl, Nat.le_of_ble_eq_true rfl⟩) (gpreV hK hN hV hS hA hP hD [0, 1] rfl rfl (by decide) (va_recv hK hP (ci := 0) (q0 := 0) rfl rfl)) rfl rfl hl.1 rfl (lv_room (Nat.le_of_ble_eq_true rfl)) dX0_standsAt_14 ⟨Nat.le_of_ble_eq_true rfl, Nat.le_of_ble_eq_true rfl⟩) hP hD hS hA [0, 1] [] (wr := []) rfl rfl (by decide) (by decide) (fun r_4 u_5 H locs hw_14 hP hD hS => ?_)
        try dsimp only at hw_14
        have hP : va_P D classes [(h0, .inr (0, [.ref b0, .int ln, .int ca, .int fa, .int fp])), (b0, .inl (cI, 500, .inl g))] H := hP
        have hD : va_D A [(h0, .inr (0, [.ref b0, .int ln, .int ca, .int fa, .int fp])), (b0, .inl (cI, 500, .inl g))] := hD
        refine lv_aload_n hx hb dX0_standsAt_17 rfl (lv_at hl 2 rfl) ?_
        refine lv_iload_n hx hb dX0_standsAt_18 rfl (lv_at hl 0 rfl) ?_
        refine gcall_i (va_runV (As := [.int (nI i)]) (rest := [.int r_4]) ⟨hx, hb, hml, hown, hts⟩ (c_J0_charAt_5068e l D cI V wi H.size (nI i) hwi (nI_pos (by have := lenS_lt wi hwi; omega)) (by rw [← hw_4]; exact Int32.not_le.mp c_7)) (cwV 1 hts (tb_goodV kk_1_211 kk_1_212 kk_1_213 kk_1_7 kk_1_214) rfl rfl rfl (hdV_J0_charAt_5068e) ⟨Nat.le_of_ble_eq_true rfl, Nat.le_of_ble_eq_true rfl⟩) (gpreV hK hN hV hS hA hP hD [] rfl rfl (by decide) (vk_recv hV.1 hwi hS)) rfl rfl hl.1 rfl (lv_room (Nat.le_of_ble_eq_true rfl)) dX0_standsAt_19 ⟨Nat.le_of_ble_eq_true rfl, Nat.le_of_ble_eq_true rfl⟩) hP hD hS hA [] [0, 1] (wr := [(h0, .inr (0, [.ref b0, .int ln, .int ca, .int fa, .int fp])), (b0, .inl (cI, 500, .inl g))]) rfl rfl (by decide) (by decide) (fun r_6 u_7 H locs hw_19 hP hD hS => ?_)
        try dsimp only at hw_19
        have hP : va_P D classes [(h0, .inr (0, [.ref b0, .int ln, .int ca, .int fa, .int fp])), (b0, .inl (cI, 500, .inl g))] H := hP
        have hD : va_D A [(h0, .inr (0, [.ref b0, .int ln, .int ca, .int fa, .int fp])), (b0, .inl (cI, 500, .inl g))] := hD
        refine lv_icmp_eq (tgt := 27) hx hb dX0_standsAt_22 (by decide) (fun c_22 => ?_) (fun c_22 => ?_)
        · skip
          obtain ⟨x_8, ex_8⟩ : ∃ y : Int32, y = (nI i) + 1 := ⟨_, rfl⟩
          refine lv_iinc (v := x_8) (lv' := [(3, .int x_8), (0, .ref h0), (1, .ref (V.1 wi)), (2, .int p1)]) hx hb dX0_standsAt_27 hl (k := 0) rfl (by rw [ex_8]; rfl) (by decide) rfl (fun ls hl => ?_)
          refine lv_goto (tgt := 2) hx hb dX0_standsAt_30 (by decide) ?_
          have ei : x_8 = nI (i + 1) := by rw [ex_8]; exact nI_1 i
          rw [ei] at hl
          have hlt : i < lenS.getD wi 0 := lt_of_c hwi hi hw_4 c_7
          exact ih_2 (i + 1) _ _ (by omega) (by omega) (hP.sub [0, 1] rfl) (hD.sub [0, 1] (by decide) rfl) hS ls (lv_sub hl [0, 1, 2, 3] rfl)
        · skip
          refine lv_iconst (v := 0) hx hb dX0_standsAt_25 (by decide) ?_
          have hP9 := hP.sub (ws' := [(h0, .inr (0, [.ref b0, .int ln, .int ca, .int fa, .int fp])), (b0, .inl (cI, 500, .inl g))]) [0, 1] rfl
          have hD9 := hD.sub (ws' := [(h0, .inr (0, [.ref b0, .int ln, .int ca, .int fa, .int fp])), (b0, .inl (cI, 500, .inl g))]) [0, 1] (by decide) rfl
          rw [← hQ]
          exact W.zret (v := 0) (ty := .boolean) hx hb hr rfl (fun t ht hW => ⟨⟨0, (), rfl, Or.inl rfl, by rw [ht]; exact hP9, va_K.moved hW.alike hK, hD9⟩, hS.F ht⟩) hS.2.2 dX0_standsAt_26
  exact loop_2 _ 0 _ _ (Nat.lt_succ_self _) (Nat.zero_le _) hP hD hS ls hl

set_option maxHeartbeats 4000000 in
set_option maxRecDepth 100000 in
/-- X0_isWord -/
theorem c_X0_isWord (l : Launch) (D : va_G) (cI : ClassId) (V : (Nat → Nat) × (Nat → Nat)) (h0 : Nat) (b0 : Nat) (ln : Int32) (ca : Int32) (fa : Int32) (fp : Int32) (g : Nat → Int32) (wi : Nat) (sz : Nat) (p1 : Int32) (p2 : Int32) (hwi : wi < 19) : Met l yX0_isWord (.code yX0_isWord cX0_isWord 4 (some .boolean) :: tbW) ({ frames := 5, cells := 0, slots := 0, locals := 108 }) (va_Pc [.ref h0, .ref (V.1 wi), .int p1, .int p2] (gP D cI V [(h0, .inr (0, [.ref b0, .int ln, .int ca, .int fa, .int fp])), (b0, .inl (cI, 500, .inl g))] sz)) (va_Qi (fun (r : Int32) (u : Unit) => r = 0 ∨ r = 1) (fun u => gB D cI (va_A [(h0, .inr (0, [.ref b0, .int ln, .int ca, .int fa, .int fp])), (b0, .inl (cI, 500, .inl g))] sz) [(h0, .inr (0, [.ref b0, .int ln, .int ca, .int fa, .int fp])), (b0, .inl (cI, 500, .inl g))]) (va_A [(h0, .inr (0, [.ref b0, .int ln, .int ca, .int fa, .int fp])), (b0, .inl (cI, 500, .inl g))] sz)) 0 0 (va_A [(h0, .inr (0, [.ref b0, .int ln, .int ca, .int fa, .int fp])), (b0, .inl (cI, 500, .inl g))] sz) := by
  refine Met.ofW (cc := cX0_isWord) (maxL := 4) (ret := (some .boolean)) (by decide) rfl ?_
  intro p e s m args below meth c s₁ B hml hv
  obtain ⟨rfl, hsz, hP, hK, hD0, hN, hV⟩ := hv
  have hx := B.exec
  have hb := B.bytes
  have hr := B.returns
  have hts := tb_hts (atoms_spec (ws := .code yX0_isWord cX0_isWord 4 (some .boolean) :: tbW) B.pre)
  have hown : s.vm.findClass RX0 = some m.cls := findClass_of_methodNamed B.named
  have hlocks := B.notSynchronized
  subst hsz
  have hD := hD0.self (sz := s.heap.size)
  generalize hAe : va_A [(h0, .inr (0, [.ref b0, .int ln, .int ca, .int fa, .int fp])), (b0, .inl (cI, 500, .inl g))] s.heap.size = A at hD hV ⊢
  have hA : ∀ q : Nat, s.heap.size ≤ q → A q := fun q h => by rw [← hAe]; exact Or.inr h
  have hS : va_S A s.heap s.heap [] := va_S.rf
  have hP : va_P D classes [(h0, .inr (0, [.ref b0, .int ln, .int ca, .int fa, .int fp])), (b0, .inl (cI, 500, .inl g))] s.heap := hP
  have hl := lv_entry ([.ref h0, .ref (V.1 wi), .int p1, .int p2]) (n := 4) (Nat.le_of_ble_eq_true rfl)
  rw [lg_entry_eq]
  generalize (lg_sl ([.ref h0, .ref (V.1 wi), .int p1, .int p2]) ++ List.replicate (4 - (lg_sl ([.ref h0, .ref (V.1 wi), .int p1, .int p2])).length) Slot.unset).toArray = ls at hl ⊢
  have hl : lv_has ls 4 [(0, .ref h0), (1, .ref (V.1 wi)), (2, .int p1), (3, .int p2)] := hl
  refine lv_iload_n hx hb dX0_isWord_0 rfl (lv_at hl 3 rfl) ?_
  refine lv_iload_n hx hb dX0_isWord_1 rfl (lv_at hl 2 rfl) ?_
  refine lv_isub hx hb dX0_isWord_2 ?_
  refine lv_topi (fun x_1 ex_1 => ?_)
  refine lv_aload_n hx hb dX0_isWord_3 rfl (lv_at hl 1 rfl) ?_
  refine gcall_i (va_runV (As := []) (rest := [.int x_1]) ⟨hx, hb, hml, hown, hts⟩ (c_J0_length_8abf5 l D cI V wi s.heap.size  hwi) (cwV 0 hts (tb_goodV kk_1_200 kk_1_201 kk_1_202 kk_1_7 kk_1_203) rfl rfl rfl (hdV_J0_length_8abf5) ⟨Nat.le_of_ble_eq_true rfl, Nat.le_of_ble_eq_true rfl⟩) (gpreV hK hN hV hS hA hP hD [] rfl rfl (by decide) (vk_recv hV.1 hwi hS)) rfl rfl hl.1 rfl (lv_room (Nat.le_of_ble_eq_true rfl)) dX0_isWord_4 ⟨Nat.le_of_ble_eq_true rfl, Nat.le_of_ble_eq_true rfl⟩) hP hD hS hA [] [0, 1] (wr := [(h0, .inr (0, [.ref b0, .int ln, .int ca, .int fa, .int fp])), (b0, .inl (cI, 500, .inl g))]) rfl rfl (by decide) (by decide) (fun r_2 u_3 H locs hw_4 hP hD hS => ?_)
  try dsimp only at hw_4
  have hP : va_P D classes [(h0, .inr (0, [.ref b0, .int ln, .int ca, .int fa, .int fp])), (b0, .inl (cI, 500, .inl g))] H := hP
  have hD : va_D A [(h0, .inr (0, [.ref b0, .int ln, .int ca, .int fa, .int fp])), (b0, .inl (cI, 500, .inl g))] := hD
  refine lv_icmp_ne (tgt := 23) hx hb dX0_isWord_7 (by decide) (fun c_7 => ?_) (fun c_7 => ?_)
  · skip
    refine lv_iconst (v := 0) hx hb dX0_isWord_23 (by decide) ?_
    have hP9 := hP.sub (ws' := [(h0, .inr (0, [.ref b0, .int ln, .int ca, .int fa, .int fp])), (b0, .inl (cI, 500, .inl g))]) [0, 1] rfl
    have hD9 := hD.sub (ws' := [(h0, .inr (0, [.ref b0, .int ln, .int ca, .int fa, .int fp])), (b0, .inl (cI, 500, .inl g))]) [0, 1] (by decide) rfl
    exact W.zret (v := 0) (ty := .boolean) hx hb hr rfl (fun t ht hW => ⟨⟨0, (), rfl, Or.inl rfl, by rw [ht]; exact hP9, va_K.moved hW.alike hK, hD9⟩, hS.F ht⟩) hS.2.2 dX0_isWord_24
  · skip
    refine lv_aload_n hx hb dX0_isWord_10 rfl (lv_at hl 0 rfl) ?_
    refine lv_aload_n hx hb dX0_isWord_11 rfl (lv_at hl 1 rfl) ?_
    refine lv_iload_n hx hb dX0_isWord_12 rfl (lv_at hl 2 rfl) ?_
    refine gcall_i (va_runV (As := [.ref (V.1 wi), .int p1]) (rest := []) ⟨hx, hb, hml, hown, hts⟩ (c_X0_standsAt l D cI V h0 b0 ln ca fa fp g wi H.size p1 hwi) (cwV 2 hts (tb_goodV kk_2_56 kk_2_57 kk_2_58 kk_1_2 kk_2_59) rfl rfl rfl (hdV_X0_standsAt) ⟨Nat.le_of_ble_eq_true rfl, Nat.le_of_ble_eq_true rfl⟩) (gpreV hK hN hV hS hA hP hD [0, 1] rfl rfl (by decide) (va_recv hK hP (ci := 0) (q0 := 0) rfl rfl)) rfl rfl hl.1 rfl (lv_room (Nat.le_of_ble_eq_true rfl)) dX0_isWord_13 ⟨Nat.le_of_ble_eq_true rfl, Nat.le_of_ble_eq_true rfl⟩) hP hD hS hA [0, 1] [] (wr := []) rfl rfl (by decide) (by decide) (fun r_4 u_5 H locs hw_13 hP hD hS => ?_)
    try dsimp only at hw_13
    have hP : va_P D classes [(h0, .inr (0, [.ref b0, .int ln, .int ca, .int fa, .int fp])), (b0, .inl (cI, 500, .inl g))] H := hP
    have hD : va_D A [(h0, .inr (0, [.ref b0, .int ln, .int ca, .int fa, .int fp])), (b0, .inl (cI, 500, .inl g))] := hD
    refine lv_if_eq (tgt := 23) hx hb dX0_isWord_16 (by decide) (fun c_16 => ?_) (fun c_16 => ?_)
    · skip
      refine lv_iconst (v := 0) hx hb dX0_isWord_23 (by decide) ?_
      have hP9 := hP.sub (ws' := [(h0, .inr (0, [.ref b0, .int ln, .int ca, .int fa, .int fp])), (b0, .inl (cI, 500, .inl g))]) [0, 1] rfl
      have hD9 := hD.sub (ws' := [(h0, .inr (0, [.ref b0, .int ln, .int ca, .int fa, .int fp])), (b0, .inl (cI, 500, .inl g))]) [0, 1] (by decide) rfl
      exact W.zret (v := 0) (ty := .boolean) hx hb hr rfl (fun t ht hW => ⟨⟨0, (), rfl, Or.inl rfl, by rw [ht]; exact hP9, va_K.moved hW.alike hK, hD9⟩, hS.F ht⟩) hS.2.2 dX0_isWord_24
    · skip
      refine lv_iconst (v := 1) hx hb dX0_isWord_19 (by decide) ?_
      refine lv_goto (tgt := 24) hx hb dX0_isWord_20 (by decide) ?_
      have hP9 := hP.sub (ws' := [(h0, .inr (0, [.ref b0, .int ln, .int ca, .int fa, .int fp])), (b0, .inl (cI, 500, .inl g))]) [0, 1] rfl
      have hD9 := hD.sub (ws' := [(h0, .inr (0, [.ref b0, .int ln, .int ca, .int fa, .int fp])), (b0, .inl (cI, 500, .inl g))]) [0, 1] (by decide) rfl
      exact W.zret (v := 1) (ty := .boolean) hx hb hr rfl (fun t ht hW => ⟨⟨1, (), rfl, Or.inr rfl, by rw [ht]; exact hP9, va_K.moved hW.alike hK, hD9⟩, hS.F ht⟩) hS.2.2 dX0_isWord_24

set_option maxHeartbeats 4000000 in
set_option maxRecDepth 100000 in
/-- X0_sameBytes -/
theorem c_X0_sameBytes (l : Launch) (D : va_G) (cI : ClassId) (V : (Nat → Nat) × (Nat → Nat)) (h0 : Nat) (b0 : Nat) (ln : Int32) (ca : Int32) (fa : Int32) (fp : Int32) (g : Nat → Int32) (sz : Nat) (p1 : Int32) (p2 : Int32) (p3 : Int32)  : Met l yX0_sameBytes (.code yX0_sameBytes cX0_sameBytes 5 (some .boolean) :: tbW) ({ frames := 1, cells := 0, slots := 0, locals := 21 }) (va_Pc [.ref h0, .int p1, .int p2, .int p3] (gP D cI V [(h0, .inr (0, [.ref b0, .int ln, .int ca, .int fa, .int fp])), (b0, .inl (cI, 500, .inl g))] sz)) (va_Qi (fun (r : Int32) (u : Unit) => r = 0 ∨ r = 1) (fun u => gB D cI (va_A [(h0, .inr (0, [.ref b0, .int ln, .int ca, .int fa, .int fp])), (b0, .inl (cI, 500, .inl g))] sz) [(h0, .inr (0, [.ref b0, .int ln, .int ca, .int fa, .int fp])), (b0, .inl (cI, 500, .inl g))]) (va_A [(h0, .inr (0, [.ref b0, .int ln, .int ca, .int fa, .int fp])), (b0, .inl (cI, 500, .inl g))] sz)) 0 0 (va_A [(h0, .inr (0, [.ref b0, .int ln, .int ca, .int fa, .int fp])), (b0, .inl (cI, 500, .inl g))] sz) := by
  refine Met.ofW (cc := cX0_sameBytes) (maxL := 5) (ret := (some .boolean)) (by decide) rfl ?_
  intro p e s m args below meth c s₁ B hml hv
  obtain ⟨rfl, hsz, hP, hK, hD0, hN, hV⟩ := hv
  have hx := B.exec
  have hb := B.bytes
  have hr := B.returns
  have hts := tb_hts (atoms_spec (ws := .code yX0_sameBytes cX0_sameBytes 5 (some .boolean) :: tbW) B.pre)
  have hown : s.vm.findClass RX0 = some m.cls := findClass_of_methodNamed B.named
  have hlocks := B.notSynchronized
  subst hsz
  have hD := hD0.self (sz := s.heap.size)
  generalize hAe : va_A [(h0, .inr (0, [.ref b0, .int ln, .int ca, .int fa, .int fp])), (b0, .inl (cI, 500, .inl g))] s.heap.size = A at hD hV ⊢
  have hA : ∀ q : Nat, s.heap.size ≤ q → A q := fun q h => by rw [← hAe]; exact Or.inr h
  have hS : va_S A s.heap s.heap [] := va_S.rf
  have hP : va_P D classes [(h0, .inr (0, [.ref b0, .int ln, .int ca, .int fa, .int fp])), (b0, .inl (cI, 500, .inl g))] s.heap := hP
  have hl := lv_entry ([.ref h0, .int p1, .int p2, .int p3]) (n := 5) (Nat.le_of_ble_eq_true rfl)
  rw [lg_entry_eq]
  generalize (lg_sl ([.ref h0, .int p1, .int p2, .int p3]) ++ List.replicate (5 - (lg_sl ([.ref h0, .int p1, .int p2, .int p3])).length) Slot.unset).toArray = ls at hl ⊢
  have hl : lv_has ls 5 [(0, .ref h0), (1, .int p1), (2, .int p2), (3, .int p3)] := hl
  generalize hQ : MQ below (va_Qi (fun (r : Int32) (u : Unit) => r = 0 ∨ r = 1) (fun u => gB D cI A [(h0, .inr (0, [.ref b0, .int ln, .int ca, .int fa, .int fp])), (b0, .inl (cI, 500, .inl g))]) A) (([.ref h0, .int p1, .int p2, .int p3] : List Value).toArray) s 0 0 A = Q
  refine lv_iconst (v := 0) hx hb dX0_sameBytes_0 (by decide) ?_
  refine lv_istore (lv' := [(4, .int 0), (0, .ref h0), (1, .int p1), (2, .int p2), (3, .int p3)]) hx hb dX0_sameBytes_1 hl (by decide) rfl (fun ls hl => ?_)
  have loop_3 : ∀ (n : Nat) (x_l : Int32) (H : Heap) (locs : List Loc), (p3.toInt - x_l.toInt).toNat < n → va_P D classes [(h0, .inr (0, [.ref b0, .int ln, .int ca, .int fa, .int fp])), (b0, .inl (cI, 500, .inl g))] H → va_D A [(h0, .inr (0, [.ref b0, .int ln, .int ca, .int fa, .int fp])), (b0, .inl (cI, 500, .inl g))] → va_S A s.heap H locs → ∀ (ls : Array Slot), lv_has ls 5 [(4, .int x_l), (0, .ref h0), (1, .int p1), (2, .int p2), (3, .int p3)] → W p l e (headSpec (.code yX0_sameBytes cX0_sameBytes 5 (some .boolean) :: tbW) { frames := 1, cells := 0, slots := 0, locals := 21 }).room s m (([.ref h0, .int p1, .int p2, .int p3] : List Value).toArray) below meth c H locs 0 0 Q (F0 m 3 ls []) := by
    intro n
    induction n with
    | zero =>
      intro x_l H locs hm
      exact absurd hm (Nat.not_lt_zero _)
    | succ n ih_3 =>
      intro x_l H locs hm_3  hP hD hS ls hl
      refine lv_iload hx hb dX0_sameBytes_3 (lv_at hl 0 rfl) ?_
      refine lv_iload_n hx hb dX0_sameBytes_5 rfl (lv_at hl 4 rfl) ?_
      refine lv_icmp_ge (tgt := 36) hx hb dX0_sameBytes_6 (by decide) (fun c_6 => ?_) (fun c_6 => ?_)
      · skip
        refine lv_iconst (v := 1) hx hb dX0_sameBytes_36 (by decide) ?_
        have hP9 := hP.sub (ws' := [(h0, .inr (0, [.ref b0, .int ln, .int ca, .int fa, .int fp])), (b0, .inl (cI, 500, .inl g))]) [0, 1] rfl
        have hD9 := hD.sub (ws' := [(h0, .inr (0, [.ref b0, .int ln, .int ca, .int fa, .int fp])), (b0, .inl (cI, 500, .inl g))]) [0, 1] (by decide) rfl
        rw [← hQ]
        exact W.zret (v := 1) (ty := .boolean) hx hb hr rfl (fun t ht hW => ⟨⟨1, (), rfl, Or.inr rfl, by rw [ht]; exact hP9, va_K.moved hW.alike hK, hD9⟩, hS.F ht⟩) hS.2.2 dX0_sameBytes_37
      · skip
        refine lv_aload_n hx hb dX0_sameBytes_9 rfl (lv_at hl 1 rfl) ?_
        refine lv_iload_n hx hb dX0_sameBytes_10 rfl (lv_at hl 2 rfl) ?_
        refine lv_iload hx hb dX0_sameBytes_11 (lv_at hl 0 rfl) ?_
        refine lv_iadd hx hb dX0_sameBytes_13 ?_
        refine lv_topi (fun x_1 ex_1 => ?_)
        refine gcall_i (va_runV (As := [.int x_1]) (rest := []) ⟨hx, hb, hml, hown, hts⟩ (c_X0_byteAt l D cI V h0 b0 ln ca fa fp g H.size x_1) (cwV 1 hts (tb_goodV kk_1_175 kk_1_176 kk_1_177 kk_1_2 kk_1_178) rfl rfl rfl (hdV_X0_byteAt) ⟨Nat.le_of_ble_eq_true rfl, Nat.le_of_ble_eq_true rfl⟩) (gpreV hK hN hV hS hA hP hD [0, 1] rfl rfl (by decide) (va_recv hK hP (ci := 0) (q0 := 0) rfl rfl)) rfl rfl hl.1 rfl (lv_room (Nat.le_of_ble_eq_true rfl)) dX0_sameBytes_14 ⟨Nat.le_of_ble_eq_true rfl, Nat.le_of_ble_eq_true rfl⟩) hP hD hS hA [0, 1] [] (wr := []) rfl rfl (by decide) (by decide) (fun r_2 u_3 H locs hw_14 hP hD hS => ?_)
        try dsimp only at hw_14
        have hP : va_P D classes [(h0, .inr (0, [.ref b0, .int ln, .int ca, .int fa, .int fp])), (b0, .inl (cI, 500, .inl g))] H := hP
        have hD : va_D A [(h0, .inr (0, [.ref b0, .int ln, .int ca, .int fa, .int fp])), (b0, .inl (cI, 500, .inl g))] := hD
        refine lv_aload_n hx hb dX0_sameBytes_17 rfl (lv_at hl 1 rfl) ?_
        refine lv_iload_n hx hb dX0_sameBytes_18 rfl (lv_at hl 3 rfl) ?_
        refine lv_iload hx hb dX0_sameBytes_19 (lv_at hl 0 rfl) ?_
        refine lv_iadd hx hb dX0_sameBytes_21 ?_
        refine lv_topi (fun x_4 ex_4 => ?_)
        refine gcall_i (va_runV (As := [.int x_4]) (rest := [.int r_2]) ⟨hx, hb, hml, hown, hts⟩ (c_X0_byteAt l D cI V h0 b0 ln ca fa fp g H.size x_4) (cwV 1 hts (tb_goodV kk_1_175 kk_1_176 kk_1_177 kk_1_2 kk_1_178) rfl rfl rfl (hdV_X0_byteAt) ⟨Nat.le_of_ble_eq_true rfl, Nat.le_of_ble_eq_true rfl⟩) (gpreV hK hN hV hS hA hP hD [0, 1] rfl rfl (by decide) (va_recv hK hP (ci := 0) (q0 := 0) rfl rfl)) rfl rfl hl.1 rfl (lv_room (Nat.le_of_ble_eq_true rfl)) dX0_sameBytes_22 ⟨Nat.le_of_ble_eq_true rfl, Nat.le_of_ble_eq_true rfl⟩) hP hD hS hA [0, 1] [] (wr := []) rfl rfl (by decide) (by decide) (fun r_5 u_6 H locs hw_22 hP hD hS => ?_)
        try dsimp only at hw_22
        have hP : va_P D classes [(h0, .inr (0, [.ref b0, .int ln, .int ca, .int fa, .int fp])), (b0, .inl (cI, 500, .inl g))] H := hP
        have hD : va_D A [(h0, .inr (0, [.ref b0, .int ln, .int ca, .int fa, .int fp])), (b0, .inl (cI, 500, .inl g))] := hD
        refine lv_icmp_eq (tgt := 30) hx hb dX0_sameBytes_25 (by decide) (fun c_25 => ?_) (fun c_25 => ?_)
        · skip
          obtain ⟨x_7, ex_7⟩ : ∃ y : Int32, y = x_l + 1 := ⟨_, rfl⟩
          refine lv_iinc (v := x_7) (lv' := [(4, .int x_7), (0, .ref h0), (1, .int p1), (2, .int p2), (3, .int p3)]) hx hb dX0_sameBytes_30 hl (k := 0) rfl (by rw [ex_7]; rfl) (by decide) rfl (fun ls hl => ?_)
          refine lv_goto (tgt := 3) hx hb dX0_sameBytes_33 (by decide) ?_
          exact ih_3 x_7 _ _ (mu_up c_6 ex_7 hm_3)  (hP.sub [0, 1] rfl) (hD.sub [0, 1] (by decide) rfl) hS ls (lv_sub hl [0, 1, 2, 3, 4] rfl)
        · skip
          refine lv_iconst (v := 0) hx hb dX0_sameBytes_28 (by decide) ?_
          have hP9 := hP.sub (ws' := [(h0, .inr (0, [.ref b0, .int ln, .int ca, .int fa, .int fp])), (b0, .inl (cI, 500, .inl g))]) [0, 1] rfl
          have hD9 := hD.sub (ws' := [(h0, .inr (0, [.ref b0, .int ln, .int ca, .int fa, .int fp])), (b0, .inl (cI, 500, .inl g))]) [0, 1] (by decide) rfl
          rw [← hQ]
          exact W.zret (v := 0) (ty := .boolean) hx hb hr rfl (fun t ht hW => ⟨⟨0, (), rfl, Or.inl rfl, by rw [ht]; exact hP9, va_K.moved hW.alike hK, hD9⟩, hS.F ht⟩) hS.2.2 dX0_sameBytes_29
  exact loop_3 _ 0 _ _ (Nat.lt_succ_self _)  hP hD hS ls hl

set_option maxHeartbeats 4000000 in
set_option maxRecDepth 100000 in
/-- X0_expect -/
theorem c_X0_expect (l : Launch) (D : va_G) (cI : ClassId) (V : (Nat → Nat) × (Nat → Nat)) (h0 : Nat) (b0 : Nat) (ln : Int32) (ca : Int32) (fa : Int32) (fp : Int32) (g : Nat → Int32) (wi : Nat) (sz : Nat)  (hwi : wi < 19) : Met l yX0_expect (.code yX0_expect cX0_expect 3 (some .boolean) :: tbW) ({ frames := 4, cells := 0, slots := 0, locals := 85 }) (va_Pc [.ref h0, .ref (V.1 wi)] (gP D cI V [(h0, .inr (0, [.ref b0, .int ln, .int ca, .int fa, .int fp])), (b0, .inl (cI, 500, .inl g))] sz)) (va_Qi (fun (r : Int32) (u : Int32 × Int32 × Int32) => r = 0 ∨ r = 1) (fun u => gB D cI (va_A [(h0, .inr (0, [.ref b0, .int ln, .int ca, .int fa, .int fp])), (b0, .inl (cI, 500, .inl g))] sz) [(h0, .inr (0, [.ref b0, .int ln, .int u.1, .int u.2.1, .int u.2.2])), (b0, .inl (cI, 500, .inl g))]) (va_A [(h0, .inr (0, [.ref b0, .int ln, .int ca, .int fa, .int fp])), (b0, .inl (cI, 500, .inl g))] sz)) 0 0 (va_A [(h0, .inr (0, [.ref b0, .int ln, .int ca, .int fa, .int fp])), (b0, .inl (cI, 500, .inl g))] sz) := by
  refine Met.ofW (cc := cX0_expect) (maxL := 3) (ret := (some .boolean)) (by decide) rfl ?_
  intro p e s m args below meth c s₁ B hml hv
  obtain ⟨rfl, hsz, hP, hK, hD0, hN, hV⟩ := hv
  have hx := B.exec
  have hb := B.bytes
  have hr := B.returns
  have hts := tb_hts (atoms_spec (ws := .code yX0_expect cX0_expect 3 (some .boolean) :: tbW) B.pre)
  have hown : s.vm.findClass RX0 = some m.cls := findClass_of_methodNamed B.named
  have hlocks := B.notSynchronized
  subst hsz
  have hD := hD0.self (sz := s.heap.size)
  generalize hAe : va_A [(h0, .inr (0, [.ref b0, .int ln, .int ca, .int fa, .int fp])), (b0, .inl (cI, 500, .inl g))] s.heap.size = A at hD hV ⊢
  have hA : ∀ q : Nat, s.heap.size ≤ q → A q := fun q h => by rw [← hAe]; exact Or.inr h
  have hS : va_S A s.heap s.heap [] := va_S.rf
  have hP : va_P D classes [(h0, .inr (0, [.ref b0, .int ln, .int ca, .int fa, .int fp])), (b0, .inl (cI, 500, .inl g))] s.heap := hP
  have hl := lv_entry ([.ref h0, .ref (V.1 wi)]) (n := 3) (Nat.le_of_ble_eq_true rfl)
  rw [lg_entry_eq]
  generalize (lg_sl ([.ref h0, .ref (V.1 wi)]) ++ List.replicate (3 - (lg_sl ([.ref h0, .ref (V.1 wi)])).length) Slot.unset).toArray = ls at hl ⊢
  have hl : lv_has ls 3 [(0, .ref h0), (1, .ref (V.1 wi))] := hl
  generalize hQ : MQ below (va_Qi (fun (r : Int32) (u : Int32 × Int32 × Int32) => r = 0 ∨ r = 1) (fun u => gB D cI A [(h0, .inr (0, [.ref b0, .int ln, .int u.1, .int u.2.1, .int u.2.2])), (b0, .inl (cI, 500, .inl g))]) A) (([.ref h0, .ref (V.1 wi)] : List Value).toArray) s 0 0 A = Q
  refine lv_iconst (v := 0) hx hb dX0_expect_0 (by decide) ?_
  refine lv_istore_n (lv' := [(2, .int 0), (0, .ref h0), (1, .ref (V.1 wi))]) hx hb dX0_expect_1 rfl hl (by decide) rfl (fun ls hl => ?_)
  have loop_2 : ∀ (n : Nat) (i : Nat) (ca_l : Int32) (H : Heap) (locs : List Loc), lenS.getD wi 0 - i < n → i ≤ lenS.getD wi 0 → va_P D classes [(h0, .inr (0, [.ref b0, .int ln, .int ca_l, .int fa, .int fp])), (b0, .inl (cI, 500, .inl g))] H → va_D A [(h0, .inr (0, [.ref b0, .int ln, .int ca_l, .int fa, .int fp])), (b0, .inl (cI, 500, .inl g))] → va_S A s.heap H locs → ∀ (ls : Array Slot), lv_has ls 3 [(2, .int (nI i)), (0, .ref h0), (1, .ref (V.1 wi))] → W p l e (headSpec (.code yX0_expect cX0_expect 3 (some .boolean) :: tbW) { frames := 4, cells := 0, slots := 0, locals := 85 }).room s m (([.ref h0, .ref (V.1 wi)] : List Value).toArray) below meth c H locs 0 0 Q (F0 m 2 ls []) := by
    intro n
    induction n with
    | zero =>
      intro i ca_l H locs hm
      exact absurd hm (Nat.not_lt_zero _)
    | succ n ih_2 =>
      intro i ca_l H locs hm_2 hi hP hD hS ls hl
      refine lv_iload_n hx hb dX0_expect_2 rfl (lv_at hl 0 rfl) ?_
      refine lv_aload_n hx hb dX0_expect_3 rfl (lv_at hl 2 rfl) ?_
      refine gcall_i (va_runV (As := []) (rest := [.int (nI i)]) ⟨hx, hb, hml, hown, hts⟩ (c_J0_length_8abf5 l D cI V wi H.size  hwi) (cwV 0 hts (tb_goodV kk_1_200 kk_1_201 kk_1_202 kk_1_7 kk_1_203) rfl rfl rfl (hdV_J0_length_8abf5) ⟨Nat.le_of_ble_eq_true rfl, Nat.le_of_ble_eq_true rfl⟩) (gpreV hK hN hV hS hA hP hD [] rfl rfl (by decide) (vk_recv hV.1 hwi hS)) rfl rfl hl.1 rfl (lv_room (Nat.le_of_ble_eq_true rfl)) dX0_expect_4 ⟨Nat.le_of_ble_eq_true rfl, Nat.le_of_ble_eq_true rfl⟩) hP hD hS hA [] [0, 1] (wr := [(h0, .inr (0, [.ref b0, .int ln, .int ca_l, .int fa, .int fp])), (b0, .inl (cI, 500, .inl g))]) rfl rfl (by decide) (by decide) (fun r_1 u_2 H locs hw_4 hP hD hS => ?_)
      try dsimp only at hw_4
      have hP : va_P D classes [(h0, .inr (0, [.ref b0, .int ln, .int ca_l, .int fa, .int fp])), (b0, .inl (cI, 500, .inl g))] H := hP
      have hD : va_D A [(h0, .inr (0, [.ref b0, .int ln, .int ca_l, .int fa, .int fp])), (b0, .inl (cI, 500, .inl g))] := hD
      refine lv_icmp_ge (tgt := 43) hx hb dX0_expect_7 (by decide) (fun c_7 => ?_) (fun c_7 => ?_)
      · skip
        refine lv_iconst (v := 1) hx hb dX0_expect_43 (by decide) ?_
        have hP9 := hP.sub (ws' := [(h0, .inr (0, [.ref b0, .int ln, .int ca_l, .int fa, .int fp])), (b0, .inl (cI, 500, .inl g))]) [0, 1] rfl
        have hD9 := hD.sub (ws' := [(h0, .inr (0, [.ref b0, .int ln, .int ca_l, .int fa, .int fp])), (b0, .inl (cI, 500, .inl g))]) [0, 1] (by decide) rfl
        rw [← hQ]
        exact W.zret (v := 1) (ty := .boolean) hx hb hr rfl (fun t ht hW => ⟨⟨1, (ca_l, fa, fp), rfl, Or.inr rfl, by rw [ht]; exact hP9, va_K.moved hW.alike hK, hD9⟩, hS.F ht⟩) hS.2.2 dX0_expect_44
      · skip
        refine lv_aload_n hx hb dX0_expect_10 rfl (lv_at hl 1 rfl) ?_
        refine gcall_i (va_runV (As := []) (rest := []) ⟨hx, hb, hml, hown, hts⟩ (c_X0_here l D cI V h0 b0 ln ca_l fa fp g H.size ) (cwV 0 hts (tb_goodV kk_1_210 kk_1_172 kk_1_173 kk_1_2 kk_1_174) rfl rfl rfl (hdV_X0_here) ⟨Nat.le_of_ble_eq_true rfl, Nat.le_of_ble_eq_true rfl⟩) (gpreV hK hN hV hS hA hP hD [0, 1] rfl rfl (by decide) (va_recv hK hP (ci := 0) (q0 := 0) rfl rfl)) rfl rfl hl.1 rfl (lv_room (Nat.le_of_ble_eq_true rfl)) dX0_expect_11 ⟨Nat.le_of_ble_eq_true rfl, Nat.le_of_ble_eq_true rfl⟩) hP hD hS hA [0, 1] [] (wr := []) rfl rfl (by decide) (by decide) (fun r_3 u_4 H locs hw_11 hP hD hS => ?_)
        try dsimp only at hw_11
        have hP : va_P D classes [(h0, .inr (0, [.ref b0, .int ln, .int ca_l, .int fa, .int fp])), (b0, .inl (cI, 500, .inl g))] H := hP
        have hD : va_D A [(h0, .inr (0, [.ref b0, .int ln, .int ca_l, .int fa, .int fp])), (b0, .inl (cI, 500, .inl g))] := hD
        refine lv_aload_n hx hb dX0_expect_14 rfl (lv_at hl 2 rfl) ?_
        refine lv_iload_n hx hb dX0_expect_15 rfl (lv_at hl 0 rfl) ?_
        refine gcall_i (va_runV (As := [.int (nI i)]) (rest := [.int r_3]) ⟨hx, hb, hml, hown, hts⟩ (c_J0_charAt_5068e l D cI V wi H.size (nI i) hwi (nI_pos (by have := lenS_lt wi hwi; omega)) (by rw [← hw_4]; exact Int32.not_le.mp c_7)) (cwV 1 hts (tb_goodV kk_1_211 kk_1_212 kk_1_213 kk_1_7 kk_1_214) rfl rfl rfl (hdV_J0_charAt_5068e) ⟨Nat.le_of_ble_eq_true rfl, Nat.le_of_ble_eq_true rfl⟩) (gpreV hK hN hV hS hA hP hD [] rfl rfl (by decide) (vk_recv hV.1 hwi hS)) rfl rfl hl.1 rfl (lv_room (Nat.le_of_ble_eq_true rfl)) dX0_expect_16 ⟨Nat.le_of_ble_eq_true rfl, Nat.le_of_ble_eq_true rfl⟩) hP hD hS hA [] [0, 1] (wr := [(h0, .inr (0, [.ref b0, .int ln, .int ca_l, .int fa, .int fp])), (b0, .inl (cI, 500, .inl g))]) rfl rfl (by decide) (by decide) (fun r_5 u_6 H locs hw_16 hP hD hS => ?_)
        try dsimp only at hw_16
        have hP : va_P D classes [(h0, .inr (0, [.ref b0, .int ln, .int ca_l, .int fa, .int fp])), (b0, .inl (cI, 500, .inl g))] H := hP
        have hD : va_D A [(h0, .inr (0, [.ref b0, .int ln, .int ca_l, .int fa, .int fp])), (b0, .inl (cI, 500, .inl g))] := hD
        refine lv_icmp_eq (tgt := 27) hx hb dX0_expect_19 (by decide) (fun c_19 => ?_) (fun c_19 => ?_)
        · skip
          refine lv_aload_n hx hb dX0_expect_27 rfl (lv_at hl 1 rfl) ?_
          refine lv_dup hx hb dX0_expect_28 rfl ?_
          refine va_get (D := D) (ci := 0) (v := .int ca_l) (C := RX0) (T := TX0) (N := 5) hx hb hts inX0 hown hK hP 0 rfl rfl 2 (by decide) (hts (Cond.fieldLink "NestedTags$Cursor" 25 "NestedTags$Cursor" "at" "I") kk_1_28) (fun _ h9 => h9) rfl dX0_expect_29 ?_
          refine lv_iconst (v := 1) hx hb dX0_expect_32 (by decide) ?_
          refine lv_iadd hx hb dX0_expect_33 ?_
          refine lv_topi (fun x_7 ex_7 => ?_)
          refine va_put (D := D) (ci := 0) (v := .int x_7) (ty := .int) (C := RX0) (T := TX0) (N := 5) hx hb hts inX0 tyX0 tyX0_ok nmX0 hown hK hP hD hS 0 rfl rfl 2 (by decide) (hts (Cond.fieldLink "NestedTags$Cursor" 25 "NestedTags$Cursor" "at" "I") kk_1_28) (fun _ h9 => h9) rfl (tyX0_ok 2 (by decide)) rfl rfl (Nat.le_of_ble_eq_true rfl) dX0_expect_34 (fun H locs hP hD hS => ?_)
          have hP : va_P D classes [(h0, .inr (0, [.ref b0, .int ln, .int x_7, .int fa, .int fp])), (b0, .inl (cI, 500, .inl g))] H := hP
          have hD : va_D A [(h0, .inr (0, [.ref b0, .int ln, .int x_7, .int fa, .int fp])), (b0, .inl (cI, 500, .inl g))] := hD
          obtain ⟨x_8, ex_8⟩ : ∃ y : Int32, y = (nI i) + 1 := ⟨_, rfl⟩
          refine lv_iinc (v := x_8) (lv' := [(2, .int x_8), (0, .ref h0), (1, .ref (V.1 wi))]) hx hb dX0_expect_37 hl (k := 0) rfl (by rw [ex_8]; rfl) (by decide) rfl (fun ls hl => ?_)
          refine lv_goto (tgt := 2) hx hb dX0_expect_40 (by decide) ?_
          have ei : x_8 = nI (i + 1) := by rw [ex_8]; exact nI_1 i
          rw [ei] at hl
          have hlt : i < lenS.getD wi 0 := lt_of_c hwi hi hw_4 c_7
          exact ih_2 (i + 1) x_7 _ _ (by omega) (by omega) (hP.sub [0, 1] rfl) (hD.sub [0, 1] (by decide) rfl) hS ls (lv_sub hl [0, 1, 2] rfl)
        · skip
          refine lv_aload_n hx hb dX0_expect_22 rfl (lv_at hl 1 rfl) ?_
          refine gcall_i (va_runV (As := []) (rest := []) ⟨hx, hb, hml, hown, hts⟩ (c_X0_failHere_w l D cI V h0 b0 ln ca_l fa fp H.size ) (cwV 0 hts (tb_goodV kk_2_9 kk_2_10 kk_2_11 kk_1_2 kk_2_12) rfl rfl rfl (hdV_X0_failHere) ⟨Nat.le_of_ble_eq_true rfl, Nat.le_of_ble_eq_true rfl⟩) (gpreV hK hN hV hS hA hP hD [0] rfl rfl (by decide) (va_recv hK hP (ci := 0) (q0 := 0) rfl rfl)) rfl rfl hl.1 rfl (lv_room (Nat.le_of_ble_eq_true rfl)) dX0_expect_23 ⟨Nat.le_of_ble_eq_true rfl, Nat.le_of_ble_eq_true rfl⟩) hP hD hS hA [0] [1] (wr := [(b0, .inl (cI, 500, .inl g))]) rfl rfl (by decide) (by decide) (fun r_9 u_10 H locs hw_23 hP hD hS => ?_)
          try dsimp only at hw_23
          have hP : va_P D classes [(b0, .inl (cI, 500, .inl g)), (h0, .inr (0, [.ref b0, .int ln, .int ca_l, .int u_10.1, .int u_10.2]))] H := hP
          have hD : va_D A [(b0, .inl (cI, 500, .inl g)), (h0, .inr (0, [.ref b0, .int ln, .int ca_l, .int u_10.1, .int u_10.2]))] := hD
          have hP9 := hP.sub (ws' := [(h0, .inr (0, [.ref b0, .int ln, .int ca_l, .int u_10.1, .int u_10.2])), (b0, .inl (cI, 500, .inl g))]) [1, 0] rfl
          have hD9 := hD.sub (ws' := [(h0, .inr (0, [.ref b0, .int ln, .int ca_l, .int u_10.1, .int u_10.2])), (b0, .inl (cI, 500, .inl g))]) [1, 0] (by decide) rfl
          rw [← hQ]
          exact W.zret (v := r_9) (ty := .boolean) hx hb hr (nb01 hw_23) (fun t ht hW => ⟨⟨r_9, (ca_l, u_10.1, u_10.2), rfl, hw_23, by rw [ht]; exact hP9, va_K.moved hW.alike hK, hD9⟩, hS.F ht⟩) hS.2.2 dX0_expect_26
  exact loop_2 _ 0 ca _ _ (Nat.lt_succ_self _) (Nat.zero_le _) hP hD hS ls hl

set_option maxHeartbeats 4000000 in
set_option maxRecDepth 100000 in
/-- X0_passBlanks -/
theorem c_X0_passBlanks (l : Launch) (D : va_G) (cI : ClassId) (V : (Nat → Nat) × (Nat → Nat)) (h0 : Nat) (b0 : Nat) (ln : Int32) (ca : Int32) (fa : Int32) (fp : Int32) (g : Nat → Int32) (sz : Nat)   : Met l yX0_passBlanks (.code yX0_passBlanks cX0_passBlanks 2 (some .boolean) :: tbW) ({ frames := 2, cells := 0, slots := 0, locals := 41 }) (va_Pc [.ref h0] (gP D cI V [(h0, .inr (0, [.ref b0, .int ln, .int ca, .int fa, .int fp])), (b0, .inl (cI, 500, .inl g))] sz)) (va_Qi (fun (r : Int32) (u : Int32 × Int32 × Int32) => r = 0 ∨ r = 1) (fun u => gB D cI (va_A [(h0, .inr (0, [.ref b0, .int ln, .int ca, .int fa, .int fp])), (b0, .inl (cI, 500, .inl g))] sz) [(h0, .inr (0, [.ref b0, .int ln, .int u.1, .int u.2.1, .int u.2.2])), (b0, .inl (cI, 500, .inl g))]) (va_A [(h0, .inr (0, [.ref b0, .int ln, .int ca, .int fa, .int fp])), (b0, .inl (cI, 500, .inl g))] sz)) 0 0 (va_A [(h0, .inr (0, [.ref b0, .int ln, .int ca, .int fa, .int fp])), (b0, .inl (cI, 500, .inl g))] sz) := by
  refine Met.ofW (cc := cX0_passBlanks) (maxL := 2) (ret := (some .boolean)) (by decide) rfl ?_
  intro p e s m args below meth c s₁ B hml hv
  obtain ⟨rfl, hsz, hP, hK, hD0, hN, hV⟩ := hv
  have hx := B.exec
  have hb := B.bytes
  have hr := B.returns
  have hts := tb_hts (atoms_spec (ws := .code yX0_passBlanks cX0_passBlanks 2 (some .boolean) :: tbW) B.pre)
  have hown : s.vm.findClass RX0 = some m.cls := findClass_of_methodNamed B.named
  have hlocks := B.notSynchronized
  subst hsz
  have hD := hD0.self (sz := s.heap.size)
  generalize hAe : va_A [(h0, .inr (0, [.ref b0, .int ln, .int ca, .int fa, .int fp])), (b0, .inl (cI, 500, .inl g))] s.heap.size = A at hD hV ⊢
  have hA : ∀ q : Nat, s.heap.size ≤ q → A q := fun q h => by rw [← hAe]; exact Or.inr h
  have hS : va_S A s.heap s.heap [] := va_S.rf
  have hP : va_P D classes [(h0, .inr (0, [.ref b0, .int ln, .int ca, .int fa, .int fp])), (b0, .inl (cI, 500, .inl g))] s.heap := hP
  have hl := lv_entry ([.ref h0]) (n := 2) (Nat.le_of_ble_eq_true rfl)
  rw [lg_entry_eq]
  generalize (lg_sl ([.ref h0]) ++ List.replicate (2 - (lg_sl ([.ref h0])).length) Slot.unset).toArray = ls at hl ⊢
  have hl : lv_has ls 2 [(0, .ref h0)] := hl
  generalize hQ : MQ below (va_Qi (fun (r : Int32) (u : Int32 × Int32 × Int32) => r = 0 ∨ r = 1) (fun u => gB D cI A [(h0, .inr (0, [.ref b0, .int ln, .int u.1, .int u.2.1, .int u.2.2])), (b0, .inl (cI, 500, .inl g))]) A) (([.ref h0] : List Value).toArray) s 0 0 A = Q
  refine lv_aload_n hx hb dX0_passBlanks_0 rfl (lv_at hl 0 rfl) ?_
  refine va_get (D := D) (ci := 0) (v := .int ca) (C := RX0) (T := TX0) (N := 5) hx hb hts inX0 hown hK hP 0 rfl rfl 2 (by decide) (hts (Cond.fieldLink "NestedTags$Cursor" 25 "NestedTags$Cursor" "at" "I") kk_1_28) (fun _ h9 => h9) rfl dX0_passBlanks_1 ?_
  refine lv_istore_n (lv' := [(1, .int ca), (0, .ref h0)]) hx hb dX0_passBlanks_4 rfl hl (by decide) rfl (fun ls hl => ?_)
  have loop_5 : ∀ (n : Nat) (ca_l : Int32) (H : Heap) (locs : List Loc), (ln.toInt - ca_l.toInt).toNat < n → va_P D classes [(h0, .inr (0, [.ref b0, .int ln, .int ca_l, .int fa, .int fp])), (b0, .inl (cI, 500, .inl g))] H → va_D A [(h0, .inr (0, [.ref b0, .int ln, .int ca_l, .int fa, .int fp])), (b0, .inl (cI, 500, .inl g))] → va_S A s.heap H locs → ∀ (ls : Array Slot), lv_has ls 2 [(1, .int ca), (0, .ref h0)] → W p l e (headSpec (.code yX0_passBlanks cX0_passBlanks 2 (some .boolean) :: tbW) { frames := 2, cells := 0, slots := 0, locals := 41 }).room s m (([.ref h0] : List Value).toArray) below meth c H locs 0 0 Q (F0 m 5 ls []) := by
    intro n
    induction n with
    | zero =>
      intro ca_l H locs hm
      exact absurd hm (Nat.not_lt_zero _)
    | succ n ih_5 =>
      intro ca_l H locs hm_5  hP hD hS ls hl
      refine lv_aload_n hx hb dX0_passBlanks_5 rfl (lv_at hl 1 rfl) ?_
      refine va_get (D := D) (ci := 0) (v := .int ca_l) (C := RX0) (T := TX0) (N := 5) hx hb hts inX0 hown hK hP 0 rfl rfl 2 (by decide) (hts (Cond.fieldLink "NestedTags$Cursor" 25 "NestedTags$Cursor" "at" "I") kk_1_28) (fun _ h9 => h9) rfl dX0_passBlanks_6 ?_
      refine lv_aload_n hx hb dX0_passBlanks_9 rfl (lv_at hl 1 rfl) ?_
      refine va_get (D := D) (ci := 0) (v := .int ln) (C := RX0) (T := TX0) (N := 5) hx hb hts inX0 hown hK hP 0 rfl rfl 1 (by decide) (hts (Cond.fieldLink "NestedTags$Cursor" 22 "NestedTags$Cursor" "length" "I") kk_1_26) (fun _ h9 => h9) rfl dX0_passBlanks_10 ?_
      refine lv_icmp_ge (tgt := 39) hx hb dX0_passBlanks_13 (by decide) (fun c_13 => ?_) (fun c_13 => ?_)
      · skip
        refine lv_aload_n hx hb dX0_passBlanks_39 rfl (lv_at hl 1 rfl) ?_
        refine va_get (D := D) (ci := 0) (v := .int ca_l) (C := RX0) (T := TX0) (N := 5) hx hb hts inX0 hown hK hP 0 rfl rfl 2 (by decide) (hts (Cond.fieldLink "NestedTags$Cursor" 25 "NestedTags$Cursor" "at" "I") kk_1_28) (fun _ h9 => h9) rfl dX0_passBlanks_40 ?_
        refine lv_iload_n hx hb dX0_passBlanks_43 rfl (lv_at hl 0 rfl) ?_
        refine lv_icmp_le (tgt := 51) hx hb dX0_passBlanks_44 (by decide) (fun c_44 => ?_) (fun c_44 => ?_)
        · skip
          refine lv_iconst (v := 0) hx hb dX0_passBlanks_51 (by decide) ?_
          have hP9 := hP.sub (ws' := [(h0, .inr (0, [.ref b0, .int ln, .int ca_l, .int fa, .int fp])), (b0, .inl (cI, 500, .inl g))]) [0, 1] rfl
          have hD9 := hD.sub (ws' := [(h0, .inr (0, [.ref b0, .int ln, .int ca_l, .int fa, .int fp])), (b0, .inl (cI, 500, .inl g))]) [0, 1] (by decide) rfl
          rw [← hQ]
          exact W.zret (v := 0) (ty := .boolean) hx hb hr rfl (fun t ht hW => ⟨⟨0, (ca_l, fa, fp), rfl, Or.inl rfl, by rw [ht]; exact hP9, va_K.moved hW.alike hK, hD9⟩, hS.F ht⟩) hS.2.2 dX0_passBlanks_52
        · skip
          refine lv_iconst (v := 1) hx hb dX0_passBlanks_47 (by decide) ?_
          refine lv_goto (tgt := 52) hx hb dX0_passBlanks_48 (by decide) ?_
          have hP9 := hP.sub (ws' := [(h0, .inr (0, [.ref b0, .int ln, .int ca_l, .int fa, .int fp])), (b0, .inl (cI, 500, .inl g))]) [0, 1] rfl
          have hD9 := hD.sub (ws' := [(h0, .inr (0, [.ref b0, .int ln, .int ca_l, .int fa, .int fp])), (b0, .inl (cI, 500, .inl g))]) [0, 1] (by decide) rfl
          rw [← hQ]
          exact W.zret (v := 1) (ty := .boolean) hx hb hr rfl (fun t ht hW => ⟨⟨1, (ca_l, fa, fp), rfl, Or.inr rfl, by rw [ht]; exact hP9, va_K.moved hW.alike hK, hD9⟩, hS.F ht⟩) hS.2.2 dX0_passBlanks_52
      · skip
        refine lv_aload_n hx hb dX0_passBlanks_16 rfl (lv_at hl 1 rfl) ?_
        refine gcall_i (va_runV (As := []) (rest := []) ⟨hx, hb, hml, hown, hts⟩ (c_X0_here l D cI V h0 b0 ln ca_l fa fp g H.size ) (cwV 0 hts (tb_goodV kk_1_210 kk_1_172 kk_1_173 kk_1_2 kk_1_174) rfl rfl rfl (hdV_X0_here) ⟨Nat.le_of_ble_eq_true rfl, Nat.le_of_ble_eq_true rfl⟩) (gpreV hK hN hV hS hA hP hD [0, 1] rfl rfl (by decide) (va_recv hK hP (ci := 0) (q0 := 0) rfl rfl)) rfl rfl hl.1 rfl (lv_room (Nat.le_of_ble_eq_true rfl)) dX0_passBlanks_17 ⟨Nat.le_of_ble_eq_true rfl, Nat.le_of_ble_eq_true rfl⟩) hP hD hS hA [0, 1] [] (wr := []) rfl rfl (by decide) (by decide) (fun r_1 u_2 H locs hw_17 hP hD hS => ?_)
        try dsimp only at hw_17
        have hP : va_P D classes [(h0, .inr (0, [.ref b0, .int ln, .int ca_l, .int fa, .int fp])), (b0, .inl (cI, 500, .inl g))] H := hP
        have hD : va_D A [(h0, .inr (0, [.ref b0, .int ln, .int ca_l, .int fa, .int fp])), (b0, .inl (cI, 500, .inl g))] := hD
        refine gcall_i (va_runSN (As := [.int r_1]) (rest := []) ⟨hx, hb, hml, hown, hts⟩ (c_X3_isBlank l D cI V  H.size r_1) ⟨(va_cnB 1 hts (tb_good kk_2_35) rfl rfl rfl (nvm_3 hN) (hts (Cond.initialized "NestedTags") kk_1_1) (hdS_X3_isBlank) ⟨Nat.le_of_ble_eq_true rfl, Nat.le_of_ble_eq_true rfl⟩), (hts (Cond.static yX3_isBlank) kk_2_34), trivial⟩ (gpreS hK hN hV hS hA hP hD [] rfl rfl (by decide)) rfl rfl hl.1 rfl (lv_room (Nat.le_of_ble_eq_true rfl)) dX0_passBlanks_20 ⟨Nat.le_of_ble_eq_true rfl, Nat.le_of_ble_eq_true rfl⟩) hP hD hS hA [] [0, 1] (wr := [(h0, .inr (0, [.ref b0, .int ln, .int ca_l, .int fa, .int fp])), (b0, .inl (cI, 500, .inl g))]) rfl rfl (by decide) (by decide) (fun r_3 u_4 H locs hw_20 hP hD hS => ?_)
        try dsimp only at hw_20
        have hP : va_P D classes [(h0, .inr (0, [.ref b0, .int ln, .int ca_l, .int fa, .int fp])), (b0, .inl (cI, 500, .inl g))] H := hP
        have hD : va_D A [(h0, .inr (0, [.ref b0, .int ln, .int ca_l, .int fa, .int fp])), (b0, .inl (cI, 500, .inl g))] := hD
        refine lv_if_eq (tgt := 39) hx hb dX0_passBlanks_23 (by decide) (fun c_23 => ?_) (fun c_23 => ?_)
        · skip
          refine lv_aload_n hx hb dX0_passBlanks_39 rfl (lv_at hl 1 rfl) ?_
          refine va_get (D := D) (ci := 0) (v := .int ca_l) (C := RX0) (T := TX0) (N := 5) hx hb hts inX0 hown hK hP 0 rfl rfl 2 (by decide) (hts (Cond.fieldLink "NestedTags$Cursor" 25 "NestedTags$Cursor" "at" "I") kk_1_28) (fun _ h9 => h9) rfl dX0_passBlanks_40 ?_
          refine lv_iload_n hx hb dX0_passBlanks_43 rfl (lv_at hl 0 rfl) ?_
          refine lv_icmp_le (tgt := 51) hx hb dX0_passBlanks_44 (by decide) (fun c_44 => ?_) (fun c_44 => ?_)
          · skip
            refine lv_iconst (v := 0) hx hb dX0_passBlanks_51 (by decide) ?_
            have hP9 := hP.sub (ws' := [(h0, .inr (0, [.ref b0, .int ln, .int ca_l, .int fa, .int fp])), (b0, .inl (cI, 500, .inl g))]) [0, 1] rfl
            have hD9 := hD.sub (ws' := [(h0, .inr (0, [.ref b0, .int ln, .int ca_l, .int fa, .int fp])), (b0, .inl (cI, 500, .inl g))]) [0, 1] (by decide) rfl
            rw [← hQ]
            exact W.zret (v := 0) (ty := .boolean) hx hb hr rfl (fun t ht hW => ⟨⟨0, (ca_l, fa, fp), rfl, Or.inl rfl, by rw [ht]; exact hP9, va_K.moved hW.alike hK, hD9⟩, hS.F ht⟩) hS.2.2 dX0_passBlanks_52
          · skip
            refine lv_iconst (v := 1) hx hb dX0_passBlanks_47 (by decide) ?_
            refine lv_goto (tgt := 52) hx hb dX0_passBlanks_48 (by decide) ?_
            have hP9 := hP.sub (ws' := [(h0, .inr (0, [.ref b0, .int ln, .int ca_l, .int fa, .int fp])), (b0, .inl (cI, 500, .inl g))]) [0, 1] rfl
            have hD9 := hD.sub (ws' := [(h0, .inr (0, [.ref b0, .int ln, .int ca_l, .int fa, .int fp])), (b0, .inl (cI, 500, .inl g))]) [0, 1] (by decide) rfl
            rw [← hQ]
            exact W.zret (v := 1) (ty := .boolean) hx hb hr rfl (fun t ht hW => ⟨⟨1, (ca_l, fa, fp), rfl, Or.inr rfl, by rw [ht]; exact hP9, va_K.moved hW.alike hK, hD9⟩, hS.F ht⟩) hS.2.2 dX0_passBlanks_52
        · skip
          refine lv_aload_n hx hb dX0_passBlanks_26 rfl (lv_at hl 1 rfl) ?_
          refine lv_dup hx hb dX0_passBlanks_27 rfl ?_
          refine va_get (D := D) (ci := 0) (v := .int ca_l) (C := RX0) (T := TX0) (N := 5) hx hb hts inX0 hown hK hP 0 rfl rfl 2 (by decide) (hts (Cond.fieldLink "NestedTags$Cursor" 25 "NestedTags$Cursor" "at" "I") kk_1_28) (fun _ h9 => h9) rfl dX0_passBlanks_28 ?_
          refine lv_iconst (v := 1) hx hb dX0_passBlanks_31 (by decide) ?_
          refine lv_iadd hx hb dX0_passBlanks_32 ?_
          refine lv_topi (fun x_5 ex_5 => ?_)
          refine va_put (D := D) (ci := 0) (v := .int x_5) (ty := .int) (C := RX0) (T := TX0) (N := 5) hx hb hts inX0 tyX0 tyX0_ok nmX0 hown hK hP hD hS 0 rfl rfl 2 (by decide) (hts (Cond.fieldLink "NestedTags$Cursor" 25 "NestedTags$Cursor" "at" "I") kk_1_28) (fun _ h9 => h9) rfl (tyX0_ok 2 (by decide)) rfl rfl (Nat.le_of_ble_eq_true rfl) dX0_passBlanks_33 (fun H locs hP hD hS => ?_)
          have hP : va_P D classes [(h0, .inr (0, [.ref b0, .int ln, .int x_5, .int fa, .int fp])), (b0, .inl (cI, 500, .inl g))] H := hP
          have hD : va_D A [(h0, .inr (0, [.ref b0, .int ln, .int x_5, .int fa, .int fp])), (b0, .inl (cI, 500, .inl g))] := hD
          refine lv_goto (tgt := 5) hx hb dX0_passBlanks_36 (by decide) ?_
          exact ih_5 x_5 _ _ (mu_up c_13 ex_5 hm_5)  (hP.sub [0, 1] rfl) (hD.sub [0, 1] (by decide) rfl) hS ls (lv_sub hl [0, 1] rfl)
  exact loop_5 _ ca _ _ (Nat.lt_succ_self _)  hP hD hS ls hl

set_option maxHeartbeats 4000000 in
set_option maxRecDepth 100000 in
/-- X0_passName -/
theorem c_X0_passName (l : Launch) (D : va_G) (cI : ClassId) (V : (Nat → Nat) × (Nat → Nat)) (h0 : Nat) (b0 : Nat) (ln : Int32) (ca : Int32) (fa : Int32) (fp : Int32) (g : Nat → Int32) (sz : Nat)   : Met l yX0_passName (.code yX0_passName cX0_passName 1 (some .boolean) :: tbW) ({ frames := 2, cells := 0, slots := 0, locals := 42 }) (va_Pc [.ref h0] (gP D cI V [(h0, .inr (0, [.ref b0, .int ln, .int ca, .int fa, .int fp])), (b0, .inl (cI, 500, .inl g))] sz)) (va_Qi (fun (r : Int32) (u : Int32 × Int32 × Int32) => r = 0 ∨ r = 1) (fun u => gB D cI (va_A [(h0, .inr (0, [.ref b0, .int ln, .int ca, .int fa, .int fp])), (b0, .inl (cI, 500, .inl g))] sz) [(h0, .inr (0, [.ref b0, .int ln, .int u.1, .int u.2.1, .int u.2.2])), (b0, .inl (cI, 500, .inl g))]) (va_A [(h0, .inr (0, [.ref b0, .int ln, .int ca, .int fa, .int fp])), (b0, .inl (cI, 500, .inl g))] sz)) 0 0 (va_A [(h0, .inr (0, [.ref b0, .int ln, .int ca, .int fa, .int fp])), (b0, .inl (cI, 500, .inl g))] sz) := by
  refine Met.ofW (cc := cX0_passName) (maxL := 1) (ret := (some .boolean)) (by decide) rfl ?_
  intro p e s m args below meth c s₁ B hml hv
  obtain ⟨rfl, hsz, hP, hK, hD0, hN, hV⟩ := hv
  have hx := B.exec
  have hb := B.bytes
  have hr := B.returns
  have hts := tb_hts (atoms_spec (ws := .code yX0_passName cX0_passName 1 (some .boolean) :: tbW) B.pre)
  have hown : s.vm.findClass RX0 = some m.cls := findClass_of_methodNamed B.named
  have hlocks := B.notSynchronized
  subst hsz
  have hD := hD0.self (sz := s.heap.size)
  generalize hAe : va_A [(h0, .inr (0, [.ref b0, .int ln, .int ca, .int fa, .int fp])), (b0, .inl (cI, 500, .inl g))] s.heap.size = A at hD hV ⊢
  have hA : ∀ q : Nat, s.heap.size ≤ q → A q := fun q h => by rw [← hAe]; exact Or.inr h
  have hS : va_S A s.heap s.heap [] := va_S.rf
  have hP : va_P D classes [(h0, .inr (0, [.ref b0, .int ln, .int ca, .int fa, .int fp])), (b0, .inl (cI, 500, .inl g))] s.heap := hP
  have hl := lv_entry ([.ref h0]) (n := 1) (Nat.le_of_ble_eq_true rfl)
  rw [lg_entry_eq]
  generalize (lg_sl ([.ref h0]) ++ List.replicate (1 - (lg_sl ([.ref h0])).length) Slot.unset).toArray = ls at hl ⊢
  have hl : lv_has ls 1 [(0, .ref h0)] := hl
  generalize hQ : MQ below (va_Qi (fun (r : Int32) (u : Int32 × Int32 × Int32) => r = 0 ∨ r = 1) (fun u => gB D cI A [(h0, .inr (0, [.ref b0, .int ln, .int u.1, .int u.2.1, .int u.2.2])), (b0, .inl (cI, 500, .inl g))]) A) (([.ref h0] : List Value).toArray) s 0 0 A = Q
  refine lv_aload_n hx hb dX0_passName_0 rfl (lv_at hl 0 rfl) ?_
  refine gcall_i (va_runV (As := []) (rest := []) ⟨hx, hb, hml, hown, hts⟩ (c_X0_here l D cI V h0 b0 ln ca fa fp g s.heap.size ) (cwV 0 hts (tb_goodV kk_1_210 kk_1_172 kk_1_173 kk_1_2 kk_1_174) rfl rfl rfl (hdV_X0_here) ⟨Nat.le_of_ble_eq_true rfl, Nat.le_of_ble_eq_true rfl⟩) (gpreV hK hN hV hS hA hP hD [0, 1] rfl rfl (by decide) (va_recv hK hP (ci := 0) (q0 := 0) rfl rfl)) rfl rfl hl.1 rfl (lv_room (Nat.le_of_ble_eq_true rfl)) dX0_passName_1 ⟨Nat.le_of_ble_eq_true rfl, Nat.le_of_ble_eq_true rfl⟩) hP hD hS hA [0, 1] [] (wr := []) rfl rfl (by decide) (by decide) (fun r_1 u_2 H locs hw_1 hP hD hS => ?_)
  try dsimp only at hw_1
  have hP : va_P D classes [(h0, .inr (0, [.ref b0, .int ln, .int ca, .int fa, .int fp])), (b0, .inl (cI, 500, .inl g))] H := hP
  have hD : va_D A [(h0, .inr (0, [.ref b0, .int ln, .int ca, .int fa, .int fp])), (b0, .inl (cI, 500, .inl g))] := hD
  refine gcall_i (va_runSN (As := [.int r_1]) (rest := []) ⟨hx, hb, hml, hown, hts⟩ (c_X3_isNameStart l D cI V  H.size r_1) ⟨(va_cnB 1 hts (tb_good kk_2_42) rfl rfl rfl (nvm_1 hN) (hts (Cond.initialized "NestedTags") kk_1_1) (hdS_X3_isNameStart) ⟨Nat.le_of_ble_eq_true rfl, Nat.le_of_ble_eq_true rfl⟩), (hts (Cond.static yX3_isNameStart) kk_2_41), trivial⟩ (gpreS hK hN hV hS hA hP hD [] rfl rfl (by decide)) rfl rfl hl.1 rfl (lv_room (Nat.le_of_ble_eq_true rfl)) dX0_passName_4 ⟨Nat.le_of_ble_eq_true rfl, Nat.le_of_ble_eq_true rfl⟩) hP hD hS hA [] [0, 1] (wr := [(h0, .inr (0, [.ref b0, .int ln, .int ca, .int fa, .int fp])), (b0, .inl (cI, 500, .inl g))]) rfl rfl (by decide) (by decide) (fun r_3 u_4 H locs hw_4 hP hD hS => ?_)
  try dsimp only at hw_4
  have hP : va_P D classes [(h0, .inr (0, [.ref b0, .int ln, .int ca, .int fa, .int fp])), (b0, .inl (cI, 500, .inl g))] H := hP
  have hD : va_D A [(h0, .inr (0, [.ref b0, .int ln, .int ca, .int fa, .int fp])), (b0, .inl (cI, 500, .inl g))] := hD
  refine lv_if_ne (tgt := 15) hx hb dX0_passName_7 (by decide) (fun c_7 => ?_) (fun c_7 => ?_)
  · skip
    have loop_15 : ∀ (n : Nat) (ca_l : Int32) (H : Heap) (locs : List Loc), (ln.toInt - ca_l.toInt).toNat < n → va_P D classes [(h0, .inr (0, [.ref b0, .int ln, .int ca_l, .int fa, .int fp])), (b0, .inl (cI, 500, .inl g))] H → va_D A [(h0, .inr (0, [.ref b0, .int ln, .int ca_l, .int fa, .int fp])), (b0, .inl (cI, 500, .inl g))] → va_S A s.heap H locs → ∀ (ls : Array Slot), lv_has ls 1 [(0, .ref h0)] → W p l e (headSpec (.code yX0_passName cX0_passName 1 (some .boolean) :: tbW) { frames := 2, cells := 0, slots := 0, locals := 42 }).room s m (([.ref h0] : List Value).toArray) below meth c H locs 0 0 Q (F0 m 15 ls []) := by
      intro n
      induction n with
      | zero =>
        intro ca_l H locs hm
        exact absurd hm (Nat.not_lt_zero _)
      | succ n ih_15 =>
        intro ca_l H locs hm_15  hP hD hS ls hl
        refine lv_aload_n hx hb dX0_passName_15 rfl (lv_at hl 0 rfl) ?_
        refine va_get (D := D) (ci := 0) (v := .int ca_l) (C := RX0) (T := TX0) (N := 5) hx hb hts inX0 hown hK hP 0 rfl rfl 2 (by decide) (hts (Cond.fieldLink "NestedTags$Cursor" 25 "NestedTags$Cursor" "at" "I") kk_1_28) (fun _ h9 => h9) rfl dX0_passName_16 ?_
        refine lv_aload_n hx hb dX0_passName_19 rfl (lv_at hl 0 rfl) ?_
        refine va_get (D := D) (ci := 0) (v := .int ln) (C := RX0) (T := TX0) (N := 5) hx hb hts inX0 hown hK hP 0 rfl rfl 1 (by decide) (hts (Cond.fieldLink "NestedTags$Cursor" 22 "NestedTags$Cursor" "length" "I") kk_1_26) (fun _ h9 => h9) rfl dX0_passName_20 ?_
        refine lv_icmp_ge (tgt := 49) hx hb dX0_passName_23 (by decide) (fun c_23 => ?_) (fun c_23 => ?_)
        · skip
          refine lv_iconst (v := 1) hx hb dX0_passName_49 (by decide) ?_
          have hP9 := hP.sub (ws' := [(h0, .inr (0, [.ref b0, .int ln, .int ca_l, .int fa, .int fp])), (b0, .inl (cI, 500, .inl g))]) [0, 1] rfl
          have hD9 := hD.sub (ws' := [(h0, .inr (0, [.ref b0, .int ln, .int ca_l, .int fa, .int fp])), (b0, .inl (cI, 500, .inl g))]) [0, 1] (by decide) rfl
          rw [← hQ]
          exact W.zret (v := 1) (ty := .boolean) hx hb hr rfl (fun t ht hW => ⟨⟨1, (ca_l, fa, fp), rfl, Or.inr rfl, by rw [ht]; exact hP9, va_K.moved hW.alike hK, hD9⟩, hS.F ht⟩) hS.2.2 dX0_passName_50
        · skip
          refine lv_aload_n hx hb dX0_passName_26 rfl (lv_at hl 0 rfl) ?_
          refine gcall_i (va_runV (As := []) (rest := []) ⟨hx, hb, hml, hown, hts⟩ (c_X0_here l D cI V h0 b0 ln ca_l fa fp g H.size ) (cwV 0 hts (tb_goodV kk_1_210 kk_1_172 kk_1_173 kk_1_2 kk_1_174) rfl rfl rfl (hdV_X0_here) ⟨Nat.le_of_ble_eq_true rfl, Nat.le_of_ble_eq_true rfl⟩) (gpreV hK hN hV hS hA hP hD [0, 1] rfl rfl (by decide) (va_recv hK hP (ci := 0) (q0 := 0) rfl rfl)) rfl rfl hl.1 rfl (lv_room (Nat.le_of_ble_eq_true rfl)) dX0_passName_27 ⟨Nat.le_of_ble_eq_true rfl, Nat.le_of_ble_eq_true rfl⟩) hP hD hS hA [0, 1] [] (wr := []) rfl rfl (by decide) (by decide) (fun r_5 u_6 H locs hw_27 hP hD hS => ?_)
          try dsimp only at hw_27
          have hP : va_P D classes [(h0, .inr (0, [.ref b0, .int ln, .int ca_l, .int fa, .int fp])), (b0, .inl (cI, 500, .inl g))] H := hP
          have hD : va_D A [(h0, .inr (0, [.ref b0, .int ln, .int ca_l, .int fa, .int fp])), (b0, .inl (cI, 500, .inl g))] := hD
          refine gcall_i (va_runSN (As := [.int r_5]) (rest := []) ⟨hx, hb, hml, hown, hts⟩ (c_X3_isNamePart l D cI V  H.size r_5) ⟨(va_cnB 1 hts (tb_good kk_2_45) rfl rfl rfl (nvm_2 hN) (hts (Cond.initialized "NestedTags") kk_1_1) (hdS_X3_isNamePart) ⟨Nat.le_of_ble_eq_true rfl, Nat.le_of_ble_eq_true rfl⟩), (hts (Cond.static yX3_isNamePart) kk_2_44), trivial⟩ (gpreS hK hN hV hS hA hP hD [] rfl rfl (by decide)) rfl rfl hl.1 rfl (lv_room (Nat.le_of_ble_eq_true rfl)) dX0_passName_30 ⟨Nat.le_of_ble_eq_true rfl, Nat.le_of_ble_eq_true rfl⟩) hP hD hS hA [] [0, 1] (wr := [(h0, .inr (0, [.ref b0, .int ln, .int ca_l, .int fa, .int fp])), (b0, .inl (cI, 500, .inl g))]) rfl rfl (by decide) (by decide) (fun r_7 u_8 H locs hw_30 hP hD hS => ?_)
          try dsimp only at hw_30
          have hP : va_P D classes [(h0, .inr (0, [.ref b0, .int ln, .int ca_l, .int fa, .int fp])), (b0, .inl (cI, 500, .inl g))] H := hP
          have hD : va_D A [(h0, .inr (0, [.ref b0, .int ln, .int ca_l, .int fa, .int fp])), (b0, .inl (cI, 500, .inl g))] := hD
          refine lv_if_eq (tgt := 49) hx hb dX0_passName_33 (by decide) (fun c_33 => ?_) (fun c_33 => ?_)
          · skip
            refine lv_iconst (v := 1) hx hb dX0_passName_49 (by decide) ?_
            have hP9 := hP.sub (ws' := [(h0, .inr (0, [.ref b0, .int ln, .int ca_l, .int fa, .int fp])), (b0, .inl (cI, 500, .inl g))]) [0, 1] rfl
            have hD9 := hD.sub (ws' := [(h0, .inr (0, [.ref b0, .int ln, .int ca_l, .int fa, .int fp])), (b0, .inl (cI, 500, .inl g))]) [0, 1] (by decide) rfl
            rw [← hQ]
            exact W.zret (v := 1) (ty := .boolean) hx hb hr rfl (fun t ht hW => ⟨⟨1, (ca_l, fa, fp), rfl, Or.inr rfl, by rw [ht]; exact hP9, va_K.moved hW.alike hK, hD9⟩, hS.F ht⟩) hS.2.2 dX0_passName_50
          · skip
            refine lv_aload_n hx hb dX0_passName_36 rfl (lv_at hl 0 rfl) ?_
            refine lv_dup hx hb dX0_passName_37 rfl ?_
            refine va_get (D := D) (ci := 0) (v := .int ca_l) (C := RX0) (T := TX0) (N := 5) hx hb hts inX0 hown hK hP 0 rfl rfl 2 (by decide) (hts (Cond.fieldLink "NestedTags$Cursor" 25 "NestedTags$Cursor" "at" "I") kk_1_28) (fun _ h9 => h9) rfl dX0_passName_38 ?_
            refine lv_iconst (v := 1) hx hb dX0_passName_41 (by decide) ?_
            refine lv_iadd hx hb dX0_passName_42 ?_
            refine lv_topi (fun x_9 ex_9 => ?_)
            refine va_put (D := D) (ci := 0) (v := .int x_9) (ty := .int) (C := RX0) (T := TX0) (N := 5) hx hb hts inX0 tyX0 tyX0_ok nmX0 hown hK hP hD hS 0 rfl rfl 2 (by decide) (hts (Cond.fieldLink "NestedTags$Cursor" 25 "NestedTags$Cursor" "at" "I") kk_1_28) (fun _ h9 => h9) rfl (tyX0_ok 2 (by decide)) rfl rfl (Nat.le_of_ble_eq_true rfl) dX0_passName_43 (fun H locs hP hD hS => ?_)
            have hP : va_P D classes [(h0, .inr (0, [.ref b0, .int ln, .int x_9, .int fa, .int fp])), (b0, .inl (cI, 500, .inl g))] H := hP
            have hD : va_D A [(h0, .inr (0, [.ref b0, .int ln, .int x_9, .int fa, .int fp])), (b0, .inl (cI, 500, .inl g))] := hD
            refine lv_goto (tgt := 15) hx hb dX0_passName_46 (by decide) ?_
            exact ih_15 x_9 _ _ (mu_up c_23 ex_9 hm_15)  (hP.sub [0, 1] rfl) (hD.sub [0, 1] (by decide) rfl) hS ls (lv_sub hl [0] rfl)
    exact loop_15 _ ca _ _ (Nat.lt_succ_self _)  hP hD hS ls hl
  · skip
    refine lv_aload_n hx hb dX0_passName_10 rfl (lv_at hl 0 rfl) ?_
    refine gcall_i (va_runV (As := []) (rest := []) ⟨hx, hb, hml, hown, hts⟩ (c_X0_failHere_w l D cI V h0 b0 ln ca fa fp H.size ) (cwV 0 hts (tb_goodV kk_2_9 kk_2_10 kk_2_11 kk_1_2 kk_2_12) rfl rfl rfl (hdV_X0_failHere) ⟨Nat.le_of_ble_eq_true rfl, Nat.le_of_ble_eq_true rfl⟩) (gpreV hK hN hV hS hA hP hD [0] rfl rfl (by decide) (va_recv hK hP (ci := 0) (q0 := 0) rfl rfl)) rfl rfl hl.1 rfl (lv_room (Nat.le_of_ble_eq_true rfl)) dX0_passName_11 ⟨Nat.le_of_ble_eq_true rfl, Nat.le_of_ble_eq_true rfl⟩) hP hD hS hA [0] [1] (wr := [(b0, .inl (cI, 500, .inl g))]) rfl rfl (by decide) (by decide) (fun r_10 u_11 H locs hw_11 hP hD hS => ?_)
    try dsimp only at hw_11
    have hP : va_P D classes [(b0, .inl (cI, 500, .inl g)), (h0, .inr (0, [.ref b0, .int ln, .int ca, .int u_11.1, .int u_11.2]))] H := hP
    have hD : va_D A [(b0, .inl (cI, 500, .inl g)), (h0, .inr (0, [.ref b0, .int ln, .int ca, .int u_11.1, .int u_11.2]))] := hD
    have hP9 := hP.sub (ws' := [(h0, .inr (0, [.ref b0, .int ln, .int ca, .int u_11.1, .int u_11.2])), (b0, .inl (cI, 500, .inl g))]) [1, 0] rfl
    have hD9 := hD.sub (ws' := [(h0, .inr (0, [.ref b0, .int ln, .int ca, .int u_11.1, .int u_11.2])), (b0, .inl (cI, 500, .inl g))]) [1, 0] (by decide) rfl
    rw [← hQ]
    exact W.zret (v := r_10) (ty := .boolean) hx hb hr (nb01 hw_11) (fun t ht hW => ⟨⟨r_10, (ca, u_11.1, u_11.2), rfl, hw_11, by rw [ht]; exact hP9, va_K.moved hW.alike hK, hD9⟩, hS.F ht⟩) hS.2.2 dX0_passName_14

set_option maxHeartbeats 4000000 in
set_option maxRecDepth 100000 in
/-- X0_passNumber -/
theorem c_X0_passNumber (l : Launch) (D : va_G) (cI : ClassId) (V : (Nat → Nat) × (Nat → Nat)) (h0 : Nat) (b0 : Nat) (ln : Int32) (ca : Int32) (fa : Int32) (fp : Int32) (g : Nat → Int32) (sz : Nat) (p1 : Int32)  : Met l yX0_passNumber (.code yX0_passNumber cX0_passNumber 3 (some .int) :: tbW) ({ frames := 2, cells := 0, slots := 0, locals := 41 }) (va_Pc [.ref h0, .int p1] (gP D cI V [(h0, .inr (0, [.ref b0, .int ln, .int ca, .int fa, .int fp])), (b0, .inl (cI, 500, .inl g))] sz)) (va_Qi (fun (r : Int32) (u : Int32 × Int32 × Int32) => True) (fun u => gB D cI (va_A [(h0, .inr (0, [.ref b0, .int ln, .int ca, .int fa, .int fp])), (b0, .inl (cI, 500, .inl g))] sz) [(h0, .inr (0, [.ref b0, .int ln, .int u.1, .int u.2.1, .int u.2.2])), (b0, .inl (cI, 500, .inl g))]) (va_A [(h0, .inr (0, [.ref b0, .int ln, .int ca, .int fa, .int fp])), (b0, .inl (cI, 500, .inl g))] sz)) 0 0 (va_A [(h0, .inr (0, [.ref b0, .int ln, .int ca, .int fa, .int fp])), (b0, .inl (cI, 500, .inl g))] sz) := by
  refine Met.ofW (cc := cX0_passNumber) (maxL := 3) (ret := (some .int)) (by decide) rfl ?_
  intro p e s m args below meth c s₁ B hml hv
  obtain ⟨rfl, hsz, hP, hK, hD0, hN, hV⟩ := hv
  have hx := B.exec
  have hb := B.bytes
  have hr := B.returns
  have hts := tb_hts (atoms_spec (ws := .code yX0_passNumber cX0_passNumber 3 (some .int) :: tbW) B.pre)
  have hown : s.vm.findClass RX0 = some m.cls := findClass_of_methodNamed B.named
  have hlocks := B.notSynchronized
  subst hsz
  have hD := hD0.self (sz := s.heap.size)
  generalize hAe : va_A [(h0, .inr (0, [.ref b0, .int ln, .int ca, .int fa, .int fp])), (b0, .inl (cI, 500, .inl g))] s.heap.size = A at hD hV ⊢
  have hA : ∀ q : Nat, s.heap.size ≤ q → A q := fun q h => by rw [← hAe]; exact Or.inr h
  have hS : va_S A s.heap s.heap [] := va_S.rf
  have hP : va_P D classes [(h0, .inr (0, [.ref b0, .int ln, .int ca, .int fa, .int fp])), (b0, .inl (cI, 500, .inl g))] s.heap := hP
  have hl := lv_entry ([.ref h0, .int p1]) (n := 3) (Nat.le_of_ble_eq_true rfl)
  rw [lg_entry_eq]
  generalize (lg_sl ([.ref h0, .int p1]) ++ List.replicate (3 - (lg_sl ([.ref h0, .int p1])).length) Slot.unset).toArray = ls at hl ⊢
  have hl : lv_has ls 3 [(0, .ref h0), (1, .int p1)] := hl
  generalize hQ : MQ below (va_Qi (fun (r : Int32) (u : Int32 × Int32 × Int32) => True) (fun u => gB D cI A [(h0, .inr (0, [.ref b0, .int ln, .int u.1, .int u.2.1, .int u.2.2])), (b0, .inl (cI, 500, .inl g))]) A) (([.ref h0, .int p1] : List Value).toArray) s 0 0 A = Q
  refine lv_iconst (v := 0) hx hb dX0_passNumber_0 (by decide) ?_
  refine lv_istore_n (lv' := [(2, .int 0), (0, .ref h0), (1, .int p1)]) hx hb dX0_passNumber_1 rfl hl (by decide) rfl (fun ls hl => ?_)
  have loop_2 : ∀ (n : Nat) (ca_l : Int32) (x_l : Int32) (H : Heap) (locs : List Loc), (ln.toInt - ca_l.toInt).toNat < n → va_P D classes [(h0, .inr (0, [.ref b0, .int ln, .int ca_l, .int fa, .int fp])), (b0, .inl (cI, 500, .inl g))] H → va_D A [(h0, .inr (0, [.ref b0, .int ln, .int ca_l, .int fa, .int fp])), (b0, .inl (cI, 500, .inl g))] → va_S A s.heap H locs → ∀ (ls : Array Slot), lv_has ls 3 [(2, .int x_l), (0, .ref h0), (1, .int p1)] → W p l e (headSpec (.code yX0_passNumber cX0_passNumber 3 (some .int) :: tbW) { frames := 2, cells := 0, slots := 0, locals := 41 }).room s m (([.ref h0, .int p1] : List Value).toArray) below meth c H locs 0 0 Q (F0 m 2 ls []) := by
    intro n
    induction n with
    | zero =>
      intro ca_l x_l H locs hm
      exact absurd hm (Nat.not_lt_zero _)
    | succ n ih_2 =>
      intro ca_l x_l H locs hm_2  hP hD hS ls hl
      refine lv_aload_n hx hb dX0_passNumber_2 rfl (lv_at hl 1 rfl) ?_
      refine va_get (D := D) (ci := 0) (v := .int ca_l) (C := RX0) (T := TX0) (N := 5) hx hb hts inX0 hown hK hP 0 rfl rfl 2 (by decide) (hts (Cond.fieldLink "NestedTags$Cursor" 25 "NestedTags$Cursor" "at" "I") kk_1_28) (fun _ h9 => h9) rfl dX0_passNumber_3 ?_
      refine lv_aload_n hx hb dX0_passNumber_6 rfl (lv_at hl 1 rfl) ?_
      refine va_get (D := D) (ci := 0) (v := .int ln) (C := RX0) (T := TX0) (N := 5) hx hb hts inX0 hown hK hP 0 rfl rfl 1 (by decide) (hts (Cond.fieldLink "NestedTags$Cursor" 22 "NestedTags$Cursor" "length" "I") kk_1_26) (fun _ h9 => h9) rfl dX0_passNumber_7 ?_
      refine lv_icmp_ge (tgt := 57) hx hb dX0_passNumber_10 (by decide) (fun c_10 => ?_) (fun c_10 => ?_)
      · skip
        refine lv_iload_n hx hb dX0_passNumber_57 rfl (lv_at hl 0 rfl) ?_
        have hP9 := hP.sub (ws' := [(h0, .inr (0, [.ref b0, .int ln, .int ca_l, .int fa, .int fp])), (b0, .inl (cI, 500, .inl g))]) [0, 1] rfl
        have hD9 := hD.sub (ws' := [(h0, .inr (0, [.ref b0, .int ln, .int ca_l, .int fa, .int fp])), (b0, .inl (cI, 500, .inl g))]) [0, 1] (by decide) rfl
        rw [← hQ]
        exact W.iret (v := x_l) hx hb hr (fun t ht hW => ⟨⟨x_l, (ca_l, fa, fp), rfl, trivial, by rw [ht]; exact hP9, va_K.moved hW.alike hK, hD9⟩, hS.F ht⟩) hS.2.2 dX0_passNumber_58
      · skip
        refine lv_aload_n hx hb dX0_passNumber_13 rfl (lv_at hl 1 rfl) ?_
        refine gcall_i (va_runV (As := []) (rest := []) ⟨hx, hb, hml, hown, hts⟩ (c_X0_here l D cI V h0 b0 ln ca_l fa fp g H.size ) (cwV 0 hts (tb_goodV kk_1_210 kk_1_172 kk_1_173 kk_1_2 kk_1_174) rfl rfl rfl (hdV_X0_here) ⟨Nat.le_of_ble_eq_true rfl, Nat.le_of_ble_eq_true rfl⟩) (gpreV hK hN hV hS hA hP hD [0, 1] rfl rfl (by decide) (va_recv hK hP (ci := 0) (q0 := 0) rfl rfl)) rfl rfl hl.1 rfl (lv_room (Nat.le_of_ble_eq_true rfl)) dX0_passNumber_14 ⟨Nat.le_of_ble_eq_true rfl, Nat.le_of_ble_eq_true rfl⟩) hP hD hS hA [0, 1] [] (wr := []) rfl rfl (by decide) (by decide) (fun r_1 u_2 H locs hw_14 hP hD hS => ?_)
        try dsimp only at hw_14
        have hP : va_P D classes [(h0, .inr (0, [.ref b0, .int ln, .int ca_l, .int fa, .int fp])), (b0, .inl (cI, 500, .inl g))] H := hP
        have hD : va_D A [(h0, .inr (0, [.ref b0, .int ln, .int ca_l, .int fa, .int fp])), (b0, .inl (cI, 500, .inl g))] := hD
        refine lv_iload_n hx hb dX0_passNumber_17 rfl (lv_at hl 2 rfl) ?_
        refine gcall_i (va_runSN (As := [.int r_1, .int p1]) (rest := []) ⟨hx, hb, hml, hown, hts⟩ (c_X3_digitOf l D cI V  H.size r_1 p1) ⟨(va_cnB 2 hts (tb_good kk_2_24) rfl rfl rfl (nvm_0 hN) (hts (Cond.initialized "NestedTags") kk_1_1) (hdS_X3_digitOf) ⟨Nat.le_of_ble_eq_true rfl, Nat.le_of_ble_eq_true rfl⟩), (hts (Cond.static yX3_digitOf) kk_2_23), trivial⟩ (gpreS hK hN hV hS hA hP hD [] rfl rfl (by decide)) rfl rfl hl.1 rfl (lv_room (Nat.le_of_ble_eq_true rfl)) dX0_passNumber_18 ⟨Nat.le_of_ble_eq_true rfl, Nat.le_of_ble_eq_true rfl⟩) hP hD hS hA [] [0, 1] (wr := [(h0, .inr (0, [.ref b0, .int ln, .int ca_l, .int fa, .int fp])), (b0, .inl (cI, 500, .inl g))]) rfl rfl (by decide) (by decide) (fun r_3 u_4 H locs hw_18 hP hD hS => ?_)
        try dsimp only at hw_18
        have hP : va_P D classes [(h0, .inr (0, [.ref b0, .int ln, .int ca_l, .int fa, .int fp])), (b0, .inl (cI, 500, .inl g))] H := hP
        have hD : va_D A [(h0, .inr (0, [.ref b0, .int ln, .int ca_l, .int fa, .int fp])), (b0, .inl (cI, 500, .inl g))] := hD
        refine lv_iconst (v := (-1)) hx hb dX0_passNumber_21 (by decide) ?_
        refine lv_icmp_eq (tgt := 57) hx hb dX0_passNumber_22 (by decide) (fun c_22 => ?_) (fun c_22 => ?_)
        · skip
          refine lv_iload_n hx hb dX0_passNumber_57 rfl (lv_at hl 0 rfl) ?_
          have hP9 := hP.sub (ws' := [(h0, .inr (0, [.ref b0, .int ln, .int ca_l, .int fa, .int fp])), (b0, .inl (cI, 500, .inl g))]) [0, 1] rfl
          have hD9 := hD.sub (ws' := [(h0, .inr (0, [.ref b0, .int ln, .int ca_l, .int fa, .int fp])), (b0, .inl (cI, 500, .inl g))]) [0, 1] (by decide) rfl
          rw [← hQ]
          exact W.iret (v := x_l) hx hb hr (fun t ht hW => ⟨⟨x_l, (ca_l, fa, fp), rfl, trivial, by rw [ht]; exact hP9, va_K.moved hW.alike hK, hD9⟩, hS.F ht⟩) hS.2.2 dX0_passNumber_58
        · skip
          refine lv_iload_n hx hb dX0_passNumber_25 rfl (lv_at hl 0 rfl) ?_
          refine lv_iload_n hx hb dX0_passNumber_26 rfl (lv_at hl 2 rfl) ?_
          refine lv_imul hx hb dX0_passNumber_27 ?_
          refine lv_topi (fun x_5 ex_5 => ?_)
          refine lv_aload_n hx hb dX0_passNumber_28 rfl (lv_at hl 1 rfl) ?_
          refine gcall_i (va_runV (As := []) (rest := [.int x_5]) ⟨hx, hb, hml, hown, hts⟩ (c_X0_here l D cI V h0 b0 ln ca_l fa fp g H.size ) (cwV 0 hts (tb_goodV kk_1_210 kk_1_172 kk_1_173 kk_1_2 kk_1_174) rfl rfl rfl (hdV_X0_here) ⟨Nat.le_of_ble_eq_true rfl, Nat.le_of_ble_eq_true rfl⟩) (gpreV hK hN hV hS hA hP hD [0, 1] rfl rfl (by decide) (va_recv hK hP (ci := 0) (q0 := 0) rfl rfl)) rfl rfl hl.1 rfl (lv_room (Nat.le_of_ble_eq_true rfl)) dX0_passNumber_29 ⟨Nat.le_of_ble_eq_true rfl, Nat.le_of_ble_eq_true rfl⟩) hP hD hS hA [0, 1] [] (wr := []) rfl rfl (by decide) (by decide) (fun r_6 u_7 H locs hw_29 hP hD hS => ?_)
          try dsimp only at hw_29
          have hP : va_P D classes [(h0, .inr (0, [.ref b0, .int ln, .int ca_l, .int fa, .int fp])), (b0, .inl (cI, 500, .inl g))] H := hP
          have hD : va_D A [(h0, .inr (0, [.ref b0, .int ln, .int ca_l, .int fa, .int fp])), (b0, .inl (cI, 500, .inl g))] := hD
          refine lv_iload_n hx hb dX0_passNumber_32 rfl (lv_at hl 2 rfl) ?_
          refine gcall_i (va_runSN (As := [.int r_6, .int p1]) (rest := [.int x_5]) ⟨hx, hb, hml, hown, hts⟩ (c_X3_digitOf l D cI V  H.size r_6 p1) ⟨(va_cnB 2 hts (tb_good kk_2_24) rfl rfl rfl (nvm_0 hN) (hts (Cond.initialized "NestedTags") kk_1_1) (hdS_X3_digitOf) ⟨Nat.le_of_ble_eq_true rfl, Nat.le_of_ble_eq_true rfl⟩), (hts (Cond.static yX3_digitOf) kk_2_23), trivial⟩ (gpreS hK hN hV hS hA hP hD [] rfl rfl (by decide)) rfl rfl hl.1 rfl (lv_room (Nat.le_of_ble_eq_true rfl)) dX0_passNumber_33 ⟨Nat.le_of_ble_eq_true rfl, Nat.le_of_ble_eq_true rfl⟩) hP hD hS hA [] [0, 1] (wr := [(h0, .inr (0, [.ref b0, .int ln, .int ca_l, .int fa, .int fp])), (b0, .inl (cI, 500, .inl g))]) rfl rfl (by decide) (by decide) (fun r_8 u_9 H locs hw_33 hP hD hS => ?_)
          try dsimp only at hw_33
          have hP : va_P D classes [(h0, .inr (0, [.ref b0, .int ln, .int ca_l, .int fa, .int fp])), (b0, .inl (cI, 500, .inl g))] H := hP
          have hD : va_D A [(h0, .inr (0, [.ref b0, .int ln, .int ca_l, .int fa, .int fp])), (b0, .inl (cI, 500, .inl g))] := hD
          refine lv_iadd hx hb dX0_passNumber_36 ?_
          refine lv_topi (fun x_10 ex_10 => ?_)
          refine lv_sipush (v := 1000) hx hb dX0_passNumber_37 (by decide) ?_
          refine va_mmin hx hb (by rw [hml, hl.1]) hown (hts (Cond.methodLink "NestedTags$Cursor" 70 Lib.Math.min.name) kk_2_25) (hts (Cond.static Lib.Math.min.name) kk_2_26) (hts (Cond.initialized "java/lang/Math") kk_1_5) (hts _ kk_mmin) (Nat.le_of_ble_eq_true rfl) (Nat.le_of_ble_eq_true rfl) (Nat.le_of_ble_eq_true rfl) (Nat.le_of_ble_eq_true rfl) dX0_passNumber_40 ?_
          refine lv_topi (fun x_11 ex_11 => ?_)
          refine lv_istore_n (lv' := [(2, .int x_11), (0, .ref h0), (1, .int p1)]) hx hb dX0_passNumber_43 rfl hl (by decide) rfl (fun ls hl => ?_)
          refine lv_aload_n hx hb dX0_passNumber_44 rfl (lv_at hl 1 rfl) ?_
          refine lv_dup hx hb dX0_passNumber_45 rfl ?_
          refine va_get (D := D) (ci := 0) (v := .int ca_l) (C := RX0) (T := TX0) (N := 5) hx hb hts inX0 hown hK hP 0 rfl rfl 2 (by decide) (hts (Cond.fieldLink "NestedTags$Cursor" 25 "NestedTags$Cursor" "at" "I") kk_1_28) (fun _ h9 => h9) rfl dX0_passNumber_46 ?_
          refine lv_iconst (v := 1) hx hb dX0_passNumber_49 (by decide) ?_
          refine lv_iadd hx hb dX0_passNumber_50 ?_
          refine lv_topi (fun x_12 ex_12 => ?_)
          refine va_put (D := D) (ci := 0) (v := .int x_12) (ty := .int) (C := RX0) (T := TX0) (N := 5) hx hb hts inX0 tyX0 tyX0_ok nmX0 hown hK hP hD hS 0 rfl rfl 2 (by decide) (hts (Cond.fieldLink "NestedTags$Cursor" 25 "NestedTags$Cursor" "at" "I") kk_1_28) (fun _ h9 => h9) rfl (tyX0_ok 2 (by decide)) rfl rfl (Nat.le_of_ble_eq_true rfl) dX0_passNumber_51 (fun H locs hP hD hS => ?_)
          have hP : va_P D classes [(h0, .inr (0, [.ref b0, .int ln, .int x_12, .int fa, .int fp])), (b0, .inl (cI, 500, .inl g))] H := hP
          have hD : va_D A [(h0, .inr (0, [.ref b0, .int ln, .int x_12, .int fa, .int fp])), (b0, .inl (cI, 500, .inl g))] := hD
          refine lv_goto (tgt := 2) hx hb dX0_passNumber_54 (by decide) ?_
          exact ih_2 x_12 x_11 _ _ (mu_up c_10 ex_12 hm_2)  (hP.sub [0, 1] rfl) (hD.sub [0, 1] (by decide) rfl) hS ls (lv_sub hl [0, 1, 2] rfl)
  exact loop_2 _ ca 0 _ _ (Nat.lt_succ_self _)  hP hD hS ls hl

set_option maxHeartbeats 4000000 in
set_option maxRecDepth 100000 in
/-- X0_passUntil -/
theorem c_X0_passUntil (l : Launch) (D : va_G) (cI : ClassId) (V : (Nat → Nat) × (Nat → Nat)) (h0 : Nat) (b0 : Nat) (ln : Int32) (ca : Int32) (fa : Int32) (fp : Int32) (g : Nat → Int32) (wi : Nat) (sz : Nat)  (hwi : wi < 19) : Met l yX0_passUntil (.code yX0_passUntil cX0_passUntil 2 (some .boolean) :: tbW) ({ frames := 5, cells := 0, slots := 0, locals := 108 }) (va_Pc [.ref h0, .ref (V.1 wi)] (gP D cI V [(h0, .inr (0, [.ref b0, .int ln, .int ca, .int fa, .int fp])), (b0, .inl (cI, 500, .inl g))] sz)) (va_Qi (fun (r : Int32) (u : Int32 × Int32 × Int32) => r = 0 ∨ r = 1) (fun u => gB D cI (va_A [(h0, .inr (0, [.ref b0, .int ln, .int ca, .int fa, .int fp])), (b0, .inl (cI, 500, .inl g))] sz) [(h0, .inr (0, [.ref b0, .int ln, .int u.1, .int u.2.1, .int u.2.2])), (b0, .inl (cI, 500, .inl g))]) (va_A [(h0, .inr (0, [.ref b0, .int ln, .int ca, .int fa, .int fp])), (b0, .inl (cI, 500, .inl g))] sz)) 0 0 (va_A [(h0, .inr (0, [.ref b0, .int ln, .int ca, .int fa, .int fp])), (b0, .inl (cI, 500, .inl g))] sz) := by
  refine Met.ofW (cc := cX0_passUntil) (maxL := 2) (ret := (some .boolean)) (by decide) rfl ?_
  intro p e s m args below meth c s₁ B hml hv
  obtain ⟨rfl, hsz, hP, hK, hD0, hN, hV⟩ := hv
  have hx := B.exec
  have hb := B.bytes
  have hr := B.returns
  have hts := tb_hts (atoms_spec (ws := .code yX0_passUntil cX0_passUntil 2 (some .boolean) :: tbW) B.pre)
  have hown : s.vm.findClass RX0 = some m.cls := findClass_of_methodNamed B.named
  have hlocks := B.notSynchronized
  subst hsz
  have hD := hD0.self (sz := s.heap.size)
  generalize hAe : va_A [(h0, .inr (0, [.ref b0, .int ln, .int ca, .int fa, .int fp])), (b0, .inl (cI, 500, .inl g))] s.heap.size = A at hD hV ⊢
  have hA : ∀ q : Nat, s.heap.size ≤ q → A q := fun q h => by rw [← hAe]; exact Or.inr h
  have hS : va_S A s.heap s.heap [] := va_S.rf
  have hP : va_P D classes [(h0, .inr (0, [.ref b0, .int ln, .int ca, .int fa, .int fp])), (b0, .inl (cI, 500, .inl g))] s.heap := hP
  have hl := lv_entry ([.ref h0, .ref (V.1 wi)]) (n := 2) (Nat.le_of_ble_eq_true rfl)
  rw [lg_entry_eq]
  generalize (lg_sl ([.ref h0, .ref (V.1 wi)]) ++ List.replicate (2 - (lg_sl ([.ref h0, .ref (V.1 wi)])).length) Slot.unset).toArray = ls at hl ⊢
  have hl : lv_has ls 2 [(0, .ref h0), (1, .ref (V.1 wi))] := hl
  generalize hQ : MQ below (va_Qi (fun (r : Int32) (u : Int32 × Int32 × Int32) => r = 0 ∨ r = 1) (fun u => gB D cI A [(h0, .inr (0, [.ref b0, .int ln, .int u.1, .int u.2.1, .int u.2.2])), (b0, .inl (cI, 500, .inl g))]) A) (([.ref h0, .ref (V.1 wi)] : List Value).toArray) s 0 0 A = Q
  have loop_0 : ∀ (n : Nat) (ca_l : Int32) (H : Heap) (locs : List Loc), (ln.toInt - ca_l.toInt).toNat < n → va_P D classes [(h0, .inr (0, [.ref b0, .int ln, .int ca_l, .int fa, .int fp])), (b0, .inl (cI, 500, .inl g))] H → va_D A [(h0, .inr (0, [.ref b0, .int ln, .int ca_l, .int fa, .int fp])), (b0, .inl (cI, 500, .inl g))] → va_S A s.heap H locs → ∀ (ls : Array Slot), lv_has ls 2 [(0, .ref h0), (1, .ref (V.1 wi))] → W p l e (headSpec (.code yX0_passUntil cX0_passUntil 2 (some .boolean) :: tbW) { frames := 5, cells := 0, slots := 0, locals := 108 }).room s m (([.ref h0, .ref (V.1 wi)] : List Value).toArray) below meth c H locs 0 0 Q (F0 m 0 ls []) := by
    intro n
    induction n with
    | zero =>
      intro ca_l H locs hm
      exact absurd hm (Nat.not_lt_zero _)
    | succ n ih_0 =>
      intro ca_l H locs hm_0  hP hD hS ls hl
      refine lv_aload_n hx hb dX0_passUntil_0 rfl (lv_at hl 0 rfl) ?_
      refine va_get (D := D) (ci := 0) (v := .int ca_l) (C := RX0) (T := TX0) (N := 5) hx hb hts inX0 hown hK hP 0 rfl rfl 2 (by decide) (hts (Cond.fieldLink "NestedTags$Cursor" 25 "NestedTags$Cursor" "at" "I") kk_1_28) (fun _ h9 => h9) rfl dX0_passUntil_1 ?_
      refine lv_aload_n hx hb dX0_passUntil_4 rfl (lv_at hl 0 rfl) ?_
      refine va_get (D := D) (ci := 0) (v := .int ln) (C := RX0) (T := TX0) (N := 5) hx hb hts inX0 hown hK hP 0 rfl rfl 1 (by decide) (hts (Cond.fieldLink "NestedTags$Cursor" 22 "NestedTags$Cursor" "length" "I") kk_1_26) (fun _ h9 => h9) rfl dX0_passUntil_5 ?_
      refine lv_icmp_ge (tgt := 51) hx hb dX0_passUntil_8 (by decide) (fun c_8 => ?_) (fun c_8 => ?_)
      · skip
        refine lv_aload_n hx hb dX0_passUntil_51 rfl (lv_at hl 0 rfl) ?_
        refine lv_aload_n hx hb dX0_passUntil_52 rfl (lv_at hl 1 rfl) ?_
        refine gcall_i (va_runV (As := [.ref (V.1 wi)]) (rest := []) ⟨hx, hb, hml, hown, hts⟩ (c_X0_expect l D cI V h0 b0 ln ca_l fa fp g wi H.size  hwi) (cwV 1 hts (tb_goodV kk_2_140 kk_1_197 kk_1_198 kk_1_2 kk_1_199) rfl rfl rfl (hdV_X0_expect) ⟨Nat.le_of_ble_eq_true rfl, Nat.le_of_ble_eq_true rfl⟩) (gpreV hK hN hV hS hA hP hD [0, 1] rfl rfl (by decide) (va_recv hK hP (ci := 0) (q0 := 0) rfl rfl)) rfl rfl hl.1 rfl (lv_room (Nat.le_of_ble_eq_true rfl)) dX0_passUntil_53 ⟨Nat.le_of_ble_eq_true rfl, Nat.le_of_ble_eq_true rfl⟩) hP hD hS hA [0, 1] [] (wr := []) rfl rfl (by decide) (by decide) (fun r_1 u_2 H locs hw_53 hP hD hS => ?_)
        try dsimp only at hw_53
        have hP : va_P D classes [(h0, .inr (0, [.ref b0, .int ln, .int u_2.1, .int u_2.2.1, .int u_2.2.2])), (b0, .inl (cI, 500, .inl g))] H := hP
        have hD : va_D A [(h0, .inr (0, [.ref b0, .int ln, .int u_2.1, .int u_2.2.1, .int u_2.2.2])), (b0, .inl (cI, 500, .inl g))] := hD
        have hP9 := hP.sub (ws' := [(h0, .inr (0, [.ref b0, .int ln, .int u_2.1, .int u_2.2.1, .int u_2.2.2])), (b0, .inl (cI, 500, .inl g))]) [0, 1] rfl
        have hD9 := hD.sub (ws' := [(h0, .inr (0, [.ref b0, .int ln, .int u_2.1, .int u_2.2.1, .int u_2.2.2])), (b0, .inl (cI, 500, .inl g))]) [0, 1] (by decide) rfl
        rw [← hQ]
        exact W.zret (v := r_1) (ty := .boolean) hx hb hr (nb01 hw_53) (fun t ht hW => ⟨⟨r_1, (u_2.1, u_2.2.1, u_2.2.2), rfl, hw_53, by rw [ht]; exact hP9, va_K.moved hW.alike hK, hD9⟩, hS.F ht⟩) hS.2.2 dX0_passUntil_56
      · skip
        refine lv_aload_n hx hb dX0_passUntil_11 rfl (lv_at hl 0 rfl) ?_
        refine lv_aload_n hx hb dX0_passUntil_12 rfl (lv_at hl 1 rfl) ?_
        refine lv_aload_n hx hb dX0_passUntil_13 rfl (lv_at hl 0 rfl) ?_
        refine va_get (D := D) (ci := 0) (v := .int ca_l) (C := RX0) (T := TX0) (N := 5) hx hb hts inX0 hown hK hP 0 rfl rfl 2 (by decide) (hts (Cond.fieldLink "NestedTags$Cursor" 25 "NestedTags$Cursor" "at" "I") kk_1_28) (fun _ h9 => h9) rfl dX0_passUntil_14 ?_
        refine gcall_i (va_runV (As := [.ref (V.1 wi), .int ca_l]) (rest := []) ⟨hx, hb, hml, hown, hts⟩ (c_X0_standsAt l D cI V h0 b0 ln ca_l fa fp g wi H.size ca_l hwi) (cwV 2 hts (tb_goodV kk_2_56 kk_2_57 kk_2_58 kk_1_2 kk_2_59) rfl rfl rfl (hdV_X0_standsAt) ⟨Nat.le_of_ble_eq_true rfl, Nat.le_of_ble_eq_true rfl⟩) (gpreV hK hN hV hS hA hP hD [0, 1] rfl rfl (by decide) (va_recv hK hP (ci := 0) (q0 := 0) rfl rfl)) rfl rfl hl.1 rfl (lv_room (Nat.le_of_ble_eq_true rfl)) dX0_passUntil_17 ⟨Nat.le_of_ble_eq_true rfl, Nat.le_of_ble_eq_true rfl⟩) hP hD hS hA [0, 1] [] (wr := []) rfl rfl (by decide) (by decide) (fun r_3 u_4 H locs hw_17 hP hD hS => ?_)
        try dsimp only at hw_17
        have hP : va_P D classes [(h0, .inr (0, [.ref b0, .int ln, .int ca_l, .int fa, .int fp])), (b0, .inl (cI, 500, .inl g))] H := hP
        have hD : va_D A [(h0, .inr (0, [.ref b0, .int ln, .int ca_l, .int fa, .int fp])), (b0, .inl (cI, 500, .inl g))] := hD
        refine lv_if_ne (tgt := 51) hx hb dX0_passUntil_20 (by decide) (fun c_20 => ?_) (fun c_20 => ?_)
        · skip
          refine lv_aload_n hx hb dX0_passUntil_51 rfl (lv_at hl 0 rfl) ?_
          refine lv_aload_n hx hb dX0_passUntil_52 rfl (lv_at hl 1 rfl) ?_
          refine gcall_i (va_runV (As := [.ref (V.1 wi)]) (rest := []) ⟨hx, hb, hml, hown, hts⟩ (c_X0_expect l D cI V h0 b0 ln ca_l fa fp g wi H.size  hwi) (cwV 1 hts (tb_goodV kk_2_140 kk_1_197 kk_1_198 kk_1_2 kk_1_199) rfl rfl rfl (hdV_X0_expect) ⟨Nat.le_of_ble_eq_true rfl, Nat.le_of_ble_eq_true rfl⟩) (gpreV hK hN hV hS hA hP hD [0, 1] rfl rfl (by decide) (va_recv hK hP (ci := 0) (q0 := 0) rfl rfl)) rfl rfl hl.1 rfl (lv_room (Nat.le_of_ble_eq_true rfl)) dX0_passUntil_53 ⟨Nat.le_of_ble_eq_true rfl, Nat.le_of_ble_eq_true rfl⟩) hP hD hS hA [0, 1] [] (wr := []) rfl rfl (by decide) (by decide) (fun r_5 u_6 H locs hw_53 hP hD hS => ?_)
          try dsimp only at hw_53
          have hP : va_P D classes [(h0, .inr (0, [.ref b0, .int ln, .int u_6.1, .int u_6.2.1, .int u_6.2.2])), (b0, .inl (cI, 500, .inl g))] H := hP
          have hD : va_D A [(h0, .inr (0, [.ref b0, .int ln, .int u_6.1, .int u_6.2.1, .int u_6.2.2])), (b0, .inl (cI, 500, .inl g))] := hD
          have hP9 := hP.sub (ws' := [(h0, .inr (0, [.ref b0, .int ln, .int u_6.1, .int u_6.2.1, .int u_6.2.2])), (b0, .inl (cI, 500, .inl g))]) [0, 1] rfl
          have hD9 := hD.sub (ws' := [(h0, .inr (0, [.ref b0, .int ln, .int u_6.1, .int u_6.2.1, .int u_6.2.2])), (b0, .inl (cI, 500, .inl g))]) [0, 1] (by decide) rfl
          rw [← hQ]
          exact W.zret (v := r_5) (ty := .boolean) hx hb hr (nb01 hw_53) (fun t ht hW => ⟨⟨r_5, (u_6.1, u_6.2.1, u_6.2.2), rfl, hw_53, by rw [ht]; exact hP9, va_K.moved hW.alike hK, hD9⟩, hS.F ht⟩) hS.2.2 dX0_passUntil_56
        · skip
          refine lv_aload_n hx hb dX0_passUntil_23 rfl (lv_at hl 0 rfl) ?_
          refine gcall_i (va_runV (As := []) (rest := []) ⟨hx, hb, hml, hown, hts⟩ (c_X0_here l D cI V h0 b0 ln ca_l fa fp g H.size ) (cwV 0 hts (tb_goodV kk_1_210 kk_1_172 kk_1_173 kk_1_2 kk_1_174) rfl rfl rfl (hdV_X0_here) ⟨Nat.le_of_ble_eq_true rfl, Nat.le_of_ble_eq_true rfl⟩) (gpreV hK hN hV hS hA hP hD [0, 1] rfl rfl (by decide) (va_recv hK hP (ci := 0) (q0 := 0) rfl rfl)) rfl rfl hl.1 rfl (lv_room (Nat.le_of_ble_eq_true rfl)) dX0_passUntil_24 ⟨Nat.le_of_ble_eq_true rfl, Nat.le_of_ble_eq_true rfl⟩) hP hD hS hA [0, 1] [] (wr := []) rfl rfl (by decide) (by decide) (fun r_7 u_8 H locs hw_24 hP hD hS => ?_)
          try dsimp only at hw_24
          have hP : va_P D classes [(h0, .inr (0, [.ref b0, .int ln, .int ca_l, .int fa, .int fp])), (b0, .inl (cI, 500, .inl g))] H := hP
          have hD : va_D A [(h0, .inr (0, [.ref b0, .int ln, .int ca_l, .int fa, .int fp])), (b0, .inl (cI, 500, .inl g))] := hD
          refine gcall_i (va_runSN (As := [.int r_7]) (rest := []) ⟨hx, hb, hml, hown, hts⟩ (c_X3_isCharacter l D cI V  H.size r_7) ⟨(va_cnB 1 hts (tb_good kk_2_32) rfl rfl rfl (nvm_4 hN) (hts (Cond.initialized "NestedTags") kk_1_1) (hdS_X3_isCharacter) ⟨Nat.le_of_ble_eq_true rfl, Nat.le_of_ble_eq_true rfl⟩), (hts (Cond.static yX3_isCharacter) kk_2_31), trivial⟩ (gpreS hK hN hV hS hA hP hD [] rfl rfl (by decide)) rfl rfl hl.1 rfl (lv_room (Nat.le_of_ble_eq_true rfl)) dX0_passUntil_27 ⟨Nat.le_of_ble_eq_true rfl, Nat.le_of_ble_eq_true rfl⟩) hP hD hS hA [] [0, 1] (wr := [(h0, .inr (0, [.ref b0, .int ln, .int ca_l, .int fa, .int fp])), (b0, .inl (cI, 500, .inl g))]) rfl rfl (by decide) (by decide) (fun r_9 u_10 H locs hw_27 hP hD hS => ?_)
          try dsimp only at hw_27
          have hP : va_P D classes [(h0, .inr (0, [.ref b0, .int ln, .int ca_l, .int fa, .int fp])), (b0, .inl (cI, 500, .inl g))] H := hP
          have hD : va_D A [(h0, .inr (0, [.ref b0, .int ln, .int ca_l, .int fa, .int fp])), (b0, .inl (cI, 500, .inl g))] := hD
          refine lv_if_ne (tgt := 38) hx hb dX0_passUntil_30 (by decide) (fun c_30 => ?_) (fun c_30 => ?_)
          · skip
            refine lv_aload_n hx hb dX0_passUntil_38 rfl (lv_at hl 0 rfl) ?_
            refine lv_dup hx hb dX0_passUntil_39 rfl ?_
            refine va_get (D := D) (ci := 0) (v := .int ca_l) (C := RX0) (T := TX0) (N := 5) hx hb hts inX0 hown hK hP 0 rfl rfl 2 (by decide) (hts (Cond.fieldLink "NestedTags$Cursor" 25 "NestedTags$Cursor" "at" "I") kk_1_28) (fun _ h9 => h9) rfl dX0_passUntil_40 ?_
            refine lv_iconst (v := 1) hx hb dX0_passUntil_43 (by decide) ?_
            refine lv_iadd hx hb dX0_passUntil_44 ?_
            refine lv_topi (fun x_11 ex_11 => ?_)
            refine va_put (D := D) (ci := 0) (v := .int x_11) (ty := .int) (C := RX0) (T := TX0) (N := 5) hx hb hts inX0 tyX0 tyX0_ok nmX0 hown hK hP hD hS 0 rfl rfl 2 (by decide) (hts (Cond.fieldLink "NestedTags$Cursor" 25 "NestedTags$Cursor" "at" "I") kk_1_28) (fun _ h9 => h9) rfl (tyX0_ok 2 (by decide)) rfl rfl (Nat.le_of_ble_eq_true rfl) dX0_passUntil_45 (fun H locs hP hD hS => ?_)
            have hP : va_P D classes [(h0, .inr (0, [.ref b0, .int ln, .int x_11, .int fa, .int fp])), (b0, .inl (cI, 500, .inl g))] H := hP
            have hD : va_D A [(h0, .inr (0, [.ref b0, .int ln, .int x_11, .int fa, .int fp])), (b0, .inl (cI, 500, .inl g))] := hD
            refine lv_goto (tgt := 0) hx hb dX0_passUntil_48 (by decide) ?_
            exact ih_0 x_11 _ _ (mu_up c_8 ex_11 hm_0)  (hP.sub [0, 1] rfl) (hD.sub [0, 1] (by decide) rfl) hS ls (lv_sub hl [0, 1] rfl)
          · skip
            refine lv_aload_n hx hb dX0_passUntil_33 rfl (lv_at hl 0 rfl) ?_
            refine gcall_i (va_runV (As := []) (rest := []) ⟨hx, hb, hml, hown, hts⟩ (c_X0_failHere_w l D cI V h0 b0 ln ca_l fa fp H.size ) (cwV 0 hts (tb_goodV kk_2_9 kk_2_10 kk_2_11 kk_1_2 kk_2_12) rfl rfl rfl (hdV_X0_failHere) ⟨Nat.le_of_ble_eq_true rfl, Nat.le_of_ble_eq_true rfl⟩) (gpreV hK hN hV hS hA hP hD [0] rfl rfl (by decide) (va_recv hK hP (ci := 0) (q0 := 0) rfl rfl)) rfl rfl hl.1 rfl (lv_room (Nat.le_of_ble_eq_true rfl)) dX0_passUntil_34 ⟨Nat.le_of_ble_eq_true rfl, Nat.le_of_ble_eq_true rfl⟩) hP hD hS hA [0] [1] (wr := [(b0, .inl (cI, 500, .inl g))]) rfl rfl (by decide) (by decide) (fun r_12 u_13 H locs hw_34 hP hD hS => ?_)
            try dsimp only at hw_34
            have hP : va_P D classes [(b0, .inl (cI, 500, .inl g)), (h0, .inr (0, [.ref b0, .int ln, .int ca_l, .int u_13.1, .int u_13.2]))] H := hP
            have hD : va_D A [(b0, .inl (cI, 500, .inl g)), (h0, .inr (0, [.ref b0, .int ln, .int ca_l, .int u_13.1, .int u_13.2]))] := hD
            have hP9 := hP.sub (ws' := [(h0, .inr (0, [.ref b0, .int ln, .int ca_l, .int u_13.1, .int u_13.2])), (b0, .inl (cI, 500, .inl g))]) [1, 0] rfl
            have hD9 := hD.sub (ws' := [(h0, .inr (0, [.ref b0, .int ln, .int ca_l, .int u_13.1, .int u_13.2])), (b0, .inl (cI, 500, .inl g))]) [1, 0] (by decide) rfl
            rw [← hQ]
            exact W.zret (v := r_12) (ty := .boolean) hx hb hr (nb01 hw_34) (fun t ht hW => ⟨⟨r_12, (ca_l, u_13.1, u_13.2), rfl, hw_34, by rw [ht]; exact hP9, va_K.moved hW.alike hK, hD9⟩, hS.F ht⟩) hS.2.2 dX0_passUntil_37
  exact loop_0 _ ca _ _ (Nat.lt_succ_self _)  hP hD hS ls hl
