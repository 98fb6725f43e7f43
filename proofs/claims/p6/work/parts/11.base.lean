set_option maxHeartbeats 4000000 in
set_option maxRecDepth 100000 in
/-- Cursor(): a row of 500, no fault -/
theorem c_X0_init (l : Launch) (D : va_G) (cI : ClassId) (V : (Nat → Nat) × (Nat → Nat)) (h0 : Nat) (sz : Nat)   : Met l yX0_init (.code yX0_init cX0_init 1 none :: tbW) ({ frames := 1, cells := 1, slots := 500, locals := 12 }) (va_Pc [.ref h0] (gP D cI V [(h0, .inr (0, [.null, .int 0, .int 0, .int 0, .int 0]))] sz)) (va_Qv (fun (u : Nat) => True) (fun u => gB D cI (va_A [(h0, .inr (0, [.null, .int 0, .int 0, .int 0, .int 0]))] sz) [(h0, .inr (0, [.ref u, .int 0, .int 0, .int 0, .int (-1)])), (u, .inl (cI, 500, .inl (fun _ => 0)))]) (va_A [(h0, .inr (0, [.null, .int 0, .int 0, .int 0, .int 0]))] sz)) 1 500 (va_A [(h0, .inr (0, [.null, .int 0, .int 0, .int 0, .int 0]))] sz) := by
  refine Met.ofW (cc := cX0_init) (maxL := 1) (ret := none) (by decide) rfl ?_
  intro p e s m args below meth c s₁ B hml hv
  obtain ⟨rfl, hsz, hP, hK, hD0, hN, hV⟩ := hv
  have hx := B.exec
  have hb := B.bytes
  have hr := B.returns
  have hts := tb_hts (atoms_spec (ws := .code yX0_init cX0_init 1 none :: tbW) B.pre)
  have hown : s.vm.findClass RX0 = some m.cls := findClass_of_methodNamed B.named
  have hlocks := B.notSynchronized
  have hin : meth.name = "<init>" := (name_of_methodNamed B.named B.method).1
  subst hsz
  have hD := hD0.self (sz := s.heap.size)
  generalize hAe : va_A [(h0, .inr (0, [.null, .int 0, .int 0, .int 0, .int 0]))] s.heap.size = A at hD hV ⊢
  have hA : ∀ q : Nat, s.heap.size ≤ q → A q := fun q h => by rw [← hAe]; exact Or.inr h
  have hS : va_S A s.heap s.heap [] := va_S.rf
  have hP : va_P D classes [(h0, .inr (0, [.null, .int 0, .int 0, .int 0, .int 0]))] s.heap := hP
  have hl := lv_entry ([.ref h0]) (n := 1) (Nat.le_of_ble_eq_true rfl)
  rw [lg_entry_eq]
  generalize (lg_sl ([.ref h0]) ++ List.replicate (1 - (lg_sl ([.ref h0])).length) Slot.unset).toArray = ls at hl ⊢
  have hl : lv_has ls 1 [(0, .ref h0)] := hl
  refine lv_aload_n hx hb dX0_init_0 rfl (lv_at hl 0 rfl) ?_
  refine W.objInit hx hb hown (hts (Cond.methodLink "NestedTags$Cursor" 3 objectInit) kk_1_24) (hts (Cond.instanceMethod objectInit) kk_1_17) (hts _ kk_obj) rfl (by rw [hml]; exact hl.1) rfl dX0_init_1 (Nat.le_of_ble_eq_true rfl) (Nat.le_of_ble_eq_true rfl) ?_
  refine W.eq (g2 := F0 m 4 ls []) rfl ?_
  refine lv_aload_n hx hb dX0_init_4 rfl (lv_at hl 0 rfl) ?_
  refine lv_sipush (v := 500) hx hb dX0_init_5 (by decide) ?_
  refine va_newa (atype := .int) (ty := .int) (a0 := (500, .inl (fun _ => 0))) hx hb (hts (Cond.arrayClass .int) kk_1_45) rfl hK hP hD hS hA (fun _ => by first | rfl | exact vp_cell_i) (by decide) (by decide) (by decide) (Nat.le_of_ble_eq_true rfl) (Nat.le_of_ble_eq_true rfl) dX0_init_8 (fun q_1 cA H hK2 hP hD hS => ?_)
  obtain rfl : cI = cA := cA_eq hK hK2
  have hP : va_P D classes [(h0, .inr (0, [.null, .int 0, .int 0, .int 0, .int 0])), (q_1, .inl (cI, 500, .inl (fun _ => 0)))] H := hP
  have hD : va_D A [(h0, .inr (0, [.null, .int 0, .int 0, .int 0, .int 0])), (q_1, .inl (cI, 500, .inl (fun _ => 0)))] := hD
  refine W.widen (k := 1) (n := 500) (by decide) (by decide) ?_
  refine va_put (D := D) (ci := 0) (v := .ref q_1) (ty := .array .int) (C := RX0) (T := TX0) (N := 5) hx hb hts inX0 tyX0 tyX0_ok nmX0 hown hK hP hD hS 0 rfl rfl 0 (by decide) (hts (Cond.fieldLink "NestedTags$Cursor" 9 "NestedTags$Cursor" "bytes" "[I") kk_1_25) (fun _ h9 => h9) rfl (tyX0_ok 0 (by decide)) rfl rfl (Nat.le_of_ble_eq_true rfl) dX0_init_10 (fun H locs hP hD hS => ?_)
  have hP : va_P D classes [(h0, .inr (0, [.ref q_1, .int 0, .int 0, .int 0, .int 0])), (q_1, .inl (cI, 500, .inl (fun _ => 0)))] H := hP
  have hD : va_D A [(h0, .inr (0, [.ref q_1, .int 0, .int 0, .int 0, .int 0])), (q_1, .inl (cI, 500, .inl (fun _ => 0)))] := hD
  refine lv_aload_n hx hb dX0_init_13 rfl (lv_at hl 0 rfl) ?_
  refine lv_iconst (v := 0) hx hb dX0_init_14 (by decide) ?_
  refine va_put (D := D) (ci := 0) (v := .int 0) (ty := .int) (C := RX0) (T := TX0) (N := 5) hx hb hts inX0 tyX0 tyX0_ok nmX0 hown hK hP hD hS 0 rfl rfl 3 (by decide) (hts (Cond.fieldLink "NestedTags$Cursor" 15 "NestedTags$Cursor" "fault" "I") kk_1_30) (fun _ h9 => h9) rfl (tyX0_ok 3 (by decide)) rfl rfl (Nat.le_of_ble_eq_true rfl) dX0_init_15 (fun H locs hP hD hS => ?_)
  have hP : va_P D classes [(h0, .inr (0, [.ref q_1, .int 0, .int 0, .int 0, .int 0])), (q_1, .inl (cI, 500, .inl (fun _ => 0)))] H := hP
  have hD : va_D A [(h0, .inr (0, [.ref q_1, .int 0, .int 0, .int 0, .int 0])), (q_1, .inl (cI, 500, .inl (fun _ => 0)))] := hD
  refine lv_aload_n hx hb dX0_init_18 rfl (lv_at hl 0 rfl) ?_
  refine lv_iconst (v := (-1)) hx hb dX0_init_19 (by decide) ?_
  refine va_put (D := D) (ci := 0) (v := .int (-1)) (ty := .int) (C := RX0) (T := TX0) (N := 5) hx hb hts inX0 tyX0 tyX0_ok nmX0 hown hK hP hD hS 0 rfl rfl 4 (by decide) (hts (Cond.fieldLink "NestedTags$Cursor" 19 "NestedTags$Cursor" "faultPlace" "I") kk_1_32) (fun _ h9 => h9) rfl (tyX0_ok 4 (by decide)) rfl rfl (Nat.le_of_ble_eq_true rfl) dX0_init_20 (fun H locs hP hD hS => ?_)
  have hP : va_P D classes [(h0, .inr (0, [.ref q_1, .int 0, .int 0, .int 0, .int (-1)])), (q_1, .inl (cI, 500, .inl (fun _ => 0)))] H := hP
  have hD : va_D A [(h0, .inr (0, [.ref q_1, .int 0, .int 0, .int 0, .int (-1)])), (q_1, .inl (cI, 500, .inl (fun _ => 0)))] := hD
  have hP9 := hP.sub (ws' := [(h0, .inr (0, [.ref q_1, .int 0, .int 0, .int 0, .int (-1)])), (q_1, .inl (cI, 500, .inl (fun _ => 0)))]) [0, 1] rfl
  have hD9 := hD.sub (ws' := [(h0, .inr (0, [.ref q_1, .int 0, .int 0, .int 0, .int (-1)])), (q_1, .inl (cI, 500, .inl (fun _ => 0)))]) [0, 1] (by decide) rfl
  refine W.widen (k := 1) (n := 500) (by decide) (by decide) ?_
  exact W.vret hx hb hr (fun t ht hW => ⟨⟨q_1, rfl, trivial, by rw [ht]; exact hP9, va_K.moved hW.alike hK, hD9⟩, hS.F ht⟩) hS.2.2 dX0_init_23

set_option maxHeartbeats 4000000 in
set_option maxRecDepth 100000 in
/-- begin: the rows change places -/
theorem c_X0_begin (l : Launch) (D : va_G) (cI : ClassId) (V : (Nat → Nat) × (Nat → Nat)) (h0 : Nat) (b0 : Nat) (ln : Int32) (ca : Int32) (fa : Int32) (fp : Int32) (nx : Nat) (sz : Nat) (p1 : Int32)  : Met l yX0_begin (.code yX0_begin cX0_begin 4 (some (.array .int)) :: tbW) ({ frames := 0, cells := 0, slots := 0, locals := 0 }) (va_Pc [.ref h0, .ref nx, .int p1] (gP D cI V [(h0, .inr (0, [.ref b0, .int ln, .int ca, .int fa, .int fp]))] sz)) (va_Qr (fun (u : Unit) => True) (fun u (ra : Nat) t => gB D cI (va_A [(h0, .inr (0, [.ref b0, .int ln, .int ca, .int fa, .int fp]))] sz) [(h0, .inr (0, [.ref nx, .int p1, .int 0, .int 0, .int (-1)]))] t ∧ ra = b0) (va_A [(h0, .inr (0, [.ref b0, .int ln, .int ca, .int fa, .int fp]))] sz)) 0 0 (va_A [(h0, .inr (0, [.ref b0, .int ln, .int ca, .int fa, .int fp]))] sz) := by
  refine Met.ofW (cc := cX0_begin) (maxL := 4) (ret := (some (.array .int))) (by decide) rfl ?_
  intro p e s m args below meth c s₁ B hml hv
  obtain ⟨rfl, hsz, hP, hK, hD0, hN, hV⟩ := hv
  have hx := B.exec
  have hb := B.bytes
  have hr := B.returns
  have hts := tb_hts (atoms_spec (ws := .code yX0_begin cX0_begin 4 (some (.array .int)) :: tbW) B.pre)
  have hown : s.vm.findClass RX0 = some m.cls := findClass_of_methodNamed B.named
  have hlocks := B.notSynchronized
  subst hsz
  have hD := hD0.self (sz := s.heap.size)
  generalize hAe : va_A [(h0, .inr (0, [.ref b0, .int ln, .int ca, .int fa, .int fp]))] s.heap.size = A at hD hV ⊢
  have hA : ∀ q : Nat, s.heap.size ≤ q → A q := fun q h => by rw [← hAe]; exact Or.inr h
  have hS : va_S A s.heap s.heap [] := va_S.rf
  have hP : va_P D classes [(h0, .inr (0, [.ref b0, .int ln, .int ca, .int fa, .int fp]))] s.heap := hP
  have hl := lv_entry ([.ref h0, .ref nx, .int p1]) (n := 4) (Nat.le_of_ble_eq_true rfl)
  rw [lg_entry_eq]
  generalize (lg_sl ([.ref h0, .ref nx, .int p1]) ++ List.replicate (4 - (lg_sl ([.ref h0, .ref nx, .int p1])).length) Slot.unset).toArray = ls at hl ⊢
  have hl : lv_has ls 4 [(0, .ref h0), (1, .ref nx), (2, .int p1)] := hl
  refine lv_aload_n hx hb dX0_begin_0 rfl (lv_at hl 0 rfl) ?_
  refine va_get (D := D) (ci := 0) (v := .ref b0) (C := RX0) (T := TX0) (N := 5) hx hb hts inX0 hown hK hP 0 rfl rfl 0 (by decide) (hts (Cond.fieldLink "NestedTags$Cursor" 9 "NestedTags$Cursor" "bytes" "[I") kk_1_25) (fun _ h9 => h9) rfl dX0_begin_1 ?_
  refine lv_astore_n (lv' := [(3, .ref b0), (0, .ref h0), (1, .ref nx), (2, .int p1)]) hx hb dX0_begin_4 rfl hl (by decide) rfl (fun ls hl => ?_)
  refine lv_aload_n hx hb dX0_begin_5 rfl (lv_at hl 1 rfl) ?_
  refine lv_aload_n hx hb dX0_begin_6 rfl (lv_at hl 2 rfl) ?_
  refine va_put (D := D) (ci := 0) (v := .ref nx) (ty := .array .int) (C := RX0) (T := TX0) (N := 5) hx hb hts inX0 tyX0 tyX0_ok nmX0 hown hK hP hD hS 0 rfl rfl 0 (by decide) (hts (Cond.fieldLink "NestedTags$Cursor" 9 "NestedTags$Cursor" "bytes" "[I") kk_1_25) (fun _ h9 => h9) rfl (tyX0_ok 0 (by decide)) rfl rfl (Nat.le_of_ble_eq_true rfl) dX0_begin_7 (fun H locs hP hD hS => ?_)
  have hP : va_P D classes [(h0, .inr (0, [.ref nx, .int ln, .int ca, .int fa, .int fp]))] H := hP
  have hD : va_D A [(h0, .inr (0, [.ref nx, .int ln, .int ca, .int fa, .int fp]))] := hD
  refine lv_aload_n hx hb dX0_begin_10 rfl (lv_at hl 1 rfl) ?_
  refine lv_iload_n hx hb dX0_begin_11 rfl (lv_at hl 3 rfl) ?_
  refine va_put (D := D) (ci := 0) (v := .int p1) (ty := .int) (C := RX0) (T := TX0) (N := 5) hx hb hts inX0 tyX0 tyX0_ok nmX0 hown hK hP hD hS 0 rfl rfl 1 (by decide) (hts (Cond.fieldLink "NestedTags$Cursor" 22 "NestedTags$Cursor" "length" "I") kk_1_26) (fun _ h9 => h9) rfl (tyX0_ok 1 (by decide)) rfl rfl (Nat.le_of_ble_eq_true rfl) dX0_begin_12 (fun H locs hP hD hS => ?_)
  have hP : va_P D classes [(h0, .inr (0, [.ref nx, .int p1, .int ca, .int fa, .int fp]))] H := hP
  have hD : va_D A [(h0, .inr (0, [.ref nx, .int p1, .int ca, .int fa, .int fp]))] := hD
  refine lv_aload_n hx hb dX0_begin_15 rfl (lv_at hl 1 rfl) ?_
  refine lv_iconst (v := 0) hx hb dX0_begin_16 (by decide) ?_
  refine va_put (D := D) (ci := 0) (v := .int 0) (ty := .int) (C := RX0) (T := TX0) (N := 5) hx hb hts inX0 tyX0 tyX0_ok nmX0 hown hK hP hD hS 0 rfl rfl 2 (by decide) (hts (Cond.fieldLink "NestedTags$Cursor" 25 "NestedTags$Cursor" "at" "I") kk_1_28) (fun _ h9 => h9) rfl (tyX0_ok 2 (by decide)) rfl rfl (Nat.le_of_ble_eq_true rfl) dX0_begin_17 (fun H locs hP hD hS => ?_)
  have hP : va_P D classes [(h0, .inr (0, [.ref nx, .int p1, .int 0, .int fa, .int fp]))] H := hP
  have hD : va_D A [(h0, .inr (0, [.ref nx, .int p1, .int 0, .int fa, .int fp]))] := hD
  refine lv_aload_n hx hb dX0_begin_20 rfl (lv_at hl 1 rfl) ?_
  refine lv_iconst (v := 0) hx hb dX0_begin_21 (by decide) ?_
  refine va_put (D := D) (ci := 0) (v := .int 0) (ty := .int) (C := RX0) (T := TX0) (N := 5) hx hb hts inX0 tyX0 tyX0_ok nmX0 hown hK hP hD hS 0 rfl rfl 3 (by decide) (hts (Cond.fieldLink "NestedTags$Cursor" 15 "NestedTags$Cursor" "fault" "I") kk_1_30) (fun _ h9 => h9) rfl (tyX0_ok 3 (by decide)) rfl rfl (Nat.le_of_ble_eq_true rfl) dX0_begin_22 (fun H locs hP hD hS => ?_)
  have hP : va_P D classes [(h0, .inr (0, [.ref nx, .int p1, .int 0, .int 0, .int fp]))] H := hP
  have hD : va_D A [(h0, .inr (0, [.ref nx, .int p1, .int 0, .int 0, .int fp]))] := hD
  refine lv_aload_n hx hb dX0_begin_25 rfl (lv_at hl 1 rfl) ?_
  refine lv_iconst (v := (-1)) hx hb dX0_begin_26 (by decide) ?_
  refine va_put (D := D) (ci := 0) (v := .int (-1)) (ty := .int) (C := RX0) (T := TX0) (N := 5) hx hb hts inX0 tyX0 tyX0_ok nmX0 hown hK hP hD hS 0 rfl rfl 4 (by decide) (hts (Cond.fieldLink "NestedTags$Cursor" 19 "NestedTags$Cursor" "faultPlace" "I") kk_1_32) (fun _ h9 => h9) rfl (tyX0_ok 4 (by decide)) rfl rfl (Nat.le_of_ble_eq_true rfl) dX0_begin_27 (fun H locs hP hD hS => ?_)
  have hP : va_P D classes [(h0, .inr (0, [.ref nx, .int p1, .int 0, .int 0, .int (-1)]))] H := hP
  have hD : va_D A [(h0, .inr (0, [.ref nx, .int p1, .int 0, .int 0, .int (-1)]))] := hD
  refine lv_aload_n hx hb dX0_begin_30 rfl (lv_at hl 0 rfl) ?_
  have hP9 := hP.sub (ws' := [(h0, .inr (0, [.ref nx, .int p1, .int 0, .int 0, .int (-1)]))]) [0] rfl
  have hD9 := hD.sub (ws' := [(h0, .inr (0, [.ref nx, .int p1, .int 0, .int 0, .int (-1)]))]) [0] (by decide) rfl
  exact W.aret (v := .ref b0) hx hb hr (Or.inr ⟨_, rfl⟩) (Or.inr ⟨_, rfl⟩) (fun t ht hW => ⟨⟨(), b0, rfl, trivial, ⟨by rw [ht]; exact hP9, va_K.moved hW.alike hK, hD9⟩, rfl⟩, hS.F ht⟩) hS.2.2 dX0_begin_31

set_option maxHeartbeats 4000000 in
set_option maxRecDepth 100000 in
/-- X0_goesOn -/
theorem c_X0_goesOn (l : Launch) (D : va_G) (cI : ClassId) (V : (Nat → Nat) × (Nat → Nat)) (h0 : Nat) (b0 : Nat) (ln : Int32) (ca : Int32) (fa : Int32) (fp : Int32) (sz : Nat)   : Met l yX0_goesOn (.code yX0_goesOn cX0_goesOn 1 (some .boolean) :: tbW) ({ frames := 0, cells := 0, slots := 0, locals := 0 }) (va_Pc [.ref h0] (gP D cI V [(h0, .inr (0, [.ref b0, .int ln, .int ca, .int fa, .int fp]))] sz)) (va_Qi (fun (r : Int32) (u : Unit) => r = if fa = 0 ∧ ca < ln then 1 else 0) (fun u => gB D cI (va_A [(h0, .inr (0, [.ref b0, .int ln, .int ca, .int fa, .int fp]))] sz) [(h0, .inr (0, [.ref b0, .int ln, .int ca, .int fa, .int fp]))]) (va_A [(h0, .inr (0, [.ref b0, .int ln, .int ca, .int fa, .int fp]))] sz)) 0 0 (va_A [(h0, .inr (0, [.ref b0, .int ln, .int ca, .int fa, .int fp]))] sz) := by
  refine Met.ofW (cc := cX0_goesOn) (maxL := 1) (ret := (some .boolean)) (by decide) rfl ?_
  intro p e s m args below meth c s₁ B hml hv
  obtain ⟨rfl, hsz, hP, hK, hD0, hN, hV⟩ := hv
  have hx := B.exec
  have hb := B.bytes
  have hr := B.returns
  have hts := tb_hts (atoms_spec (ws := .code yX0_goesOn cX0_goesOn 1 (some .boolean) :: tbW) B.pre)
  have hown : s.vm.findClass RX0 = some m.cls := findClass_of_methodNamed B.named
  have hlocks := B.notSynchronized
  subst hsz
  have hD := hD0.self (sz := s.heap.size)
  generalize hAe : va_A [(h0, .inr (0, [.ref b0, .int ln, .int ca, .int fa, .int fp]))] s.heap.size = A at hD hV ⊢
  have hA : ∀ q : Nat, s.heap.size ≤ q → A q := fun q h => by rw [← hAe]; exact Or.inr h
  have hS : va_S A s.heap s.heap [] := va_S.rf
  have hP : va_P D classes [(h0, .inr (0, [.ref b0, .int ln, .int ca, .int fa, .int fp]))] s.heap := hP
  have hl := lv_entry ([.ref h0]) (n := 1) (Nat.le_of_ble_eq_true rfl)
  rw [lg_entry_eq]
  generalize (lg_sl ([.ref h0]) ++ List.replicate (1 - (lg_sl ([.ref h0])).length) Slot.unset).toArray = ls at hl ⊢
  have hl : lv_has ls 1 [(0, .ref h0)] := hl
  refine lv_aload_n hx hb dX0_goesOn_0 rfl (lv_at hl 0 rfl) ?_
  refine va_get (D := D) (ci := 0) (v := .int fa) (C := RX0) (T := TX0) (N := 5) hx hb hts inX0 hown hK hP 0 rfl rfl 3 (by decide) (hts (Cond.fieldLink "NestedTags$Cursor" 15 "NestedTags$Cursor" "fault" "I") kk_1_30) (fun _ h9 => h9) rfl dX0_goesOn_1 ?_
  refine lv_if_ne (tgt := 22) hx hb dX0_goesOn_4 (by decide) (fun c_4 => ?_) (fun c_4 => ?_)
  · skip
    refine lv_iconst (v := 0) hx hb dX0_goesOn_22 (by decide) ?_
    have hP9 := hP.sub (ws' := [(h0, .inr (0, [.ref b0, .int ln, .int ca, .int fa, .int fp]))]) [0] rfl
    have hD9 := hD.sub (ws' := [(h0, .inr (0, [.ref b0, .int ln, .int ca, .int fa, .int fp]))]) [0] (by decide) rfl
    exact W.zret (v := 0) (ty := .boolean) hx hb hr rfl (fun t ht hW => ⟨⟨0, (), rfl, by rw [if_neg (fun q => c_4 q.1)], by rw [ht]; exact hP9, va_K.moved hW.alike hK, hD9⟩, hS.F ht⟩) hS.2.2 dX0_goesOn_23
  · skip
    refine lv_aload_n hx hb dX0_goesOn_7 rfl (lv_at hl 0 rfl) ?_
    refine va_get (D := D) (ci := 0) (v := .int ca) (C := RX0) (T := TX0) (N := 5) hx hb hts inX0 hown hK hP 0 rfl rfl 2 (by decide) (hts (Cond.fieldLink "NestedTags$Cursor" 25 "NestedTags$Cursor" "at" "I") kk_1_28) (fun _ h9 => h9) rfl dX0_goesOn_8 ?_
    refine lv_aload_n hx hb dX0_goesOn_11 rfl (lv_at hl 0 rfl) ?_
    refine va_get (D := D) (ci := 0) (v := .int ln) (C := RX0) (T := TX0) (N := 5) hx hb hts inX0 hown hK hP 0 rfl rfl 1 (by decide) (hts (Cond.fieldLink "NestedTags$Cursor" 22 "NestedTags$Cursor" "length" "I") kk_1_26) (fun _ h9 => h9) rfl dX0_goesOn_12 ?_
    refine lv_icmp_ge (tgt := 22) hx hb dX0_goesOn_15 (by decide) (fun c_15 => ?_) (fun c_15 => ?_)
    · skip
      refine lv_iconst (v := 0) hx hb dX0_goesOn_22 (by decide) ?_
      have hP9 := hP.sub (ws' := [(h0, .inr (0, [.ref b0, .int ln, .int ca, .int fa, .int fp]))]) [0] rfl
      have hD9 := hD.sub (ws' := [(h0, .inr (0, [.ref b0, .int ln, .int ca, .int fa, .int fp]))]) [0] (by decide) rfl
      exact W.zret (v := 0) (ty := .boolean) hx hb hr rfl (fun t ht hW => ⟨⟨0, (), rfl, by rw [if_neg (fun q => absurd q.2 (Int32.not_lt.mpr c_15))], by rw [ht]; exact hP9, va_K.moved hW.alike hK, hD9⟩, hS.F ht⟩) hS.2.2 dX0_goesOn_23
    · skip
      refine lv_iconst (v := 1) hx hb dX0_goesOn_18 (by decide) ?_
      refine lv_goto (tgt := 23) hx hb dX0_goesOn_19 (by decide) ?_
      have hP9 := hP.sub (ws' := [(h0, .inr (0, [.ref b0, .int ln, .int ca, .int fa, .int fp]))]) [0] rfl
      have hD9 := hD.sub (ws' := [(h0, .inr (0, [.ref b0, .int ln, .int ca, .int fa, .int fp]))]) [0] (by decide) rfl
      exact W.zret (v := 1) (ty := .boolean) hx hb hr rfl (fun t ht hW => ⟨⟨1, (), rfl, by rw [if_pos ⟨c_4, Int32.not_le.mp c_15⟩], by rw [ht]; exact hP9, va_K.moved hW.alike hK, hD9⟩, hS.F ht⟩) hS.2.2 dX0_goesOn_23

set_option maxHeartbeats 4000000 in
set_option maxRecDepth 100000 in
/-- byteAt: the byte, or -1 -/
theorem c_X0_byteAt (l : Launch) (D : va_G) (cI : ClassId) (V : (Nat → Nat) × (Nat → Nat)) (h0 : Nat) (b0 : Nat) (ln : Int32) (ca : Int32) (fa : Int32) (fp : Int32) (g : Nat → Int32) (sz : Nat) (p1 : Int32)  : Met l yX0_byteAt (.code yX0_byteAt cX0_byteAt 2 (some .int) :: tbW) ({ frames := 0, cells := 0, slots := 0, locals := 0 }) (va_Pc [.ref h0, .int p1] (gP D cI V [(h0, .inr (0, [.ref b0, .int ln, .int ca, .int fa, .int fp])), (b0, .inl (cI, 500, .inl g))] sz)) (va_Qi (fun (r : Int32) (u : Unit) => r = byteAt g ln p1) (fun u => gB D cI (va_A [(h0, .inr (0, [.ref b0, .int ln, .int ca, .int fa, .int fp])), (b0, .inl (cI, 500, .inl g))] sz) [(h0, .inr (0, [.ref b0, .int ln, .int ca, .int fa, .int fp])), (b0, .inl (cI, 500, .inl g))]) (va_A [(h0, .inr (0, [.ref b0, .int ln, .int ca, .int fa, .int fp])), (b0, .inl (cI, 500, .inl g))] sz)) 0 0 (va_A [(h0, .inr (0, [.ref b0, .int ln, .int ca, .int fa, .int fp])), (b0, .inl (cI, 500, .inl g))] sz) := by
  refine Met.ofW (cc := cX0_byteAt) (maxL := 2) (ret := (some .int)) (by decide) rfl ?_
  intro p e s m args below meth c s₁ B hml hv
  obtain ⟨rfl, hsz, hP, hK, hD0, hN, hV⟩ := hv
  have hx := B.exec
  have hb := B.bytes
  have hr := B.returns
  have hts := tb_hts (atoms_spec (ws := .code yX0_byteAt cX0_byteAt 2 (some .int) :: tbW) B.pre)
  have hown : s.vm.findClass RX0 = some m.cls := findClass_of_methodNamed B.named
  have hlocks := B.notSynchronized
  subst hsz
  have hD := hD0.self (sz := s.heap.size)
  generalize hAe : va_A [(h0, .inr (0, [.ref b0, .int ln, .int ca, .int fa, .int fp])), (b0, .inl (cI, 500, .inl g))] s.heap.size = A at hD hV ⊢
  have hA : ∀ q : Nat, s.heap.size ≤ q → A q := fun q h => by rw [← hAe]; exact Or.inr h
  have hS : va_S A s.heap s.heap [] := va_S.rf
  have hP : va_P D classes [(h0, .inr (0, [.ref b0, .int ln, .int ca, .int fa, .int fp])), (b0, .inl (cI, 500, .inl g))] s.heap := hP
  have hl := lv_entry ([.ref h0, .int p1]) (n := 2) (Nat.le_of_ble_eq_true rfl)
  rw [lg_entry_eq]
  generalize (lg_sl ([.ref h0, .int p1]) ++ List.replicate (2 - (lg_sl ([.ref h0, .int p1])).length) Slot.unset).toArray = ls at hl ⊢
  have hl : lv_has ls 2 [(0, .ref h0), (1, .int p1)] := hl
  refine lv_iload_n hx hb dX0_byteAt_0 rfl (lv_at hl 1 rfl) ?_
  refine lv_if_lt (tgt := 30) hx hb dX0_byteAt_1 (by decide) (fun c_1 => ?_) (fun c_1 => ?_)
  · skip
    refine lv_iconst (v := (-1)) hx hb dX0_byteAt_30 (by decide) ?_
    have hP9 := hP.sub (ws' := [(h0, .inr (0, [.ref b0, .int ln, .int ca, .int fa, .int fp])), (b0, .inl (cI, 500, .inl g))]) [0, 1] rfl
    have hD9 := hD.sub (ws' := [(h0, .inr (0, [.ref b0, .int ln, .int ca, .int fa, .int fp])), (b0, .inl (cI, 500, .inl g))]) [0, 1] (by decide) rfl
    exact W.iret (v := (-1)) hx hb hr (fun t ht hW => ⟨⟨(-1), (), rfl, (byteAt_a c_1).symm, by rw [ht]; exact hP9, va_K.moved hW.alike hK, hD9⟩, hS.F ht⟩) hS.2.2 dX0_byteAt_31
  · skip
    refine lv_iload_n hx hb dX0_byteAt_4 rfl (lv_at hl 1 rfl) ?_
    refine lv_aload_n hx hb dX0_byteAt_5 rfl (lv_at hl 0 rfl) ?_
    refine va_get (D := D) (ci := 0) (v := .int ln) (C := RX0) (T := TX0) (N := 5) hx hb hts inX0 hown hK hP 0 rfl rfl 1 (by decide) (hts (Cond.fieldLink "NestedTags$Cursor" 22 "NestedTags$Cursor" "length" "I") kk_1_26) (fun _ h9 => h9) rfl dX0_byteAt_6 ?_
    refine lv_icmp_ge (tgt := 30) hx hb dX0_byteAt_9 (by decide) (fun c_9 => ?_) (fun c_9 => ?_)
    · skip
      refine lv_iconst (v := (-1)) hx hb dX0_byteAt_30 (by decide) ?_
      have hP9 := hP.sub (ws' := [(h0, .inr (0, [.ref b0, .int ln, .int ca, .int fa, .int fp])), (b0, .inl (cI, 500, .inl g))]) [0, 1] rfl
      have hD9 := hD.sub (ws' := [(h0, .inr (0, [.ref b0, .int ln, .int ca, .int fa, .int fp])), (b0, .inl (cI, 500, .inl g))]) [0, 1] (by decide) rfl
      exact W.iret (v := (-1)) hx hb hr (fun t ht hW => ⟨⟨(-1), (), rfl, (byteAt_b c_9).symm, by rw [ht]; exact hP9, va_K.moved hW.alike hK, hD9⟩, hS.F ht⟩) hS.2.2 dX0_byteAt_31
    · skip
      refine lv_iload_n hx hb dX0_byteAt_12 rfl (lv_at hl 1 rfl) ?_
      refine lv_aload_n hx hb dX0_byteAt_13 rfl (lv_at hl 0 rfl) ?_
      refine va_get (D := D) (ci := 0) (v := .ref b0) (C := RX0) (T := TX0) (N := 5) hx hb hts inX0 hown hK hP 0 rfl rfl 0 (by decide) (hts (Cond.fieldLink "NestedTags$Cursor" 9 "NestedTags$Cursor" "bytes" "[I") kk_1_25) (fun _ h9 => h9) rfl dX0_byteAt_14 ?_
      refine va_alen hx hb hK hP 1 0 rfl rfl (v := nI 500) rfl dX0_byteAt_17 ?_
      refine lv_icmp_ge (tgt := 30) hx hb dX0_byteAt_18 (by decide) (fun c_18 => ?_) (fun c_18 => ?_)
      · skip
        refine lv_iconst (v := (-1)) hx hb dX0_byteAt_30 (by decide) ?_
        have hP9 := hP.sub (ws' := [(h0, .inr (0, [.ref b0, .int ln, .int ca, .int fa, .int fp])), (b0, .inl (cI, 500, .inl g))]) [0, 1] rfl
        have hD9 := hD.sub (ws' := [(h0, .inr (0, [.ref b0, .int ln, .int ca, .int fa, .int fp])), (b0, .inl (cI, 500, .inl g))]) [0, 1] (by decide) rfl
        exact W.iret (v := (-1)) hx hb hr (fun t ht hW => ⟨⟨(-1), (), rfl, (byteAt_c c_18).symm, by rw [ht]; exact hP9, va_K.moved hW.alike hK, hD9⟩, hS.F ht⟩) hS.2.2 dX0_byteAt_31
      · skip
        refine lv_aload_n hx hb dX0_byteAt_21 rfl (lv_at hl 0 rfl) ?_
        refine va_get (D := D) (ci := 0) (v := .ref b0) (C := RX0) (T := TX0) (N := 5) hx hb hts inX0 hown hK hP 0 rfl rfl 0 (by decide) (hts (Cond.fieldLink "NestedTags$Cursor" 9 "NestedTags$Cursor" "bytes" "[I") kk_1_25) (fun _ h9 => h9) rfl dX0_byteAt_22 ?_
        refine lv_iload_n hx hb dX0_byteAt_25 rfl (lv_at hl 1 rfl) ?_
        refine va_iald hx hb hK hP 1 0 rfl rfl (vin_of c_1 c_18 (by decide)) dX0_byteAt_26 ?_
        refine lv_topi (fun x_1 ex_1 => ?_)
        refine lv_goto (tgt := 31) hx hb dX0_byteAt_27 (by decide) ?_
        have hP9 := hP.sub (ws' := [(h0, .inr (0, [.ref b0, .int ln, .int ca, .int fa, .int fp])), (b0, .inl (cI, 500, .inl g))]) [0, 1] rfl
        have hD9 := hD.sub (ws' := [(h0, .inr (0, [.ref b0, .int ln, .int ca, .int fa, .int fp])), (b0, .inl (cI, 500, .inl g))]) [0, 1] (by decide) rfl
        exact W.iret (v := x_1) hx hb hr (fun t ht hW => ⟨⟨x_1, (), rfl, by rw [ex_1]; exact (byteAt_in c_1 c_9 c_18).symm, by rw [ht]; exact hP9, va_K.moved hW.alike hK, hD9⟩, hS.F ht⟩) hS.2.2 dX0_byteAt_31

set_option maxHeartbeats 4000000 in
set_option maxRecDepth 100000 in
/-- fail: the first fault counts -/
theorem c_X0_fail (l : Launch) (D : va_G) (cI : ClassId) (V : (Nat → Nat) × (Nat → Nat)) (h0 : Nat) (b0 : Nat) (ln : Int32) (ca : Int32) (fa : Int32) (fp : Int32) (sz : Nat) (p1 : Int32) (p2 : Int32)  : Met l yX0_fail (.code yX0_fail cX0_fail 3 (some .boolean) :: tbW) ({ frames := 0, cells := 0, slots := 0, locals := 0 }) (va_Pc [.ref h0, .int p1, .int p2] (gP D cI V [(h0, .inr (0, [.ref b0, .int ln, .int ca, .int fa, .int fp]))] sz)) (va_Qi (fun (r : Int32) (u : Int32 × Int32) => r = 0 ∧ (u.1, u.2) = if fa = 0 then (p1, p2) else (fa, fp)) (fun u => gB D cI (va_A [(h0, .inr (0, [.ref b0, .int ln, .int ca, .int fa, .int fp]))] sz) [(h0, .inr (0, [.ref b0, .int ln, .int ca, .int u.1, .int u.2]))]) (va_A [(h0, .inr (0, [.ref b0, .int ln, .int ca, .int fa, .int fp]))] sz)) 0 0 (va_A [(h0, .inr (0, [.ref b0, .int ln, .int ca, .int fa, .int fp]))] sz) := by
  refine Met.ofW (cc := cX0_fail) (maxL := 3) (ret := (some .boolean)) (by decide) rfl ?_
  intro p e s m args below meth c s₁ B hml hv
  obtain ⟨rfl, hsz, hP, hK, hD0, hN, hV⟩ := hv
  have hx := B.exec
  have hb := B.bytes
  have hr := B.returns
  have hts := tb_hts (atoms_spec (ws := .code yX0_fail cX0_fail 3 (some .boolean) :: tbW) B.pre)
  have hown : s.vm.findClass RX0 = some m.cls := findClass_of_methodNamed B.named
  have hlocks := B.notSynchronized
  subst hsz
  have hD := hD0.self (sz := s.heap.size)
  generalize hAe : va_A [(h0, .inr (0, [.ref b0, .int ln, .int ca, .int fa, .int fp]))] s.heap.size = A at hD hV ⊢
  have hA : ∀ q : Nat, s.heap.size ≤ q → A q := fun q h => by rw [← hAe]; exact Or.inr h
  have hS : va_S A s.heap s.heap [] := va_S.rf
  have hP : va_P D classes [(h0, .inr (0, [.ref b0, .int ln, .int ca, .int fa, .int fp]))] s.heap := hP
  have hl := lv_entry ([.ref h0, .int p1, .int p2]) (n := 3) (Nat.le_of_ble_eq_true rfl)
  rw [lg_entry_eq]
  generalize (lg_sl ([.ref h0, .int p1, .int p2]) ++ List.replicate (3 - (lg_sl ([.ref h0, .int p1, .int p2])).length) Slot.unset).toArray = ls at hl ⊢
  have hl : lv_has ls 3 [(0, .ref h0), (1, .int p1), (2, .int p2)] := hl
  refine lv_aload_n hx hb dX0_fail_0 rfl (lv_at hl 0 rfl) ?_
  refine va_get (D := D) (ci := 0) (v := .int fa) (C := RX0) (T := TX0) (N := 5) hx hb hts inX0 hown hK hP 0 rfl rfl 3 (by decide) (hts (Cond.fieldLink "NestedTags$Cursor" 15 "NestedTags$Cursor" "fault" "I") kk_1_30) (fun _ h9 => h9) rfl dX0_fail_1 ?_
  refine lv_if_ne (tgt := 17) hx hb dX0_fail_4 (by decide) (fun c_4 => ?_) (fun c_4 => ?_)
  · skip
    refine lv_iconst (v := 0) hx hb dX0_fail_17 (by decide) ?_
    have hP9 := hP.sub (ws' := [(h0, .inr (0, [.ref b0, .int ln, .int ca, .int fa, .int fp]))]) [0] rfl
    have hD9 := hD.sub (ws' := [(h0, .inr (0, [.ref b0, .int ln, .int ca, .int fa, .int fp]))]) [0] (by decide) rfl
    exact W.zret (v := 0) (ty := .boolean) hx hb hr rfl (fun t ht hW => ⟨⟨0, (fa, fp), rfl, ⟨rfl, (if_neg c_4).symm⟩, by rw [ht]; exact hP9, va_K.moved hW.alike hK, hD9⟩, hS.F ht⟩) hS.2.2 dX0_fail_18
  · skip
    refine lv_aload_n hx hb dX0_fail_7 rfl (lv_at hl 0 rfl) ?_
    refine lv_iload_n hx hb dX0_fail_8 rfl (lv_at hl 1 rfl) ?_
    refine va_put (D := D) (ci := 0) (v := .int p1) (ty := .int) (C := RX0) (T := TX0) (N := 5) hx hb hts inX0 tyX0 tyX0_ok nmX0 hown hK hP hD hS 0 rfl rfl 3 (by decide) (hts (Cond.fieldLink "NestedTags$Cursor" 15 "NestedTags$Cursor" "fault" "I") kk_1_30) (fun _ h9 => h9) rfl (tyX0_ok 3 (by decide)) rfl rfl (Nat.le_of_ble_eq_true rfl) dX0_fail_9 (fun H locs hP hD hS => ?_)
    have hP : va_P D classes [(h0, .inr (0, [.ref b0, .int ln, .int ca, .int p1, .int fp]))] H := hP
    have hD : va_D A [(h0, .inr (0, [.ref b0, .int ln, .int ca, .int p1, .int fp]))] := hD
    refine lv_aload_n hx hb dX0_fail_12 rfl (lv_at hl 0 rfl) ?_
    refine lv_iload_n hx hb dX0_fail_13 rfl (lv_at hl 2 rfl) ?_
    refine va_put (D := D) (ci := 0) (v := .int p2) (ty := .int) (C := RX0) (T := TX0) (N := 5) hx hb hts inX0 tyX0 tyX0_ok nmX0 hown hK hP hD hS 0 rfl rfl 4 (by decide) (hts (Cond.fieldLink "NestedTags$Cursor" 19 "NestedTags$Cursor" "faultPlace" "I") kk_1_32) (fun _ h9 => h9) rfl (tyX0_ok 4 (by decide)) rfl rfl (Nat.le_of_ble_eq_true rfl) dX0_fail_14 (fun H locs hP hD hS => ?_)
    have hP : va_P D classes [(h0, .inr (0, [.ref b0, .int ln, .int ca, .int p1, .int p2]))] H := hP
    have hD : va_D A [(h0, .inr (0, [.ref b0, .int ln, .int ca, .int p1, .int p2]))] := hD
    refine lv_iconst (v := 0) hx hb dX0_fail_17 (by decide) ?_
    have hP9 := hP.sub (ws' := [(h0, .inr (0, [.ref b0, .int ln, .int ca, .int p1, .int p2]))]) [0] rfl
    have hD9 := hD.sub (ws' := [(h0, .inr (0, [.ref b0, .int ln, .int ca, .int p1, .int p2]))]) [0] (by decide) rfl
    exact W.zret (v := 0) (ty := .boolean) hx hb hr rfl (fun t ht hW => ⟨⟨0, (p1, p2), rfl, ⟨rfl, (if_pos c_4).symm⟩, by rw [ht]; exact hP9, va_K.moved hW.alike hK, hD9⟩, hS.F ht⟩) hS.2.2 dX0_fail_18

set_option maxHeartbeats 4000000 in
set_option maxRecDepth 100000 in
/-- X0_failHere -/
theorem c_X0_failHere (l : Launch) (D : va_G) (cI : ClassId) (V : (Nat → Nat) × (Nat → Nat)) (h0 : Nat) (b0 : Nat) (ln : Int32) (ca : Int32) (fa : Int32) (fp : Int32) (sz : Nat)   : Met l yX0_failHere (.code yX0_failHere cX0_failHere 1 (some .boolean) :: tbW) ({ frames := 1, cells := 0, slots := 0, locals := 22 }) (va_Pc [.ref h0] (gP D cI V [(h0, .inr (0, [.ref b0, .int ln, .int ca, .int fa, .int fp]))] sz)) (va_Qi (fun (r : Int32) (u : Int32 × Int32) => r = 0 ∧ (u.1, u.2) = if fa = 0 then (2, ca) else (fa, fp)) (fun u => gB D cI (va_A [(h0, .inr (0, [.ref b0, .int ln, .int ca, .int fa, .int fp]))] sz) [(h0, .inr (0, [.ref b0, .int ln, .int ca, .int u.1, .int u.2]))]) (va_A [(h0, .inr (0, [.ref b0, .int ln, .int ca, .int fa, .int fp]))] sz)) 0 0 (va_A [(h0, .inr (0, [.ref b0, .int ln, .int ca, .int fa, .int fp]))] sz) := by
  refine Met.ofW (cc := cX0_failHere) (maxL := 1) (ret := (some .boolean)) (by decide) rfl ?_
  intro p e s m args below meth c s₁ B hml hv
  obtain ⟨rfl, hsz, hP, hK, hD0, hN, hV⟩ := hv
  have hx := B.exec
  have hb := B.bytes
  have hr := B.returns
  have hts := tb_hts (atoms_spec (ws := .code yX0_failHere cX0_failHere 1 (some .boolean) :: tbW) B.pre)
  have hown : s.vm.findClass RX0 = some m.cls := findClass_of_methodNamed B.named
  have hlocks := B.notSynchronized
  subst hsz
  have hD := hD0.self (sz := s.heap.size)
  generalize hAe : va_A [(h0, .inr (0, [.ref b0, .int ln, .int ca, .int fa, .int fp]))] s.heap.size = A at hD hV ⊢
  have hA : ∀ q : Nat, s.heap.size ≤ q → A q := fun q h => by rw [← hAe]; exact Or.inr h
  have hS : va_S A s.heap s.heap [] := va_S.rf
  have hP : va_P D classes [(h0, .inr (0, [.ref b0, .int ln, .int ca, .int fa, .int fp]))] s.heap := hP
  have hl := lv_entry ([.ref h0]) (n := 1) (Nat.le_of_ble_eq_true rfl)
  rw [lg_entry_eq]
  generalize (lg_sl ([.ref h0]) ++ List.replicate (1 - (lg_sl ([.ref h0])).length) Slot.unset).toArray = ls at hl ⊢
  have hl : lv_has ls 1 [(0, .ref h0)] := hl
  refine lv_aload_n hx hb dX0_failHere_0 rfl (lv_at hl 0 rfl) ?_
  refine lv_iconst (v := 2) hx hb dX0_failHere_1 (by decide) ?_
  refine lv_aload_n hx hb dX0_failHere_2 rfl (lv_at hl 0 rfl) ?_
  refine va_get (D := D) (ci := 0) (v := .int ca) (C := RX0) (T := TX0) (N := 5) hx hb hts inX0 hown hK hP 0 rfl rfl 2 (by decide) (hts (Cond.fieldLink "NestedTags$Cursor" 25 "NestedTags$Cursor" "at" "I") kk_1_28) (fun _ h9 => h9) rfl dX0_failHere_3 ?_
  refine gcall_i (va_runV (As := [.int 2, .int ca]) (rest := []) ⟨hx, hb, hml, hown, hts⟩ (c_X0_fail l D cI V h0 b0 ln ca fa fp s.heap.size 2 ca) (cwV 2 hts (tb_goodV kk_2_13 kk_1_188 kk_1_189 kk_1_2 kk_1_190) rfl rfl rfl (hdV_X0_fail) ⟨Nat.le_of_ble_eq_true rfl, Nat.le_of_ble_eq_true rfl⟩) (gpreV hK hN hV hS hA hP hD [0] rfl rfl (by decide) (va_recv hK hP (ci := 0) (q0 := 0) rfl rfl)) rfl rfl hl.1 rfl (lv_room (Nat.le_of_ble_eq_true rfl)) dX0_failHere_6 ⟨Nat.le_of_ble_eq_true rfl, Nat.le_of_ble_eq_true rfl⟩) hP hD hS hA [0] [] (wr := []) rfl rfl (by decide) (by decide) (fun r_1 u_2 H locs hw_6 hP hD hS => ?_)
  try dsimp only at hw_6
  have hP : va_P D classes [(h0, .inr (0, [.ref b0, .int ln, .int ca, .int u_2.1, .int u_2.2]))] H := hP
  have hD : va_D A [(h0, .inr (0, [.ref b0, .int ln, .int ca, .int u_2.1, .int u_2.2]))] := hD
  have hP9 := hP.sub (ws' := [(h0, .inr (0, [.ref b0, .int ln, .int ca, .int u_2.1, .int u_2.2]))]) [0] rfl
  have hD9 := hD.sub (ws' := [(h0, .inr (0, [.ref b0, .int ln, .int ca, .int u_2.1, .int u_2.2]))]) [0] (by decide) rfl
  exact W.zret (v := r_1) (ty := .boolean) hx hb hr (nb01 (Or.inl hw_6.1)) (fun t ht hW => ⟨⟨r_1, (u_2.1, u_2.2), rfl, hw_6, by rw [ht]; exact hP9, va_K.moved hW.alike hK, hD9⟩, hS.F ht⟩) hS.2.2 dX0_failHere_9

set_option maxHeartbeats 4000000 in
set_option maxRecDepth 100000 in
/-- X1_init -/
theorem c_X1_init_20 (l : Launch) (D : va_G) (cI : ClassId) (V : (Nat → Nat) × (Nat → Nat)) (h0 : Nat) (sz : Nat)   : Met l yX1_init (.code yX1_init cX1_init 2 none :: tbW) ({ frames := 1, cells := 2, slots := 40, locals := 15 }) (va_Pc [.ref h0, .int 20] (gP D cI V [(h0, .inr (1, [.null, .null, .int 0, .int 0]))] sz)) (va_Qv (fun (u : Nat × Nat) => True) (fun u => gB D cI (va_A [(h0, .inr (1, [.null, .null, .int 0, .int 0]))] sz) [(h0, .inr (1, [.ref u.1, .ref u.2, .int 20, .int 0])), (u.1, .inl (cI, 20, .inl (fun _ => 0))), (u.2, .inl (cI, 20, .inl (fun _ => 0)))]) (va_A [(h0, .inr (1, [.null, .null, .int 0, .int 0]))] sz)) 2 40 (va_A [(h0, .inr (1, [.null, .null, .int 0, .int 0]))] sz) := by
  refine Met.ofW (cc := cX1_init) (maxL := 2) (ret := none) (by decide) rfl ?_
  intro p e s m args below meth c s₁ B hml hv
  obtain ⟨rfl, hsz, hP, hK, hD0, hN, hV⟩ := hv
  have hx := B.exec
  have hb := B.bytes
  have hr := B.returns
  have hts := tb_hts (atoms_spec (ws := .code yX1_init cX1_init 2 none :: tbW) B.pre)
  have hown : s.vm.findClass RX1 = some m.cls := findClass_of_methodNamed B.named
  have hlocks := B.notSynchronized
  have hin : meth.name = "<init>" := (name_of_methodNamed B.named B.method).1
  subst hsz
  have hD := hD0.self (sz := s.heap.size)
  generalize hAe : va_A [(h0, .inr (1, [.null, .null, .int 0, .int 0]))] s.heap.size = A at hD hV ⊢
  have hA : ∀ q : Nat, s.heap.size ≤ q → A q := fun q h => by rw [← hAe]; exact Or.inr h
  have hS : va_S A s.heap s.heap [] := va_S.rf
  have hP : va_P D classes [(h0, .inr (1, [.null, .null, .int 0, .int 0]))] s.heap := hP
  have hl := lv_entry ([.ref h0, .int 20]) (n := 2) (Nat.le_of_ble_eq_true rfl)
  rw [lg_entry_eq]
  generalize (lg_sl ([.ref h0, .int 20]) ++ List.replicate (2 - (lg_sl ([.ref h0, .int 20])).length) Slot.unset).toArray = ls at hl ⊢
  have hl : lv_has ls 2 [(0, .ref h0), (1, .int 20)] := hl
  refine lv_aload_n hx hb dX1_init_0 rfl (lv_at hl 0 rfl) ?_
  refine W.objInit hx hb hown (hts (Cond.methodLink "NestedTags$Names" 1 objectInit) kk_1_78) (hts (Cond.instanceMethod objectInit) kk_1_17) (hts _ kk_obj) rfl (by rw [hml]; exact hl.1) rfl dX1_init_1 (Nat.le_of_ble_eq_true rfl) (Nat.le_of_ble_eq_true rfl) ?_
  refine W.eq (g2 := F0 m 4 ls []) rfl ?_
  refine lv_aload_n hx hb dX1_init_4 rfl (lv_at hl 0 rfl) ?_
  refine lv_iload_n hx hb dX1_init_5 rfl (lv_at hl 1 rfl) ?_
  refine lv_iconst (v := 0) hx hb dX1_init_6 (by decide) ?_
  refine va_mmax hx hb (by rw [hml, hl.1]) hown (hts (Cond.methodLink "NestedTags$Names" 7 Lib.Math.max.name) kk_1_79) (hts (Cond.static Lib.Math.max.name) kk_1_80) (hts (Cond.initialized "java/lang/Math") kk_1_5) (hts _ kk_mmax) (Nat.le_of_ble_eq_true rfl) (Nat.le_of_ble_eq_true rfl) (Nat.le_of_ble_eq_true rfl) (Nat.le_of_ble_eq_true rfl) dX1_init_7 ?_
  refine lv_topi (fun x_1 ex_1 => ?_)
  obtain rfl : x_1 = 20 := by rw [ex_1]; decide
  refine va_putF (D := D) (ci := 1) (v := .int 20) (ty := .int) (C := RX1) (T := TX1) (N := 4) hx hb hts inX1 tyX1 tyX1_ok nmX1 hown hK hP hD hS 0 rfl rfl 2 (by decide) (hts (Cond.fieldLink "NestedTags$Names" 13 "NestedTags$Names" "limit" "I") kk_1_84) (fun _ h9 => h9) rfl hin rfl (tyX1_ok 2 (by decide)) rfl rfl (Nat.le_of_ble_eq_true rfl) dX1_init_10 (fun H locs hP hD hS => ?_)
  have hP : va_P D classes [(h0, .inr (1, [.null, .null, .int 20, .int 0]))] H := hP
  have hD : va_D A [(h0, .inr (1, [.null, .null, .int 20, .int 0]))] := hD
  refine lv_aload_n hx hb dX1_init_13 rfl (lv_at hl 0 rfl) ?_
  refine lv_aload_n hx hb dX1_init_14 rfl (lv_at hl 0 rfl) ?_
  refine va_get (D := D) (ci := 1) (v := .int 20) (C := RX1) (T := TX1) (N := 4) hx hb hts inX1 hown hK hP 0 rfl rfl 2 (by decide) (hts (Cond.fieldLink "NestedTags$Names" 13 "NestedTags$Names" "limit" "I") kk_1_84) (fun _ h9 => h9) rfl dX1_init_15 ?_
  refine va_newa (atype := .int) (ty := .int) (a0 := (20, .inl (fun _ => 0))) hx hb (hts (Cond.arrayClass .int) kk_1_45) rfl hK hP hD hS hA (fun _ => by first | rfl | exact vp_cell_i) (by decide) (by decide) (by decide) (Nat.le_of_ble_eq_true rfl) (Nat.le_of_ble_eq_true rfl) dX1_init_18 (fun q_2 cA H hK2 hP hD hS => ?_)
  obtain rfl : cI = cA := cA_eq hK hK2
  have hP : va_P D classes [(h0, .inr (1, [.null, .null, .int 20, .int 0])), (q_2, .inl (cI, 20, .inl (fun _ => 0)))] H := hP
  have hD : va_D A [(h0, .inr (1, [.null, .null, .int 20, .int 0])), (q_2, .inl (cI, 20, .inl (fun _ => 0)))] := hD
  refine W.widen (k := 1) (n := 20) (by decide) (by decide) ?_
  refine va_putF (D := D) (ci := 1) (v := .ref q_2) (ty := .array .int) (C := RX1) (T := TX1) (N := 4) hx hb hts inX1 tyX1 tyX1_ok nmX1 hown hK hP hD hS 0 rfl rfl 0 (by decide) (hts (Cond.fieldLink "NestedTags$Names" 19 "NestedTags$Names" "begins" "[I") kk_1_82) (fun _ h9 => h9) rfl hin rfl (tyX1_ok 0 (by decide)) rfl rfl (Nat.le_of_ble_eq_true rfl) dX1_init_20 (fun H locs hP hD hS => ?_)
  have hP : va_P D classes [(h0, .inr (1, [.ref q_2, .null, .int 20, .int 0])), (q_2, .inl (cI, 20, .inl (fun _ => 0)))] H := hP
  have hD : va_D A [(h0, .inr (1, [.ref q_2, .null, .int 20, .int 0])), (q_2, .inl (cI, 20, .inl (fun _ => 0)))] := hD
  refine lv_aload_n hx hb dX1_init_23 rfl (lv_at hl 0 rfl) ?_
  refine lv_aload_n hx hb dX1_init_24 rfl (lv_at hl 0 rfl) ?_
  refine va_get (D := D) (ci := 1) (v := .int 20) (C := RX1) (T := TX1) (N := 4) hx hb hts inX1 hown hK hP 0 rfl rfl 2 (by decide) (hts (Cond.fieldLink "NestedTags$Names" 13 "NestedTags$Names" "limit" "I") kk_1_84) (fun _ h9 => h9) rfl dX1_init_25 ?_
  refine va_newa (atype := .int) (ty := .int) (a0 := (20, .inl (fun _ => 0))) hx hb (hts (Cond.arrayClass .int) kk_1_45) rfl hK hP hD hS hA (fun _ => by first | rfl | exact vp_cell_i) (by decide) (by decide) (by decide) (Nat.le_of_ble_eq_true rfl) (Nat.le_of_ble_eq_true rfl) dX1_init_28 (fun q_3 cA H hK2 hP hD hS => ?_)
  obtain rfl : cI = cA := cA_eq hK hK2
  have hP : va_P D classes [(h0, .inr (1, [.ref q_2, .null, .int 20, .int 0])), (q_2, .inl (cI, 20, .inl (fun _ => 0))), (q_3, .inl (cI, 20, .inl (fun _ => 0)))] H := hP
  have hD : va_D A [(h0, .inr (1, [.ref q_2, .null, .int 20, .int 0])), (q_2, .inl (cI, 20, .inl (fun _ => 0))), (q_3, .inl (cI, 20, .inl (fun _ => 0)))] := hD
  refine W.widen (k := 2) (n := 40) (by decide) (by decide) ?_
  refine va_putF (D := D) (ci := 1) (v := .ref q_3) (ty := .array .int) (C := RX1) (T := TX1) (N := 4) hx hb hts inX1 tyX1 tyX1_ok nmX1 hown hK hP hD hS 0 rfl rfl 1 (by decide) (hts (Cond.fieldLink "NestedTags$Names" 23 "NestedTags$Names" "ends" "[I") kk_1_83) (fun _ h9 => h9) rfl hin rfl (tyX1_ok 1 (by decide)) rfl rfl (Nat.le_of_ble_eq_true rfl) dX1_init_30 (fun H locs hP hD hS => ?_)
  have hP : va_P D classes [(h0, .inr (1, [.ref q_2, .ref q_3, .int 20, .int 0])), (q_2, .inl (cI, 20, .inl (fun _ => 0))), (q_3, .inl (cI, 20, .inl (fun _ => 0)))] H := hP
  have hD : va_D A [(h0, .inr (1, [.ref q_2, .ref q_3, .int 20, .int 0])), (q_2, .inl (cI, 20, .inl (fun _ => 0))), (q_3, .inl (cI, 20, .inl (fun _ => 0)))] := hD
  have hP9 := hP.sub (ws' := [(h0, .inr (1, [.ref q_2, .ref q_3, .int 20, .int 0])), (q_2, .inl (cI, 20, .inl (fun _ => 0))), (q_3, .inl (cI, 20, .inl (fun _ => 0)))]) [0, 1, 2] rfl
  have hD9 := hD.sub (ws' := [(h0, .inr (1, [.ref q_2, .ref q_3, .int 20, .int 0])), (q_2, .inl (cI, 20, .inl (fun _ => 0))), (q_3, .inl (cI, 20, .inl (fun _ => 0)))]) [0, 1, 2] (by decide) rfl
  refine W.widen (k := 2) (n := 40) (by decide) (by decide) ?_
  exact W.vret hx hb hr (fun t ht hW => ⟨⟨(q_2, q_3), rfl, trivial, by rw [ht]; exact hP9, va_K.moved hW.alike hK, hD9⟩, hS.F ht⟩) hS.2.2 dX1_init_33

set_option maxHeartbeats 4000000 in
set_option maxRecDepth 100000 in
/-- X1_init -/
theorem c_X1_init_8 (l : Launch) (D : va_G) (cI : ClassId) (V : (Nat → Nat) × (Nat → Nat)) (h0 : Nat) (sz : Nat)   : Met l yX1_init (.code yX1_init cX1_init 2 none :: tbW) ({ frames := 1, cells := 2, slots := 16, locals := 15 }) (va_Pc [.ref h0, .int 8] (gP D cI V [(h0, .inr (1, [.null, .null, .int 0, .int 0]))] sz)) (va_Qv (fun (u : Nat × Nat) => True) (fun u => gB D cI (va_A [(h0, .inr (1, [.null, .null, .int 0, .int 0]))] sz) [(h0, .inr (1, [.ref u.1, .ref u.2, .int 8, .int 0])), (u.1, .inl (cI, 8, .inl (fun _ => 0))), (u.2, .inl (cI, 8, .inl (fun _ => 0)))]) (va_A [(h0, .inr (1, [.null, .null, .int 0, .int 0]))] sz)) 2 16 (va_A [(h0, .inr (1, [.null, .null, .int 0, .int 0]))] sz) := by
  refine Met.ofW (cc := cX1_init) (maxL := 2) (ret := none) (by decide) rfl ?_
  intro p e s m args below meth c s₁ B hml hv
  obtain ⟨rfl, hsz, hP, hK, hD0, hN, hV⟩ := hv
  have hx := B.exec
  have hb := B.bytes
  have hr := B.returns
  have hts := tb_hts (atoms_spec (ws := .code yX1_init cX1_init 2 none :: tbW) B.pre)
  have hown : s.vm.findClass RX1 = some m.cls := findClass_of_methodNamed B.named
  have hlocks := B.notSynchronized
  have hin : meth.name = "<init>" := (name_of_methodNamed B.named B.method).1
  subst hsz
  have hD := hD0.self (sz := s.heap.size)
  generalize hAe : va_A [(h0, .inr (1, [.null, .null, .int 0, .int 0]))] s.heap.size = A at hD hV ⊢
  have hA : ∀ q : Nat, s.heap.size ≤ q → A q := fun q h => by rw [← hAe]; exact Or.inr h
  have hS : va_S A s.heap s.heap [] := va_S.rf
  have hP : va_P D classes [(h0, .inr (1, [.null, .null, .int 0, .int 0]))] s.heap := hP
  have hl := lv_entry ([.ref h0, .int 8]) (n := 2) (Nat.le_of_ble_eq_true rfl)
  rw [lg_entry_eq]
  generalize (lg_sl ([.ref h0, .int 8]) ++ List.replicate (2 - (lg_sl ([.ref h0, .int 8])).length) Slot.unset).toArray = ls at hl ⊢
  have hl : lv_has ls 2 [(0, .ref h0), (1, .int 8)] := hl
  refine lv_aload_n hx hb dX1_init_0 rfl (lv_at hl 0 rfl) ?_
  refine W.objInit hx hb hown (hts (Cond.methodLink "NestedTags$Names" 1 objectInit) kk_1_78) (hts (Cond.instanceMethod objectInit) kk_1_17) (hts _ kk_obj) rfl (by rw [hml]; exact hl.1) rfl dX1_init_1 (Nat.le_of_ble_eq_true rfl) (Nat.le_of_ble_eq_true rfl) ?_
  refine W.eq (g2 := F0 m 4 ls []) rfl ?_
  refine lv_aload_n hx hb dX1_init_4 rfl (lv_at hl 0 rfl) ?_
  refine lv_iload_n hx hb dX1_init_5 rfl (lv_at hl 1 rfl) ?_
  refine lv_iconst (v := 0) hx hb dX1_init_6 (by decide) ?_
  refine va_mmax hx hb (by rw [hml, hl.1]) hown (hts (Cond.methodLink "NestedTags$Names" 7 Lib.Math.max.name) kk_1_79) (hts (Cond.static Lib.Math.max.name) kk_1_80) (hts (Cond.initialized "java/lang/Math") kk_1_5) (hts _ kk_mmax) (Nat.le_of_ble_eq_true rfl) (Nat.le_of_ble_eq_true rfl) (Nat.le_of_ble_eq_true rfl) (Nat.le_of_ble_eq_true rfl) dX1_init_7 ?_
  refine lv_topi (fun x_1 ex_1 => ?_)
  obtain rfl : x_1 = 8 := by rw [ex_1]; decide
  refine va_putF (D := D) (ci := 1) (v := .int 8) (ty := .int) (C := RX1) (T := TX1) (N := 4) hx hb hts inX1 tyX1 tyX1_ok nmX1 hown hK hP hD hS 0 rfl rfl 2 (by decide) (hts (Cond.fieldLink "NestedTags$Names" 13 "NestedTags$Names" "limit" "I") kk_1_84) (fun _ h9 => h9) rfl hin rfl (tyX1_ok 2 (by decide)) rfl rfl (Nat.le_of_ble_eq_true rfl) dX1_init_10 (fun H locs hP hD hS => ?_)
  have hP : va_P D classes [(h0, .inr (1, [.null, .null, .int 8, .int 0]))] H := hP
  have hD : va_D A [(h0, .inr (1, [.null, .null, .int 8, .int 0]))] := hD
  refine lv_aload_n hx hb dX1_init_13 rfl (lv_at hl 0 rfl) ?_
  refine lv_aload_n hx hb dX1_init_14 rfl (lv_at hl 0 rfl) ?_
  refine va_get (D := D) (ci := 1) (v := .int 8) (C := RX1) (T := TX1) (N := 4) hx hb hts inX1 hown hK hP 0 rfl rfl 2 (by decide) (hts (Cond.fieldLink "NestedTags$Names" 13 "NestedTags$Names" "limit" "I") kk_1_84) (fun _ h9 => h9) rfl dX1_init_15 ?_
  refine va_newa (atype := .int) (ty := .int) (a0 := (8, .inl (fun _ => 0))) hx hb (hts (Cond.arrayClass .int) kk_1_45) rfl hK hP hD hS hA (fun _ => by first | rfl | exact vp_cell_i) (by decide) (by decide) (by decide) (Nat.le_of_ble_eq_true rfl) (Nat.le_of_ble_eq_true rfl) dX1_init_18 (fun q_2 cA H hK2 hP hD hS => ?_)
  obtain rfl : cI = cA := cA_eq hK hK2
  have hP : va_P D classes [(h0, .inr (1, [.null, .null, .int 8, .int 0])), (q_2, .inl (cI, 8, .inl (fun _ => 0)))] H := hP
  have hD : va_D A [(h0, .inr (1, [.null, .null, .int 8, .int 0])), (q_2, .inl (cI, 8, .inl (fun _ => 0)))] := hD
  refine W.widen (k := 1) (n := 8) (by decide) (by decide) ?_
  refine va_putF (D := D) (ci := 1) (v := .ref q_2) (ty := .array .int) (C := RX1) (T := TX1) (N := 4) hx hb hts inX1 tyX1 tyX1_ok nmX1 hown hK hP hD hS 0 rfl rfl 0 (by decide) (hts (Cond.fieldLink "NestedTags$Names" 19 "NestedTags$Names" "begins" "[I") kk_1_82) (fun _ h9 => h9) rfl hin rfl (tyX1_ok 0 (by decide)) rfl rfl (Nat.le_of_ble_eq_true rfl) dX1_init_20 (fun H locs hP hD hS => ?_)
  have hP : va_P D classes [(h0, .inr (1, [.ref q_2, .null, .int 8, .int 0])), (q_2, .inl (cI, 8, .inl (fun _ => 0)))] H := hP
  have hD : va_D A [(h0, .inr (1, [.ref q_2, .null, .int 8, .int 0])), (q_2, .inl (cI, 8, .inl (fun _ => 0)))] := hD
  refine lv_aload_n hx hb dX1_init_23 rfl (lv_at hl 0 rfl) ?_
  refine lv_aload_n hx hb dX1_init_24 rfl (lv_at hl 0 rfl) ?_
  refine va_get (D := D) (ci := 1) (v := .int 8) (C := RX1) (T := TX1) (N := 4) hx hb hts inX1 hown hK hP 0 rfl rfl 2 (by decide) (hts (Cond.fieldLink "NestedTags$Names" 13 "NestedTags$Names" "limit" "I") kk_1_84) (fun _ h9 => h9) rfl dX1_init_25 ?_
  refine va_newa (atype := .int) (ty := .int) (a0 := (8, .inl (fun _ => 0))) hx hb (hts (Cond.arrayClass .int) kk_1_45) rfl hK hP hD hS hA (fun _ => by first | rfl | exact vp_cell_i) (by decide) (by decide) (by decide) (Nat.le_of_ble_eq_true rfl) (Nat.le_of_ble_eq_true rfl) dX1_init_28 (fun q_3 cA H hK2 hP hD hS => ?_)
  obtain rfl : cI = cA := cA_eq hK hK2
  have hP : va_P D classes [(h0, .inr (1, [.ref q_2, .null, .int 8, .int 0])), (q_2, .inl (cI, 8, .inl (fun _ => 0))), (q_3, .inl (cI, 8, .inl (fun _ => 0)))] H := hP
  have hD : va_D A [(h0, .inr (1, [.ref q_2, .null, .int 8, .int 0])), (q_2, .inl (cI, 8, .inl (fun _ => 0))), (q_3, .inl (cI, 8, .inl (fun _ => 0)))] := hD
  refine W.widen (k := 2) (n := 16) (by decide) (by decide) ?_
  refine va_putF (D := D) (ci := 1) (v := .ref q_3) (ty := .array .int) (C := RX1) (T := TX1) (N := 4) hx hb hts inX1 tyX1 tyX1_ok nmX1 hown hK hP hD hS 0 rfl rfl 1 (by decide) (hts (Cond.fieldLink "NestedTags$Names" 23 "NestedTags$Names" "ends" "[I") kk_1_83) (fun _ h9 => h9) rfl hin rfl (tyX1_ok 1 (by decide)) rfl rfl (Nat.le_of_ble_eq_true rfl) dX1_init_30 (fun H locs hP hD hS => ?_)
  have hP : va_P D classes [(h0, .inr (1, [.ref q_2, .ref q_3, .int 8, .int 0])), (q_2, .inl (cI, 8, .inl (fun _ => 0))), (q_3, .inl (cI, 8, .inl (fun _ => 0)))] H := hP
  have hD : va_D A [(h0, .inr (1, [.ref q_2, .ref q_3, .int 8, .int 0])), (q_2, .inl (cI, 8, .inl (fun _ => 0))), (q_3, .inl (cI, 8, .inl (fun _ => 0)))] := hD
  have hP9 := hP.sub (ws' := [(h0, .inr (1, [.ref q_2, .ref q_3, .int 8, .int 0])), (q_2, .inl (cI, 8, .inl (fun _ => 0))), (q_3, .inl (cI, 8, .inl (fun _ => 0)))]) [0, 1, 2] rfl
  have hD9 := hD.sub (ws' := [(h0, .inr (1, [.ref q_2, .ref q_3, .int 8, .int 0])), (q_2, .inl (cI, 8, .inl (fun _ => 0))), (q_3, .inl (cI, 8, .inl (fun _ => 0)))]) [0, 1, 2] (by decide) rfl
  refine W.widen (k := 2) (n := 16) (by decide) (by decide) ?_
  exact W.vret hx hb hr (fun t ht hW => ⟨⟨(q_2, q_3), rfl, trivial, by rw [ht]; exact hP9, va_K.moved hW.alike hK, hD9⟩, hS.F ht⟩) hS.2.2 dX1_init_33

set_option maxHeartbeats 4000000 in
set_option maxRecDepth 100000 in
/-- X1_clear -/
theorem c_X1_clear (l : Launch) (D : va_G) (cI : ClassId) (V : (Nat → Nat) × (Nat → Nat)) (h0 : Nat) (ob : Nat) (on : Nat) (li : Int32) (os : Int32) (sz : Nat)   : Met l yX1_clear (.code yX1_clear cX1_clear 1 none :: tbW) ({ frames := 0, cells := 0, slots := 0, locals := 0 }) (va_Pc [.ref h0] (gP D cI V [(h0, .inr (1, [.ref ob, .ref on, .int li, .int os]))] sz)) (va_Qv (fun (u : Unit) => True) (fun u => gB D cI (va_A [(h0, .inr (1, [.ref ob, .ref on, .int li, .int os]))] sz) [(h0, .inr (1, [.ref ob, .ref on, .int li, .int 0]))]) (va_A [(h0, .inr (1, [.ref ob, .ref on, .int li, .int os]))] sz)) 0 0 (va_A [(h0, .inr (1, [.ref ob, .ref on, .int li, .int os]))] sz) := by
  refine Met.ofW (cc := cX1_clear) (maxL := 1) (ret := none) (by decide) rfl ?_
  intro p e s m args below meth c s₁ B hml hv
  obtain ⟨rfl, hsz, hP, hK, hD0, hN, hV⟩ := hv
  have hx := B.exec
  have hb := B.bytes
  have hr := B.returns
  have hts := tb_hts (atoms_spec (ws := .code yX1_clear cX1_clear 1 none :: tbW) B.pre)
  have hown : s.vm.findClass RX1 = some m.cls := findClass_of_methodNamed B.named
  have hlocks := B.notSynchronized
  subst hsz
  have hD := hD0.self (sz := s.heap.size)
  generalize hAe : va_A [(h0, .inr (1, [.ref ob, .ref on, .int li, .int os]))] s.heap.size = A at hD hV ⊢
  have hA : ∀ q : Nat, s.heap.size ≤ q → A q := fun q h => by rw [← hAe]; exact Or.inr h
  have hS : va_S A s.heap s.heap [] := va_S.rf
  have hP : va_P D classes [(h0, .inr (1, [.ref ob, .ref on, .int li, .int os]))] s.heap := hP
  have hl := lv_entry ([.ref h0]) (n := 1) (Nat.le_of_ble_eq_true rfl)
  rw [lg_entry_eq]
  generalize (lg_sl ([.ref h0]) ++ List.replicate (1 - (lg_sl ([.ref h0])).length) Slot.unset).toArray = ls at hl ⊢
  have hl : lv_has ls 1 [(0, .ref h0)] := hl
  refine lv_aload_n hx hb dX1_clear_0 rfl (lv_at hl 0 rfl) ?_
  refine lv_iconst (v := 0) hx hb dX1_clear_1 (by decide) ?_
  refine va_put (D := D) (ci := 1) (v := .int 0) (ty := .int) (C := RX1) (T := TX1) (N := 4) hx hb hts inX1 tyX1 tyX1_ok nmX1 hown hK hP hD hS 0 rfl rfl 3 (by decide) (hts (Cond.fieldLink "NestedTags$Names" 26 "NestedTags$Names" "size" "I") kk_1_85) (fun _ h9 => h9) rfl (tyX1_ok 3 (by decide)) rfl rfl (Nat.le_of_ble_eq_true rfl) dX1_clear_2 (fun H locs hP hD hS => ?_)
  have hP : va_P D classes [(h0, .inr (1, [.ref ob, .ref on, .int li, .int 0]))] H := hP
  have hD : va_D A [(h0, .inr (1, [.ref ob, .ref on, .int li, .int 0]))] := hD
  have hP9 := hP.sub (ws' := [(h0, .inr (1, [.ref ob, .ref on, .int li, .int 0]))]) [0] rfl
  have hD9 := hD.sub (ws' := [(h0, .inr (1, [.ref ob, .ref on, .int li, .int 0]))]) [0] (by decide) rfl
  exact W.vret hx hb hr (fun t ht hW => ⟨⟨(), rfl, trivial, by rw [ht]; exact hP9, va_K.moved hW.alike hK, hD9⟩, hS.F ht⟩) hS.2.2 dX1_clear_5

set_option maxHeartbeats 4000000 in
set_option maxRecDepth 100000 in
/-- X2_init -/
theorem c_X2_init (l : Launch) (D : va_G) (cI : ClassId) (V : (Nat → Nat) × (Nat → Nat)) (h0 : Nat) (sz : Nat)   : Met l yX2_init (.code yX2_init cX2_init 1 none :: tbW) ({ frames := 1, cells := 4, slots := 600, locals := 12 }) (va_Pc [.ref h0] (gP D cI V [(h0, .inr (2, [.null, .null, .null, .null, .int 0, .int 0]))] sz)) (va_Qv (fun (u : Nat × Nat × Nat × Nat) => True) (fun u => gB D cI (va_A [(h0, .inr (2, [.null, .null, .null, .null, .int 0, .int 0]))] sz) [(h0, .inr (2, [.ref u.1, .ref u.2.1, .ref u.2.2.1, .ref u.2.2.2, .int 0, .int 0])), (u.1, .inl (cI, 150, .inl (fun _ => 0))), (u.2.1, .inl (cI, 150, .inl (fun _ => 0))), (u.2.2.1, .inl (cI, 150, .inl (fun _ => 0))), (u.2.2.2, .inl (cI, 150, .inl (fun _ => 0)))]) (va_A [(h0, .inr (2, [.null, .null, .null, .null, .int 0, .int 0]))] sz)) 4 600 (va_A [(h0, .inr (2, [.null, .null, .null, .null, .int 0, .int 0]))] sz) := by
  refine Met.ofW (cc := cX2_init) (maxL := 1) (ret := none) (by decide) rfl ?_
  intro p e s m args below meth c s₁ B hml hv
  obtain ⟨rfl, hsz, hP, hK, hD0, hN, hV⟩ := hv
  have hx := B.exec
  have hb := B.bytes
  have hr := B.returns
  have hts := tb_hts (atoms_spec (ws := .code yX2_init cX2_init 1 none :: tbW) B.pre)
  have hown : s.vm.findClass RX2 = some m.cls := findClass_of_methodNamed B.named
  have hlocks := B.notSynchronized
  have hin : meth.name = "<init>" := (name_of_methodNamed B.named B.method).1
  subst hsz
  have hD := hD0.self (sz := s.heap.size)
  generalize hAe : va_A [(h0, .inr (2, [.null, .null, .null, .null, .int 0, .int 0]))] s.heap.size = A at hD hV ⊢
  have hA : ∀ q : Nat, s.heap.size ≤ q → A q := fun q h => by rw [← hAe]; exact Or.inr h
  have hS : va_S A s.heap s.heap [] := va_S.rf
  have hP : va_P D classes [(h0, .inr (2, [.null, .null, .null, .null, .int 0, .int 0]))] s.heap := hP
  have hl := lv_entry ([.ref h0]) (n := 1) (Nat.le_of_ble_eq_true rfl)
  rw [lg_entry_eq]
  generalize (lg_sl ([.ref h0]) ++ List.replicate (1 - (lg_sl ([.ref h0])).length) Slot.unset).toArray = ls at hl ⊢
  have hl : lv_has ls 1 [(0, .ref h0)] := hl
  refine lv_aload_n hx hb dX2_init_0 rfl (lv_at hl 0 rfl) ?_
  refine W.objInit hx hb hown (hts (Cond.methodLink "NestedTags$Pieces" 3 objectInit) kk_1_51) (hts (Cond.instanceMethod objectInit) kk_1_17) (hts _ kk_obj) rfl (by rw [hml]; exact hl.1) rfl dX2_init_1 (Nat.le_of_ble_eq_true rfl) (Nat.le_of_ble_eq_true rfl) ?_
  refine W.eq (g2 := F0 m 4 ls []) rfl ?_
  refine lv_aload_n hx hb dX2_init_4 rfl (lv_at hl 0 rfl) ?_
  refine lv_sipush (v := 150) hx hb dX2_init_5 (by decide) ?_
  refine va_newa (atype := .int) (ty := .int) (a0 := (150, .inl (fun _ => 0))) hx hb (hts (Cond.arrayClass .int) kk_1_45) rfl hK hP hD hS hA (fun _ => by first | rfl | exact vp_cell_i) (by decide) (by decide) (by decide) (Nat.le_of_ble_eq_true rfl) (Nat.le_of_ble_eq_true rfl) dX2_init_8 (fun q_1 cA H hK2 hP hD hS => ?_)
  obtain rfl : cI = cA := cA_eq hK hK2
  have hP : va_P D classes [(h0, .inr (2, [.null, .null, .null, .null, .int 0, .int 0])), (q_1, .inl (cI, 150, .inl (fun _ => 0)))] H := hP
  have hD : va_D A [(h0, .inr (2, [.null, .null, .null, .null, .int 0, .int 0])), (q_1, .inl (cI, 150, .inl (fun _ => 0)))] := hD
  refine W.widen (k := 1) (n := 150) (by decide) (by decide) ?_
  refine va_putF (D := D) (ci := 2) (v := .ref q_1) (ty := .array .int) (C := RX2) (T := TX2) (N := 6) hx hb hts inX2 tyX2 tyX2_ok nmX2 hown hK hP hD hS 0 rfl rfl 0 (by decide) (hts (Cond.fieldLink "NestedTags$Pieces" 9 "NestedTags$Pieces" "kinds" "[I") kk_1_52) (fun _ h9 => h9) rfl hin rfl (tyX2_ok 0 (by decide)) rfl rfl (Nat.le_of_ble_eq_true rfl) dX2_init_10 (fun H locs hP hD hS => ?_)
  have hP : va_P D classes [(h0, .inr (2, [.ref q_1, .null, .null, .null, .int 0, .int 0])), (q_1, .inl (cI, 150, .inl (fun _ => 0)))] H := hP
  have hD : va_D A [(h0, .inr (2, [.ref q_1, .null, .null, .null, .int 0, .int 0])), (q_1, .inl (cI, 150, .inl (fun _ => 0)))] := hD
  refine lv_aload_n hx hb dX2_init_13 rfl (lv_at hl 0 rfl) ?_
  refine lv_sipush (v := 150) hx hb dX2_init_14 (by decide) ?_
  refine va_newa (atype := .int) (ty := .int) (a0 := (150, .inl (fun _ => 0))) hx hb (hts (Cond.arrayClass .int) kk_1_45) rfl hK hP hD hS hA (fun _ => by first | rfl | exact vp_cell_i) (by decide) (by decide) (by decide) (Nat.le_of_ble_eq_true rfl) (Nat.le_of_ble_eq_true rfl) dX2_init_17 (fun q_2 cA H hK2 hP hD hS => ?_)
  obtain rfl : cI = cA := cA_eq hK hK2
  have hP : va_P D classes [(h0, .inr (2, [.ref q_1, .null, .null, .null, .int 0, .int 0])), (q_1, .inl (cI, 150, .inl (fun _ => 0))), (q_2, .inl (cI, 150, .inl (fun _ => 0)))] H := hP
  have hD : va_D A [(h0, .inr (2, [.ref q_1, .null, .null, .null, .int 0, .int 0])), (q_1, .inl (cI, 150, .inl (fun _ => 0))), (q_2, .inl (cI, 150, .inl (fun _ => 0)))] := hD
  refine W.widen (k := 2) (n := 300) (by decide) (by decide) ?_
  refine va_putF (D := D) (ci := 2) (v := .ref q_2) (ty := .array .int) (C := RX2) (T := TX2) (N := 6) hx hb hts inX2 tyX2 tyX2_ok nmX2 hown hK hP hD hS 0 rfl rfl 1 (by decide) (hts (Cond.fieldLink "NestedTags$Pieces" 15 "NestedTags$Pieces" "begins" "[I") kk_1_53) (fun _ h9 => h9) rfl hin rfl (tyX2_ok 1 (by decide)) rfl rfl (Nat.le_of_ble_eq_true rfl) dX2_init_19 (fun H locs hP hD hS => ?_)
  have hP : va_P D classes [(h0, .inr (2, [.ref q_1, .ref q_2, .null, .null, .int 0, .int 0])), (q_1, .inl (cI, 150, .inl (fun _ => 0))), (q_2, .inl (cI, 150, .inl (fun _ => 0)))] H := hP
  have hD : va_D A [(h0, .inr (2, [.ref q_1, .ref q_2, .null, .null, .int 0, .int 0])), (q_1, .inl (cI, 150, .inl (fun _ => 0))), (q_2, .inl (cI, 150, .inl (fun _ => 0)))] := hD
  refine lv_aload_n hx hb dX2_init_22 rfl (lv_at hl 0 rfl) ?_
  refine lv_sipush (v := 150) hx hb dX2_init_23 (by decide) ?_
  refine va_newa (atype := .int) (ty := .int) (a0 := (150, .inl (fun _ => 0))) hx hb (hts (Cond.arrayClass .int) kk_1_45) rfl hK hP hD hS hA (fun _ => by first | rfl | exact vp_cell_i) (by decide) (by decide) (by decide) (Nat.le_of_ble_eq_true rfl) (Nat.le_of_ble_eq_true rfl) dX2_init_26 (fun q_3 cA H hK2 hP hD hS => ?_)
  obtain rfl : cI = cA := cA_eq hK hK2
  have hP : va_P D classes [(h0, .inr (2, [.ref q_1, .ref q_2, .null, .null, .int 0, .int 0])), (q_1, .inl (cI, 150, .inl (fun _ => 0))), (q_2, .inl (cI, 150, .inl (fun _ => 0))), (q_3, .inl (cI, 150, .inl (fun _ => 0)))] H := hP
  have hD : va_D A [(h0, .inr (2, [.ref q_1, .ref q_2, .null, .null, .int 0, .int 0])), (q_1, .inl (cI, 150, .inl (fun _ => 0))), (q_2, .inl (cI, 150, .inl (fun _ => 0))), (q_3, .inl (cI, 150, .inl (fun _ => 0)))] := hD
  refine W.widen (k := 3) (n := 450) (by decide) (by decide) ?_
  refine va_putF (D := D) (ci := 2) (v := .ref q_3) (ty := .array .int) (C := RX2) (T := TX2) (N := 6) hx hb hts inX2 tyX2 tyX2_ok nmX2 hown hK hP hD hS 0 rfl rfl 2 (by decide) (hts (Cond.fieldLink "NestedTags$Pieces" 18 "NestedTags$Pieces" "ends" "[I") kk_1_54) (fun _ h9 => h9) rfl hin rfl (tyX2_ok 2 (by decide)) rfl rfl (Nat.le_of_ble_eq_true rfl) dX2_init_28 (fun H locs hP hD hS => ?_)
  have hP : va_P D classes [(h0, .inr (2, [.ref q_1, .ref q_2, .ref q_3, .null, .int 0, .int 0])), (q_1, .inl (cI, 150, .inl (fun _ => 0))), (q_2, .inl (cI, 150, .inl (fun _ => 0))), (q_3, .inl (cI, 150, .inl (fun _ => 0)))] H := hP
  have hD : va_D A [(h0, .inr (2, [.ref q_1, .ref q_2, .ref q_3, .null, .int 0, .int 0])), (q_1, .inl (cI, 150, .inl (fun _ => 0))), (q_2, .inl (cI, 150, .inl (fun _ => 0))), (q_3, .inl (cI, 150, .inl (fun _ => 0)))] := hD
  refine lv_aload_n hx hb dX2_init_31 rfl (lv_at hl 0 rfl) ?_
  refine lv_sipush (v := 150) hx hb dX2_init_32 (by decide) ?_
  refine va_newa (atype := .int) (ty := .int) (a0 := (150, .inl (fun _ => 0))) hx hb (hts (Cond.arrayClass .int) kk_1_45) rfl hK hP hD hS hA (fun _ => by first | rfl | exact vp_cell_i) (by decide) (by decide) (by decide) (Nat.le_of_ble_eq_true rfl) (Nat.le_of_ble_eq_true rfl) dX2_init_35 (fun q_4 cA H hK2 hP hD hS => ?_)
  obtain rfl : cI = cA := cA_eq hK hK2
  have hP : va_P D classes [(h0, .inr (2, [.ref q_1, .ref q_2, .ref q_3, .null, .int 0, .int 0])), (q_1, .inl (cI, 150, .inl (fun _ => 0))), (q_2, .inl (cI, 150, .inl (fun _ => 0))), (q_3, .inl (cI, 150, .inl (fun _ => 0))), (q_4, .inl (cI, 150, .inl (fun _ => 0)))] H := hP
  have hD : va_D A [(h0, .inr (2, [.ref q_1, .ref q_2, .ref q_3, .null, .int 0, .int 0])), (q_1, .inl (cI, 150, .inl (fun _ => 0))), (q_2, .inl (cI, 150, .inl (fun _ => 0))), (q_3, .inl (cI, 150, .inl (fun _ => 0))), (q_4, .inl (cI, 150, .inl (fun _ => 0)))] := hD
  refine W.widen (k := 4) (n := 600) (by decide) (by decide) ?_
  refine va_putF (D := D) (ci := 2) (v := .ref q_4) (ty := .array .int) (C := RX2) (T := TX2) (N := 6) hx hb hts inX2 tyX2 tyX2_ok nmX2 hown hK hP hD hS 0 rfl rfl 3 (by decide) (hts (Cond.fieldLink "NestedTags$Pieces" 21 "NestedTags$Pieces" "depths" "[I") kk_1_55) (fun _ h9 => h9) rfl hin rfl (tyX2_ok 3 (by decide)) rfl rfl (Nat.le_of_ble_eq_true rfl) dX2_init_37 (fun H locs hP hD hS => ?_)
  have hP : va_P D classes [(h0, .inr (2, [.ref q_1, .ref q_2, .ref q_3, .ref q_4, .int 0, .int 0])), (q_1, .inl (cI, 150, .inl (fun _ => 0))), (q_2, .inl (cI, 150, .inl (fun _ => 0))), (q_3, .inl (cI, 150, .inl (fun _ => 0))), (q_4, .inl (cI, 150, .inl (fun _ => 0)))] H := hP
  have hD : va_D A [(h0, .inr (2, [.ref q_1, .ref q_2, .ref q_3, .ref q_4, .int 0, .int 0])), (q_1, .inl (cI, 150, .inl (fun _ => 0))), (q_2, .inl (cI, 150, .inl (fun _ => 0))), (q_3, .inl (cI, 150, .inl (fun _ => 0))), (q_4, .inl (cI, 150, .inl (fun _ => 0)))] := hD
  have hP9 := hP.sub (ws' := [(h0, .inr (2, [.ref q_1, .ref q_2, .ref q_3, .ref q_4, .int 0, .int 0])), (q_1, .inl (cI, 150, .inl (fun _ => 0))), (q_2, .inl (cI, 150, .inl (fun _ => 0))), (q_3, .inl (cI, 150, .inl (fun _ => 0))), (q_4, .inl (cI, 150, .inl (fun _ => 0)))]) [0, 1, 2, 3, 4] rfl
  have hD9 := hD.sub (ws' := [(h0, .inr (2, [.ref q_1, .ref q_2, .ref q_3, .ref q_4, .int 0, .int 0])), (q_1, .inl (cI, 150, .inl (fun _ => 0))), (q_2, .inl (cI, 150, .inl (fun _ => 0))), (q_3, .inl (cI, 150, .inl (fun _ => 0))), (q_4, .inl (cI, 150, .inl (fun _ => 0)))]) [0, 1, 2, 3, 4] (by decide) rfl
  refine W.widen (k := 4) (n := 600) (by decide) (by decide) ?_
  exact W.vret hx hb hr (fun t ht hW => ⟨⟨(q_1, q_2, q_3, q_4), rfl, trivial, by rw [ht]; exact hP9, va_K.moved hW.alike hK, hD9⟩, hS.F ht⟩) hS.2.2 dX2_init_40

set_option maxHeartbeats 4000000 in
set_option maxRecDepth 100000 in
/-- X2_clear -/
theorem c_X2_clear (l : Launch) (D : va_G) (cI : ClassId) (V : (Nat → Nat) × (Nat → Nat)) (h0 : Nat) (pk : Nat) (pb : Nat) (pe : Nat) (pd : Nat) (ps : Int32) (pa : Int32) (sz : Nat)   : Met l yX2_clear (.code yX2_clear cX2_clear 1 none :: tbW) ({ frames := 0, cells := 0, slots := 0, locals := 0 }) (va_Pc [.ref h0] (gP D cI V [(h0, .inr (2, [.ref pk, .ref pb, .ref pe, .ref pd, .int ps, .int pa]))] sz)) (va_Qv (fun (u : Unit) => True) (fun u => gB D cI (va_A [(h0, .inr (2, [.ref pk, .ref pb, .ref pe, .ref pd, .int ps, .int pa]))] sz) [(h0, .inr (2, [.ref pk, .ref pb, .ref pe, .ref pd, .int 0, .int 0]))]) (va_A [(h0, .inr (2, [.ref pk, .ref pb, .ref pe, .ref pd, .int ps, .int pa]))] sz)) 0 0 (va_A [(h0, .inr (2, [.ref pk, .ref pb, .ref pe, .ref pd, .int ps, .int pa]))] sz) := by
  refine Met.ofW (cc := cX2_clear) (maxL := 1) (ret := none) (by decide) rfl ?_
  intro p e s m args below meth c s₁ B hml hv
  obtain ⟨rfl, hsz, hP, hK, hD0, hN, hV⟩ := hv
  have hx := B.exec
  have hb := B.bytes
  have hr := B.returns
  have hts := tb_hts (atoms_spec (ws := .code yX2_clear cX2_clear 1 none :: tbW) B.pre)
  have hown : s.vm.findClass RX2 = some m.cls := findClass_of_methodNamed B.named
  have hlocks := B.notSynchronized
  subst hsz
  have hD := hD0.self (sz := s.heap.size)
  generalize hAe : va_A [(h0, .inr (2, [.ref pk, .ref pb, .ref pe, .ref pd, .int ps, .int pa]))] s.heap.size = A at hD hV ⊢
  have hA : ∀ q : Nat, s.heap.size ≤ q → A q := fun q h => by rw [← hAe]; exact Or.inr h
  have hS : va_S A s.heap s.heap [] := va_S.rf
  have hP : va_P D classes [(h0, .inr (2, [.ref pk, .ref pb, .ref pe, .ref pd, .int ps, .int pa]))] s.heap := hP
  have hl := lv_entry ([.ref h0]) (n := 1) (Nat.le_of_ble_eq_true rfl)
  rw [lg_entry_eq]
  generalize (lg_sl ([.ref h0]) ++ List.replicate (1 - (lg_sl ([.ref h0])).length) Slot.unset).toArray = ls at hl ⊢
  have hl : lv_has ls 1 [(0, .ref h0)] := hl
  refine lv_aload_n hx hb dX2_clear_0 rfl (lv_at hl 0 rfl) ?_
  refine lv_iconst (v := 0) hx hb dX2_clear_1 (by decide) ?_
  refine va_put (D := D) (ci := 2) (v := .int 0) (ty := .int) (C := RX2) (T := TX2) (N := 6) hx hb hts inX2 tyX2 tyX2_ok nmX2 hown hK hP hD hS 0 rfl rfl 4 (by decide) (hts (Cond.fieldLink "NestedTags$Pieces" 24 "NestedTags$Pieces" "size" "I") kk_1_56) (fun _ h9 => h9) rfl (tyX2_ok 4 (by decide)) rfl rfl (Nat.le_of_ble_eq_true rfl) dX2_clear_2 (fun H locs hP hD hS => ?_)
  have hP : va_P D classes [(h0, .inr (2, [.ref pk, .ref pb, .ref pe, .ref pd, .int 0, .int pa]))] H := hP
  have hD : va_D A [(h0, .inr (2, [.ref pk, .ref pb, .ref pe, .ref pd, .int 0, .int pa]))] := hD
  refine lv_aload_n hx hb dX2_clear_5 rfl (lv_at hl 0 rfl) ?_
  refine lv_iconst (v := 0) hx hb dX2_clear_6 (by decide) ?_
  refine va_put (D := D) (ci := 2) (v := .int 0) (ty := .int) (C := RX2) (T := TX2) (N := 6) hx hb hts inX2 tyX2 tyX2_ok nmX2 hown hK hP hD hS 0 rfl rfl 5 (by decide) (hts (Cond.fieldLink "NestedTags$Pieces" 28 "NestedTags$Pieces" "attributes" "I") kk_1_58) (fun _ h9 => h9) rfl (tyX2_ok 5 (by decide)) rfl rfl (Nat.le_of_ble_eq_true rfl) dX2_clear_7 (fun H locs hP hD hS => ?_)
  have hP : va_P D classes [(h0, .inr (2, [.ref pk, .ref pb, .ref pe, .ref pd, .int 0, .int 0]))] H := hP
  have hD : va_D A [(h0, .inr (2, [.ref pk, .ref pb, .ref pe, .ref pd, .int 0, .int 0]))] := hD
  have hP9 := hP.sub (ws' := [(h0, .inr (2, [.ref pk, .ref pb, .ref pe, .ref pd, .int 0, .int 0]))]) [0] rfl
  have hD9 := hD.sub (ws' := [(h0, .inr (2, [.ref pk, .ref pb, .ref pe, .ref pd, .int 0, .int 0]))]) [0] (by decide) rfl
  exact W.vret hx hb hr (fun t ht hW => ⟨⟨(), rfl, trivial, by rw [ht]; exact hP9, va_K.moved hW.alike hK, hD9⟩, hS.F ht⟩) hS.2.2 dX2_clear_10

set_option maxHeartbeats 4000000 in
set_option maxRecDepth 100000 in
/-- X2_tell -/
theorem c_X2_tell (l : Launch) (D : va_G) (cI : ClassId) (V : (Nat → Nat) × (Nat → Nat)) (h0 : Nat) (pk : Nat) (pb : Nat) (pe : Nat) (pd : Nat) (ps : Int32) (pa : Int32) (k1 : Nat → Int32) (k2 : Nat → Int32) (k3 : Nat → Int32) (k4 : Nat → Int32) (sz : Nat) (p1 : Int32) (p2 : Int32)  : Met l yX2_tell (.code yX2_tell cX2_tell 3 (some .int) :: tbW) ({ frames := 0, cells := 0, slots := 0, locals := 0 }) (va_Pc [.ref h0, .int p1, .int p2] (gP D cI V [(h0, .inr (2, [.ref pk, .ref pb, .ref pe, .ref pd, .int ps, .int pa])), (pk, .inl (cI, 150, .inl k1)), (pb, .inl (cI, 150, .inl k2)), (pe, .inl (cI, 150, .inl k3)), (pd, .inl (cI, 150, .inl k4))] sz)) (va_Qi (fun (r : Int32) (u : Unit) => ps = 0 → r = -1) (fun u => gB D cI (va_A [(h0, .inr (2, [.ref pk, .ref pb, .ref pe, .ref pd, .int ps, .int pa])), (pk, .inl (cI, 150, .inl k1)), (pb, .inl (cI, 150, .inl k2)), (pe, .inl (cI, 150, .inl k3)), (pd, .inl (cI, 150, .inl k4))] sz) [(h0, .inr (2, [.ref pk, .ref pb, .ref pe, .ref pd, .int ps, .int pa])), (pk, .inl (cI, 150, .inl k1)), (pb, .inl (cI, 150, .inl k2)), (pe, .inl (cI, 150, .inl k3)), (pd, .inl (cI, 150, .inl k4))]) (va_A [(h0, .inr (2, [.ref pk, .ref pb, .ref pe, .ref pd, .int ps, .int pa])), (pk, .inl (cI, 150, .inl k1)), (pb, .inl (cI, 150, .inl k2)), (pe, .inl (cI, 150, .inl k3)), (pd, .inl (cI, 150, .inl k4))] sz)) 0 0 (va_A [(h0, .inr (2, [.ref pk, .ref pb, .ref pe, .ref pd, .int ps, .int pa])), (pk, .inl (cI, 150, .inl k1)), (pb, .inl (cI, 150, .inl k2)), (pe, .inl (cI, 150, .inl k3)), (pd, .inl (cI, 150, .inl k4))] sz) := by
  refine Met.ofW (cc := cX2_tell) (maxL := 3) (ret := (some .int)) (by decide) rfl ?_
  intro p e s m args below meth c s₁ B hml hv
  obtain ⟨rfl, hsz, hP, hK, hD0, hN, hV⟩ := hv
  have hx := B.exec
  have hb := B.bytes
  have hr := B.returns
  have hts := tb_hts (atoms_spec (ws := .code yX2_tell cX2_tell 3 (some .int) :: tbW) B.pre)
  have hown : s.vm.findClass RX2 = some m.cls := findClass_of_methodNamed B.named
  have hlocks := B.notSynchronized
  subst hsz
  have hD := hD0.self (sz := s.heap.size)
  generalize hAe : va_A [(h0, .inr (2, [.ref pk, .ref pb, .ref pe, .ref pd, .int ps, .int pa])), (pk, .inl (cI, 150, .inl k1)), (pb, .inl (cI, 150, .inl k2)), (pe, .inl (cI, 150, .inl k3)), (pd, .inl (cI, 150, .inl k4))] s.heap.size = A at hD hV ⊢
  have hA : ∀ q : Nat, s.heap.size ≤ q → A q := fun q h => by rw [← hAe]; exact Or.inr h
  have hS : va_S A s.heap s.heap [] := va_S.rf
  have hP : va_P D classes [(h0, .inr (2, [.ref pk, .ref pb, .ref pe, .ref pd, .int ps, .int pa])), (pk, .inl (cI, 150, .inl k1)), (pb, .inl (cI, 150, .inl k2)), (pe, .inl (cI, 150, .inl k3)), (pd, .inl (cI, 150, .inl k4))] s.heap := hP
  have hl := lv_entry ([.ref h0, .int p1, .int p2]) (n := 3) (Nat.le_of_ble_eq_true rfl)
  rw [lg_entry_eq]
  generalize (lg_sl ([.ref h0, .int p1, .int p2]) ++ List.replicate (3 - (lg_sl ([.ref h0, .int p1, .int p2])).length) Slot.unset).toArray = ls at hl ⊢
  have hl : lv_has ls 3 [(0, .ref h0), (1, .int p1), (2, .int p2)] := hl
  refine lv_iload_n hx hb dX2_tell_0 rfl (lv_at hl 1 rfl) ?_
  refine lv_if_lt (tgt := 19) hx hb dX2_tell_1 (by decide) (fun c_1 => ?_) (fun c_1 => ?_)
  · skip
    refine lv_iconst (v := (-1)) hx hb dX2_tell_19 (by decide) ?_
    have hP9 := hP.sub (ws' := [(h0, .inr (2, [.ref pk, .ref pb, .ref pe, .ref pd, .int ps, .int pa])), (pk, .inl (cI, 150, .inl k1)), (pb, .inl (cI, 150, .inl k2)), (pe, .inl (cI, 150, .inl k3)), (pd, .inl (cI, 150, .inl k4))]) [0, 1, 2, 3, 4] rfl
    have hD9 := hD.sub (ws' := [(h0, .inr (2, [.ref pk, .ref pb, .ref pe, .ref pd, .int ps, .int pa])), (pk, .inl (cI, 150, .inl k1)), (pb, .inl (cI, 150, .inl k2)), (pe, .inl (cI, 150, .inl k3)), (pd, .inl (cI, 150, .inl k4))]) [0, 1, 2, 3, 4] (by decide) rfl
    exact W.iret (v := (-1)) hx hb hr (fun t ht hW => ⟨⟨(-1), (), rfl, fun _ => rfl, by rw [ht]; exact hP9, va_K.moved hW.alike hK, hD9⟩, hS.F ht⟩) hS.2.2 dX2_tell_20
  · skip
    refine lv_iload_n hx hb dX2_tell_4 rfl (lv_at hl 1 rfl) ?_
    refine lv_aload_n hx hb dX2_tell_5 rfl (lv_at hl 0 rfl) ?_
    refine va_get (D := D) (ci := 2) (v := .int ps) (C := RX2) (T := TX2) (N := 6) hx hb hts inX2 hown hK hP 0 rfl rfl 4 (by decide) (hts (Cond.fieldLink "NestedTags$Pieces" 24 "NestedTags$Pieces" "size" "I") kk_1_56) (fun _ h9 => h9) rfl dX2_tell_6 ?_
    refine lv_icmp_ge (tgt := 19) hx hb dX2_tell_9 (by decide) (fun c_9 => ?_) (fun c_9 => ?_)
    · skip
      refine lv_iconst (v := (-1)) hx hb dX2_tell_19 (by decide) ?_
      have hP9 := hP.sub (ws' := [(h0, .inr (2, [.ref pk, .ref pb, .ref pe, .ref pd, .int ps, .int pa])), (pk, .inl (cI, 150, .inl k1)), (pb, .inl (cI, 150, .inl k2)), (pe, .inl (cI, 150, .inl k3)), (pd, .inl (cI, 150, .inl k4))]) [0, 1, 2, 3, 4] rfl
      have hD9 := hD.sub (ws' := [(h0, .inr (2, [.ref pk, .ref pb, .ref pe, .ref pd, .int ps, .int pa])), (pk, .inl (cI, 150, .inl k1)), (pb, .inl (cI, 150, .inl k2)), (pe, .inl (cI, 150, .inl k3)), (pd, .inl (cI, 150, .inl k4))]) [0, 1, 2, 3, 4] (by decide) rfl
      exact W.iret (v := (-1)) hx hb hr (fun t ht hW => ⟨⟨(-1), (), rfl, fun _ => rfl, by rw [ht]; exact hP9, va_K.moved hW.alike hK, hD9⟩, hS.F ht⟩) hS.2.2 dX2_tell_20
    · skip
      refine lv_iload_n hx hb dX2_tell_12 rfl (lv_at hl 1 rfl) ?_
      refine lv_sipush (v := 150) hx hb dX2_tell_13 (by decide) ?_
      refine lv_icmp_lt (tgt := 21) hx hb dX2_tell_16 (by decide) (fun c_16 => ?_) (fun c_16 => ?_)
      · skip
        refine lv_iload_n hx hb dX2_tell_21 rfl (lv_at hl 2 rfl) ?_
        by_cases s_22_0 : p2 = 0
        · refine lv_tableIn (off := 30) (tgt := 52) hx hb dX2_tell_22 (by rw [s_22_0]; decide) (by rw [s_22_0]; decide) (by rw [s_22_0]; decide) (by decide) ?_
          refine lv_aload_n hx hb dX2_tell_52 rfl (lv_at hl 0 rfl) ?_
          refine va_get (D := D) (ci := 2) (v := .ref pk) (C := RX2) (T := TX2) (N := 6) hx hb hts inX2 hown hK hP 0 rfl rfl 0 (by decide) (hts (Cond.fieldLink "NestedTags$Pieces" 9 "NestedTags$Pieces" "kinds" "[I") kk_1_52) (fun _ h9 => h9) rfl dX2_tell_53 ?_
          refine lv_iload_n hx hb dX2_tell_56 rfl (lv_at hl 1 rfl) ?_
          refine va_iald hx hb hK hP 1 0 rfl rfl (vin_of c_1 (nlt150 c_16) (by decide)) dX2_tell_57 ?_
          refine lv_topi (fun x_1 ex_1 => ?_)
          have hP9 := hP.sub (ws' := [(h0, .inr (2, [.ref pk, .ref pb, .ref pe, .ref pd, .int ps, .int pa])), (pk, .inl (cI, 150, .inl k1)), (pb, .inl (cI, 150, .inl k2)), (pe, .inl (cI, 150, .inl k3)), (pd, .inl (cI, 150, .inl k4))]) [0, 1, 2, 3, 4] rfl
          have hD9 := hD.sub (ws' := [(h0, .inr (2, [.ref pk, .ref pb, .ref pe, .ref pd, .int ps, .int pa])), (pk, .inl (cI, 150, .inl k1)), (pb, .inl (cI, 150, .inl k2)), (pe, .inl (cI, 150, .inl k3)), (pd, .inl (cI, 150, .inl k4))]) [0, 1, 2, 3, 4] (by decide) rfl
          exact W.iret (v := x_1) hx hb hr (fun t ht hW => ⟨⟨x_1, (), rfl, fun q => absurd c_9 (by rw [q]; exact fun z => z (Int32.not_lt.mp c_1)), by rw [ht]; exact hP9, va_K.moved hW.alike hK, hD9⟩, hS.F ht⟩) hS.2.2 dX2_tell_58
        by_cases s_22_1 : p2 = 1
        · refine lv_tableIn (off := 37) (tgt := 59) hx hb dX2_tell_22 (by rw [s_22_1]; decide) (by rw [s_22_1]; decide) (by rw [s_22_1]; decide) (by decide) ?_
          refine lv_aload_n hx hb dX2_tell_59 rfl (lv_at hl 0 rfl) ?_
          refine va_get (D := D) (ci := 2) (v := .ref pb) (C := RX2) (T := TX2) (N := 6) hx hb hts inX2 hown hK hP 0 rfl rfl 1 (by decide) (hts (Cond.fieldLink "NestedTags$Pieces" 15 "NestedTags$Pieces" "begins" "[I") kk_1_53) (fun _ h9 => h9) rfl dX2_tell_60 ?_
          refine lv_iload_n hx hb dX2_tell_63 rfl (lv_at hl 1 rfl) ?_
          refine va_iald hx hb hK hP 2 0 rfl rfl (vin_of c_1 (nlt150 c_16) (by decide)) dX2_tell_64 ?_
          refine lv_topi (fun x_2 ex_2 => ?_)
          have hP9 := hP.sub (ws' := [(h0, .inr (2, [.ref pk, .ref pb, .ref pe, .ref pd, .int ps, .int pa])), (pk, .inl (cI, 150, .inl k1)), (pb, .inl (cI, 150, .inl k2)), (pe, .inl (cI, 150, .inl k3)), (pd, .inl (cI, 150, .inl k4))]) [0, 1, 2, 3, 4] rfl
          have hD9 := hD.sub (ws' := [(h0, .inr (2, [.ref pk, .ref pb, .ref pe, .ref pd, .int ps, .int pa])), (pk, .inl (cI, 150, .inl k1)), (pb, .inl (cI, 150, .inl k2)), (pe, .inl (cI, 150, .inl k3)), (pd, .inl (cI, 150, .inl k4))]) [0, 1, 2, 3, 4] (by decide) rfl
          exact W.iret (v := x_2) hx hb hr (fun t ht hW => ⟨⟨x_2, (), rfl, fun q => absurd c_9 (by rw [q]; exact fun z => z (Int32.not_lt.mp c_1)), by rw [ht]; exact hP9, va_K.moved hW.alike hK, hD9⟩, hS.F ht⟩) hS.2.2 dX2_tell_65
        by_cases s_22_2 : p2 = 2
        · refine lv_tableIn (off := 44) (tgt := 66) hx hb dX2_tell_22 (by rw [s_22_2]; decide) (by rw [s_22_2]; decide) (by rw [s_22_2]; decide) (by decide) ?_
          refine lv_aload_n hx hb dX2_tell_66 rfl (lv_at hl 0 rfl) ?_
          refine va_get (D := D) (ci := 2) (v := .ref pe) (C := RX2) (T := TX2) (N := 6) hx hb hts inX2 hown hK hP 0 rfl rfl 2 (by decide) (hts (Cond.fieldLink "NestedTags$Pieces" 18 "NestedTags$Pieces" "ends" "[I") kk_1_54) (fun _ h9 => h9) rfl dX2_tell_67 ?_
          refine lv_iload_n hx hb dX2_tell_70 rfl (lv_at hl 1 rfl) ?_
          refine va_iald hx hb hK hP 3 0 rfl rfl (vin_of c_1 (nlt150 c_16) (by decide)) dX2_tell_71 ?_
          refine lv_topi (fun x_3 ex_3 => ?_)
          have hP9 := hP.sub (ws' := [(h0, .inr (2, [.ref pk, .ref pb, .ref pe, .ref pd, .int ps, .int pa])), (pk, .inl (cI, 150, .inl k1)), (pb, .inl (cI, 150, .inl k2)), (pe, .inl (cI, 150, .inl k3)), (pd, .inl (cI, 150, .inl k4))]) [0, 1, 2, 3, 4] rfl
          have hD9 := hD.sub (ws' := [(h0, .inr (2, [.ref pk, .ref pb, .ref pe, .ref pd, .int ps, .int pa])), (pk, .inl (cI, 150, .inl k1)), (pb, .inl (cI, 150, .inl k2)), (pe, .inl (cI, 150, .inl k3)), (pd, .inl (cI, 150, .inl k4))]) [0, 1, 2, 3, 4] (by decide) rfl
          exact W.iret (v := x_3) hx hb hr (fun t ht hW => ⟨⟨x_3, (), rfl, fun q => absurd c_9 (by rw [q]; exact fun z => z (Int32.not_lt.mp c_1)), by rw [ht]; exact hP9, va_K.moved hW.alike hK, hD9⟩, hS.F ht⟩) hS.2.2 dX2_tell_72
        by_cases s_22_3 : p2 = 3
        · refine lv_tableIn (off := 51) (tgt := 73) hx hb dX2_tell_22 (by rw [s_22_3]; decide) (by rw [s_22_3]; decide) (by rw [s_22_3]; decide) (by decide) ?_
          refine lv_aload_n hx hb dX2_tell_73 rfl (lv_at hl 0 rfl) ?_
          refine va_get (D := D) (ci := 2) (v := .ref pd) (C := RX2) (T := TX2) (N := 6) hx hb hts inX2 hown hK hP 0 rfl rfl 3 (by decide) (hts (Cond.fieldLink "NestedTags$Pieces" 21 "NestedTags$Pieces" "depths" "[I") kk_1_55) (fun _ h9 => h9) rfl dX2_tell_74 ?_
          refine lv_iload_n hx hb dX2_tell_77 rfl (lv_at hl 1 rfl) ?_
          refine va_iald hx hb hK hP 4 0 rfl rfl (vin_of c_1 (nlt150 c_16) (by decide)) dX2_tell_78 ?_
          refine lv_topi (fun x_4 ex_4 => ?_)
          have hP9 := hP.sub (ws' := [(h0, .inr (2, [.ref pk, .ref pb, .ref pe, .ref pd, .int ps, .int pa])), (pk, .inl (cI, 150, .inl k1)), (pb, .inl (cI, 150, .inl k2)), (pe, .inl (cI, 150, .inl k3)), (pd, .inl (cI, 150, .inl k4))]) [0, 1, 2, 3, 4] rfl
          have hD9 := hD.sub (ws' := [(h0, .inr (2, [.ref pk, .ref pb, .ref pe, .ref pd, .int ps, .int pa])), (pk, .inl (cI, 150, .inl k1)), (pb, .inl (cI, 150, .inl k2)), (pe, .inl (cI, 150, .inl k3)), (pd, .inl (cI, 150, .inl k4))]) [0, 1, 2, 3, 4] (by decide) rfl
          exact W.iret (v := x_4) hx hb hr (fun t ht hW => ⟨⟨x_4, (), rfl, fun q => absurd c_9 (by rw [q]; exact fun z => z (Int32.not_lt.mp c_1)), by rw [ht]; exact hP9, va_K.moved hW.alike hK, hD9⟩, hS.F ht⟩) hS.2.2 dX2_tell_79
        refine lv_tableOut (tgt := 80) hx hb dX2_tell_22 (by have := lv_neT s_22_0 (a := 0) rfl; have := lv_neT s_22_1 (a := 1) rfl; have := lv_neT s_22_2 (a := 2) rfl; have := lv_neT s_22_3 (a := 3) rfl; omega) (by decide) ?_
        refine lv_iconst (v := (-1)) hx hb dX2_tell_80 (by decide) ?_
        have hP9 := hP.sub (ws' := [(h0, .inr (2, [.ref pk, .ref pb, .ref pe, .ref pd, .int ps, .int pa])), (pk, .inl (cI, 150, .inl k1)), (pb, .inl (cI, 150, .inl k2)), (pe, .inl (cI, 150, .inl k3)), (pd, .inl (cI, 150, .inl k4))]) [0, 1, 2, 3, 4] rfl
        have hD9 := hD.sub (ws' := [(h0, .inr (2, [.ref pk, .ref pb, .ref pe, .ref pd, .int ps, .int pa])), (pk, .inl (cI, 150, .inl k1)), (pb, .inl (cI, 150, .inl k2)), (pe, .inl (cI, 150, .inl k3)), (pd, .inl (cI, 150, .inl k4))]) [0, 1, 2, 3, 4] (by decide) rfl
        exact W.iret (v := (-1)) hx hb hr (fun t ht hW => ⟨⟨(-1), (), rfl, fun _ => rfl, by rw [ht]; exact hP9, va_K.moved hW.alike hK, hD9⟩, hS.F ht⟩) hS.2.2 dX2_tell_81
      · skip
        refine lv_iconst (v := (-1)) hx hb dX2_tell_19 (by decide) ?_
        have hP9 := hP.sub (ws' := [(h0, .inr (2, [.ref pk, .ref pb, .ref pe, .ref pd, .int ps, .int pa])), (pk, .inl (cI, 150, .inl k1)), (pb, .inl (cI, 150, .inl k2)), (pe, .inl (cI, 150, .inl k3)), (pd, .inl (cI, 150, .inl k4))]) [0, 1, 2, 3, 4] rfl
        have hD9 := hD.sub (ws' := [(h0, .inr (2, [.ref pk, .ref pb, .ref pe, .ref pd, .int ps, .int pa])), (pk, .inl (cI, 150, .inl k1)), (pb, .inl (cI, 150, .inl k2)), (pe, .inl (cI, 150, .inl k3)), (pd, .inl (cI, 150, .inl k4))]) [0, 1, 2, 3, 4] (by decide) rfl
        exact W.iret (v := (-1)) hx hb hr (fun t ht hW => ⟨⟨(-1), (), rfl, fun _ => rfl, by rw [ht]; exact hP9, va_K.moved hW.alike hK, hD9⟩, hS.F ht⟩) hS.2.2 dX2_tell_20

set_option maxHeartbeats 4000000 in
set_option maxRecDepth 100000 in
/-- NestedTags(): all 15 cells -/
theorem c_X3_init (l : Launch) (D : va_G) (cI : ClassId) (V : (Nat → Nat) × (Nat → Nat)) (h0 : Nat) (sz : Nat)   : Met l yX3_init (.code yX3_init cX3_init 1 none :: tbW) ({ frames := 2, cells := 14, slots := 1675, locals := 36 }) (va_Pc [.ref h0] (gP D cI V [(h0, .inr (3, [.null, .int 0, .null, .null, .null, .null, .int 0, .int 0, .int 0, .int 0, .int 0, .int 0, .int 0, .int 0]))] sz)) (va_Qv (fun (u : Nat × Nat × Nat × Nat × Nat × Nat × Nat × Nat × Nat × Nat × Nat × Nat × Nat × Nat) => True) (fun u => gB D cI (va_A [(h0, .inr (3, [.null, .int 0, .null, .null, .null, .null, .int 0, .int 0, .int 0, .int 0, .int 0, .int 0, .int 0, .int 0]))] sz) [(h0, .inr (3, [.ref u.1, .int 0, .ref u.2.1, .ref u.2.2.2.1, .ref u.2.2.2.2.2.2.2.2.1, .ref u.2.2.2.2.2.2.2.2.2.2.2.1, .int 0, .int 0, .int 0, .int 0, .int 0, .int 0, .int 0, .int (-1)])), (u.1, .inl (cI, 500, .inl (fun _ => 0))), (u.2.1, .inr (0, [.ref u.2.2.1, .int 0, .int 0, .int 0, .int (-1)])), (u.2.2.1, .inl (cI, 500, .inl (fun _ => 0))), (u.2.2.2.1, .inr (2, [.ref u.2.2.2.2.1, .ref u.2.2.2.2.2.1, .ref u.2.2.2.2.2.2.1, .ref u.2.2.2.2.2.2.2.1, .int 0, .int 0])), (u.2.2.2.2.1, .inl (cI, 150, .inl (fun _ => 0))), (u.2.2.2.2.2.1, .inl (cI, 150, .inl (fun _ => 0))), (u.2.2.2.2.2.2.1, .inl (cI, 150, .inl (fun _ => 0))), (u.2.2.2.2.2.2.2.1, .inl (cI, 150, .inl (fun _ => 0))), (u.2.2.2.2.2.2.2.2.1, .inr (1, [.ref u.2.2.2.2.2.2.2.2.2.1, .ref u.2.2.2.2.2.2.2.2.2.2.1, .int 20, .int 0])), (u.2.2.2.2.2.2.2.2.2.1, .inl (cI, 20, .inl (fun _ => 0))), (u.2.2.2.2.2.2.2.2.2.2.1, .inl (cI, 20, .inl (fun _ => 0))), (u.2.2.2.2.2.2.2.2.2.2.2.1, .inr (1, [.ref u.2.2.2.2.2.2.2.2.2.2.2.2.1, .ref u.2.2.2.2.2.2.2.2.2.2.2.2.2, .int 8, .int 0])), (u.2.2.2.2.2.2.2.2.2.2.2.2.1, .inl (cI, 8, .inl (fun _ => 0))), (u.2.2.2.2.2.2.2.2.2.2.2.2.2, .inl (cI, 8, .inl (fun _ => 0)))]) (va_A [(h0, .inr (3, [.null, .int 0, .null, .null, .null, .null, .int 0, .int 0, .int 0, .int 0, .int 0, .int 0, .int 0, .int 0]))] sz)) 14 1675 (va_A [(h0, .inr (3, [.null, .int 0, .null, .null, .null, .null, .int 0, .int 0, .int 0, .int 0, .int 0, .int 0, .int 0, .int 0]))] sz) := by
  refine Met.ofW (cc := cX3_init) (maxL := 1) (ret := none) (by decide) rfl ?_
  intro p e s m args below meth c s₁ B hml hv
  obtain ⟨rfl, hsz, hP, hK, hD0, hN, hV⟩ := hv
  have hx := B.exec
  have hb := B.bytes
  have hr := B.returns
  have hts := tb_hts (atoms_spec (ws := .code yX3_init cX3_init 1 none :: tbW) B.pre)
  have hown : s.vm.findClass RX3 = some m.cls := findClass_of_methodNamed B.named
  have hlocks := B.notSynchronized
  have hin : meth.name = "<init>" := (name_of_methodNamed B.named B.method).1
  subst hsz
  have hD := hD0.self (sz := s.heap.size)
  generalize hAe : va_A [(h0, .inr (3, [.null, .int 0, .null, .null, .null, .null, .int 0, .int 0, .int 0, .int 0, .int 0, .int 0, .int 0, .int 0]))] s.heap.size = A at hD hV ⊢
  have hA : ∀ q : Nat, s.heap.size ≤ q → A q := fun q h => by rw [← hAe]; exact Or.inr h
  have hS : va_S A s.heap s.heap [] := va_S.rf
  have hP : va_P D classes [(h0, .inr (3, [.null, .int 0, .null, .null, .null, .null, .int 0, .int 0, .int 0, .int 0, .int 0, .int 0, .int 0, .int 0]))] s.heap := hP
  have hl := lv_entry ([.ref h0]) (n := 1) (Nat.le_of_ble_eq_true rfl)
  rw [lg_entry_eq]
  generalize (lg_sl ([.ref h0]) ++ List.replicate (1 - (lg_sl ([.ref h0])).length) Slot.unset).toArray = ls at hl ⊢
  have hl : lv_has ls 1 [(0, .ref h0)] := hl
  refine lv_aload_n hx hb dX3_init_0 rfl (lv_at hl 0 rfl) ?_
  refine W.objInit hx hb hown (hts (Cond.methodLink "NestedTags" 1 objectInit) kk_1_16) (hts (Cond.instanceMethod objectInit) kk_1_17) (hts _ kk_obj) rfl (by rw [hml]; exact hl.1) rfl dX3_init_1 (Nat.le_of_ble_eq_true rfl) (Nat.le_of_ble_eq_true rfl) ?_
  refine W.eq (g2 := F0 m 4 ls []) rfl ?_
  refine lv_aload_n hx hb dX3_init_4 rfl (lv_at hl 0 rfl) ?_
  refine lv_sipush (v := 500) hx hb dX3_init_5 (by decide) ?_
  refine va_newa (atype := .int) (ty := .int) (a0 := (500, .inl (fun _ => 0))) hx hb (hts (Cond.arrayClass .int) kk_1_45) rfl hK hP hD hS hA (fun _ => by first | rfl | exact vp_cell_i) (by decide) (by decide) (by decide) (Nat.le_of_ble_eq_true rfl) (Nat.le_of_ble_eq_true rfl) dX3_init_8 (fun q_1 cA H hK2 hP hD hS => ?_)
  obtain rfl : cI = cA := cA_eq hK hK2
  have hP : va_P D classes [(h0, .inr (3, [.null, .int 0, .null, .null, .null, .null, .int 0, .int 0, .int 0, .int 0, .int 0, .int 0, .int 0, .int 0])), (q_1, .inl (cI, 500, .inl (fun _ => 0)))] H := hP
  have hD : va_D A [(h0, .inr (3, [.null, .int 0, .null, .null, .null, .null, .int 0, .int 0, .int 0, .int 0, .int 0, .int 0, .int 0, .int 0])), (q_1, .inl (cI, 500, .inl (fun _ => 0)))] := hD
  refine W.widen (k := 1) (n := 500) (by decide) (by decide) ?_
  refine va_put (D := D) (ci := 3) (v := .ref q_1) (ty := .array .int) (C := RX3) (T := TX3) (N := 14) hx hb hts inX3 tyX3 tyX3_ok nmX3 hown hK hP hD hS 0 rfl rfl 0 (by decide) (hts (Cond.fieldLink "NestedTags" 9 "NestedTags" "coming" "[I") kk_1_96) (fun _ h9 => h9) rfl (tyX3_ok 0 (by decide)) rfl rfl (Nat.le_of_ble_eq_true rfl) dX3_init_10 (fun H locs hP hD hS => ?_)
  have hP : va_P D classes [(h0, .inr (3, [.ref q_1, .int 0, .null, .null, .null, .null, .int 0, .int 0, .int 0, .int 0, .int 0, .int 0, .int 0, .int 0])), (q_1, .inl (cI, 500, .inl (fun _ => 0)))] H := hP
  have hD : va_D A [(h0, .inr (3, [.ref q_1, .int 0, .null, .null, .null, .null, .int 0, .int 0, .int 0, .int 0, .int 0, .int 0, .int 0, .int 0])), (q_1, .inl (cI, 500, .inl (fun _ => 0)))] := hD
  refine lv_aload_n hx hb dX3_init_13 rfl (lv_at hl 0 rfl) ?_
  refine va_new (D := D) (ci := 0) (fs := [.null, .int 0, .int 0, .int 0, .int 0]) (C := RX0) (T := TX0) (N := 5) hx hb hts inX0 tyX0 tyX0_ok hown (hts (Cond.classLink "NestedTags" 13 "NestedTags$Cursor") kk_1_19) (hts (Cond.instantiable "NestedTags$Cursor" 5) kk_1_20) (hts (Cond.initialized "NestedTags$Cursor") kk_1_2) hK hP hD hS hA rfl (fun j hj => by rcases (show j = 0 ∨ j = 1 ∨ j = 2 ∨ j = 3 ∨ j = 4 by omega) with rfl | rfl | rfl | rfl | rfl <;> rfl) (Nat.le_of_ble_eq_true rfl) (Nat.le_of_ble_eq_true rfl) dX3_init_14 (fun q_2 H hP hD hS => ?_)
  have hP : va_P D classes [(h0, .inr (3, [.ref q_1, .int 0, .null, .null, .null, .null, .int 0, .int 0, .int 0, .int 0, .int 0, .int 0, .int 0, .int 0])), (q_1, .inl (cI, 500, .inl (fun _ => 0))), (q_2, .inr (0, [.null, .int 0, .int 0, .int 0, .int 0]))] H := hP
  have hD : va_D A [(h0, .inr (3, [.ref q_1, .int 0, .null, .null, .null, .null, .int 0, .int 0, .int 0, .int 0, .int 0, .int 0, .int 0, .int 0])), (q_1, .inl (cI, 500, .inl (fun _ => 0))), (q_2, .inr (0, [.null, .int 0, .int 0, .int 0, .int 0]))] := hD
  refine W.widen (k := 2) (n := 505) (by decide) (by decide) ?_
  refine lv_dup hx hb dX3_init_17 rfl ?_
  refine gcall_v (va_runI (As := []) (rest := [.ref q_2, .ref h0]) ⟨hx, hb, hml, hown, hts⟩ (c_X0_init l D cI V q_2 H.size ) (cwI 0 hts (tb_good kk_1_23) rfl rfl rfl (hts (Cond.initialized "NestedTags$Cursor") kk_1_2) (hts (Cond.methodLink "NestedTags" 15 yX0_init) kk_1_21) (hts (Cond.instanceMethod yX0_init) kk_1_22) rfl (by decide +kernel) ⟨Nat.le_of_ble_eq_true rfl, Nat.le_of_ble_eq_true rfl⟩) (gpreS hK hN hV hS hA hP hD [2] rfl rfl (by decide)) rfl rfl hl.1 rfl (lv_room (Nat.le_of_ble_eq_true rfl)) dX3_init_18 ⟨Nat.le_of_ble_eq_true rfl, Nat.le_of_ble_eq_true rfl⟩) hP hD hS hA [2] [0, 1] (wr := [(h0, .inr (3, [.ref q_1, .int 0, .null, .null, .null, .null, .int 0, .int 0, .int 0, .int 0, .int 0, .int 0, .int 0, .int 0])), (q_1, .inl (cI, 500, .inl (fun _ => 0)))]) rfl rfl (by decide) (by decide) (fun u_4 H locs hw_18 hP hD hS => ?_)
  try dsimp only at hw_18
  have hP : va_P D classes [(h0, .inr (3, [.ref q_1, .int 0, .null, .null, .null, .null, .int 0, .int 0, .int 0, .int 0, .int 0, .int 0, .int 0, .int 0])), (q_1, .inl (cI, 500, .inl (fun _ => 0))), (q_2, .inr (0, [.ref u_4, .int 0, .int 0, .int 0, .int (-1)])), (u_4, .inl (cI, 500, .inl (fun _ => 0)))] H := hP
  have hD : va_D A [(h0, .inr (3, [.ref q_1, .int 0, .null, .null, .null, .null, .int 0, .int 0, .int 0, .int 0, .int 0, .int 0, .int 0, .int 0])), (q_1, .inl (cI, 500, .inl (fun _ => 0))), (q_2, .inr (0, [.ref u_4, .int 0, .int 0, .int 0, .int (-1)])), (u_4, .inl (cI, 500, .inl (fun _ => 0)))] := hD
  refine W.widen (k := 3) (n := 1005) (by decide) (by decide) ?_
  refine va_putF (D := D) (ci := 3) (v := .ref q_2) (ty := .object "NestedTags$Cursor") (C := RX3) (T := TX3) (N := 14) hx hb hts inX3 tyX3 tyX3_ok nmX3 hown hK hP hD hS 0 rfl rfl 2 (by decide) (hts (Cond.fieldLink "NestedTags" 16 "NestedTags" "cursor" "LNestedTags$Cursor;") kk_1_98) (fun _ h9 => h9) rfl hin rfl (tyX3_ok 2 (by decide)) rfl rfl (Nat.le_of_ble_eq_true rfl) dX3_init_21 (fun H locs hP hD hS => ?_)
  have hP : va_P D classes [(h0, .inr (3, [.ref q_1, .int 0, .ref q_2, .null, .null, .null, .int 0, .int 0, .int 0, .int 0, .int 0, .int 0, .int 0, .int 0])), (q_1, .inl (cI, 500, .inl (fun _ => 0))), (q_2, .inr (0, [.ref u_4, .int 0, .int 0, .int 0, .int (-1)])), (u_4, .inl (cI, 500, .inl (fun _ => 0)))] H := hP
  have hD : va_D A [(h0, .inr (3, [.ref q_1, .int 0, .ref q_2, .null, .null, .null, .int 0, .int 0, .int 0, .int 0, .int 0, .int 0, .int 0, .int 0])), (q_1, .inl (cI, 500, .inl (fun _ => 0))), (q_2, .inr (0, [.ref u_4, .int 0, .int 0, .int 0, .int (-1)])), (u_4, .inl (cI, 500, .inl (fun _ => 0)))] := hD
  refine lv_aload_n hx hb dX3_init_24 rfl (lv_at hl 0 rfl) ?_
  refine va_new (D := D) (ci := 2) (fs := [.null, .null, .null, .null, .int 0, .int 0]) (C := RX2) (T := TX2) (N := 6) hx hb hts inX2 tyX2 tyX2_ok hown (hts (Cond.classLink "NestedTags" 20 "NestedTags$Pieces") kk_1_46) (hts (Cond.instantiable "NestedTags$Pieces" 6) kk_1_47) (hts (Cond.initialized "NestedTags$Pieces") kk_1_3) hK hP hD hS hA rfl (fun j hj => by rcases (show j = 0 ∨ j = 1 ∨ j = 2 ∨ j = 3 ∨ j = 4 ∨ j = 5 by omega) with rfl | rfl | rfl | rfl | rfl | rfl <;> rfl) (Nat.le_of_ble_eq_true rfl) (Nat.le_of_ble_eq_true rfl) dX3_init_25 (fun q_5 H hP hD hS => ?_)
  have hP : va_P D classes [(h0, .inr (3, [.ref q_1, .int 0, .ref q_2, .null, .null, .null, .int 0, .int 0, .int 0, .int 0, .int 0, .int 0, .int 0, .int 0])), (q_1, .inl (cI, 500, .inl (fun _ => 0))), (q_2, .inr (0, [.ref u_4, .int 0, .int 0, .int 0, .int (-1)])), (u_4, .inl (cI, 500, .inl (fun _ => 0))), (q_5, .inr (2, [.null, .null, .null, .null, .int 0, .int 0]))] H := hP
  have hD : va_D A [(h0, .inr (3, [.ref q_1, .int 0, .ref q_2, .null, .null, .null, .int 0, .int 0, .int 0, .int 0, .int 0, .int 0, .int 0, .int 0])), (q_1, .inl (cI, 500, .inl (fun _ => 0))), (q_2, .inr (0, [.ref u_4, .int 0, .int 0, .int 0, .int (-1)])), (u_4, .inl (cI, 500, .inl (fun _ => 0))), (q_5, .inr (2, [.null, .null, .null, .null, .int 0, .int 0]))] := hD
  refine W.widen (k := 4) (n := 1011) (by decide) (by decide) ?_
  refine lv_dup hx hb dX3_init_28 rfl ?_
  refine gcall_v (va_runI (As := []) (rest := [.ref q_5, .ref h0]) ⟨hx, hb, hml, hown, hts⟩ (c_X2_init l D cI V q_5 H.size ) (cwI 0 hts (tb_good kk_1_50) rfl rfl rfl (hts (Cond.initialized "NestedTags$Pieces") kk_1_3) (hts (Cond.methodLink "NestedTags" 22 yX2_init) kk_1_48) (hts (Cond.instanceMethod yX2_init) kk_1_49) rfl (by decide +kernel) ⟨Nat.le_of_ble_eq_true rfl, Nat.le_of_ble_eq_true rfl⟩) (gpreS hK hN hV hS hA hP hD [4] rfl rfl (by decide)) rfl rfl hl.1 rfl (lv_room (Nat.le_of_ble_eq_true rfl)) dX3_init_29 ⟨Nat.le_of_ble_eq_true rfl, Nat.le_of_ble_eq_true rfl⟩) hP hD hS hA [4] [0, 1, 2, 3] (wr := [(h0, .inr (3, [.ref q_1, .int 0, .ref q_2, .null, .null, .null, .int 0, .int 0, .int 0, .int 0, .int 0, .int 0, .int 0, .int 0])), (q_1, .inl (cI, 500, .inl (fun _ => 0))), (q_2, .inr (0, [.ref u_4, .int 0, .int 0, .int 0, .int (-1)])), (u_4, .inl (cI, 500, .inl (fun _ => 0)))]) rfl rfl (by decide) (by decide) (fun u_7 H locs hw_29 hP hD hS => ?_)
  try dsimp only at hw_29
  have hP : va_P D classes [(h0, .inr (3, [.ref q_1, .int 0, .ref q_2, .null, .null, .null, .int 0, .int 0, .int 0, .int 0, .int 0, .int 0, .int 0, .int 0])), (q_1, .inl (cI, 500, .inl (fun _ => 0))), (q_2, .inr (0, [.ref u_4, .int 0, .int 0, .int 0, .int (-1)])), (u_4, .inl (cI, 500, .inl (fun _ => 0))), (q_5, .inr (2, [.ref u_7.1, .ref u_7.2.1, .ref u_7.2.2.1, .ref u_7.2.2.2, .int 0, .int 0])), (u_7.1, .inl (cI, 150, .inl (fun _ => 0))), (u_7.2.1, .inl (cI, 150, .inl (fun _ => 0))), (u_7.2.2.1, .inl (cI, 150, .inl (fun _ => 0))), (u_7.2.2.2, .inl (cI, 150, .inl (fun _ => 0)))] H := hP
  have hD : va_D A [(h0, .inr (3, [.ref q_1, .int 0, .ref q_2, .null, .null, .null, .int 0, .int 0, .int 0, .int 0, .int 0, .int 0, .int 0, .int 0])), (q_1, .inl (cI, 500, .inl (fun _ => 0))), (q_2, .inr (0, [.ref u_4, .int 0, .int 0, .int 0, .int (-1)])), (u_4, .inl (cI, 500, .inl (fun _ => 0))), (q_5, .inr (2, [.ref u_7.1, .ref u_7.2.1, .ref u_7.2.2.1, .ref u_7.2.2.2, .int 0, .int 0])), (u_7.1, .inl (cI, 150, .inl (fun _ => 0))), (u_7.2.1, .inl (cI, 150, .inl (fun _ => 0))), (u_7.2.2.1, .inl (cI, 150, .inl (fun _ => 0))), (u_7.2.2.2, .inl (cI, 150, .inl (fun _ => 0)))] := hD
  refine W.widen (k := 8) (n := 1611) (by decide) (by decide) ?_
  refine va_putF (D := D) (ci := 3) (v := .ref q_5) (ty := .object "NestedTags$Pieces") (C := RX3) (T := TX3) (N := 14) hx hb hts inX3 tyX3 tyX3_ok nmX3 hown hK hP hD hS 0 rfl rfl 3 (by decide) (hts (Cond.fieldLink "NestedTags" 23 "NestedTags" "pieces" "LNestedTags$Pieces;") kk_1_99) (fun _ h9 => h9) rfl hin rfl (tyX3_ok 3 (by decide)) rfl rfl (Nat.le_of_ble_eq_true rfl) dX3_init_32 (fun H locs hP hD hS => ?_)
  have hP : va_P D classes [(h0, .inr (3, [.ref q_1, .int 0, .ref q_2, .ref q_5, .null, .null, .int 0, .int 0, .int 0, .int 0, .int 0, .int 0, .int 0, .int 0])), (q_1, .inl (cI, 500, .inl (fun _ => 0))), (q_2, .inr (0, [.ref u_4, .int 0, .int 0, .int 0, .int (-1)])), (u_4, .inl (cI, 500, .inl (fun _ => 0))), (q_5, .inr (2, [.ref u_7.1, .ref u_7.2.1, .ref u_7.2.2.1, .ref u_7.2.2.2, .int 0, .int 0])), (u_7.1, .inl (cI, 150, .inl (fun _ => 0))), (u_7.2.1, .inl (cI, 150, .inl (fun _ => 0))), (u_7.2.2.1, .inl (cI, 150, .inl (fun _ => 0))), (u_7.2.2.2, .inl (cI, 150, .inl (fun _ => 0)))] H := hP
  have hD : va_D A [(h0, .inr (3, [.ref q_1, .int 0, .ref q_2, .ref q_5, .null, .null, .int 0, .int 0, .int 0, .int 0, .int 0, .int 0, .int 0, .int 0])), (q_1, .inl (cI, 500, .inl (fun _ => 0))), (q_2, .inr (0, [.ref u_4, .int 0, .int 0, .int 0, .int (-1)])), (u_4, .inl (cI, 500, .inl (fun _ => 0))), (q_5, .inr (2, [.ref u_7.1, .ref u_7.2.1, .ref u_7.2.2.1, .ref u_7.2.2.2, .int 0, .int 0])), (u_7.1, .inl (cI, 150, .inl (fun _ => 0))), (u_7.2.1, .inl (cI, 150, .inl (fun _ => 0))), (u_7.2.2.1, .inl (cI, 150, .inl (fun _ => 0))), (u_7.2.2.2, .inl (cI, 150, .inl (fun _ => 0)))] := hD
  refine lv_aload_n hx hb dX3_init_35 rfl (lv_at hl 0 rfl) ?_
  refine va_new (D := D) (ci := 1) (fs := [.null, .null, .int 0, .int 0]) (C := RX1) (T := TX1) (N := 4) hx hb hts inX1 tyX1 tyX1_ok hown (hts (Cond.classLink "NestedTags" 27 "NestedTags$Names") kk_1_73) (hts (Cond.instantiable "NestedTags$Names" 4) kk_1_74) (hts (Cond.initialized "NestedTags$Names") kk_1_4) hK hP hD hS hA rfl (fun j hj => by rcases (show j = 0 ∨ j = 1 ∨ j = 2 ∨ j = 3 by omega) with rfl | rfl | rfl | rfl <;> rfl) (Nat.le_of_ble_eq_true rfl) (Nat.le_of_ble_eq_true rfl) dX3_init_36 (fun q_8 H hP hD hS => ?_)
  have hP : va_P D classes [(h0, .inr (3, [.ref q_1, .int 0, .ref q_2, .ref q_5, .null, .null, .int 0, .int 0, .int 0, .int 0, .int 0, .int 0, .int 0, .int 0])), (q_1, .inl (cI, 500, .inl (fun _ => 0))), (q_2, .inr (0, [.ref u_4, .int 0, .int 0, .int 0, .int (-1)])), (u_4, .inl (cI, 500, .inl (fun _ => 0))), (q_5, .inr (2, [.ref u_7.1, .ref u_7.2.1, .ref u_7.2.2.1, .ref u_7.2.2.2, .int 0, .int 0])), (u_7.1, .inl (cI, 150, .inl (fun _ => 0))), (u_7.2.1, .inl (cI, 150, .inl (fun _ => 0))), (u_7.2.2.1, .inl (cI, 150, .inl (fun _ => 0))), (u_7.2.2.2, .inl (cI, 150, .inl (fun _ => 0))), (q_8, .inr (1, [.null, .null, .int 0, .int 0]))] H := hP
  have hD : va_D A [(h0, .inr (3, [.ref q_1, .int 0, .ref q_2, .ref q_5, .null, .null, .int 0, .int 0, .int 0, .int 0, .int 0, .int 0, .int 0, .int 0])), (q_1, .inl (cI, 500, .inl (fun _ => 0))), (q_2, .inr (0, [.ref u_4, .int 0, .int 0, .int 0, .int (-1)])), (u_4, .inl (cI, 500, .inl (fun _ => 0))), (q_5, .inr (2, [.ref u_7.1, .ref u_7.2.1, .ref u_7.2.2.1, .ref u_7.2.2.2, .int 0, .int 0])), (u_7.1, .inl (cI, 150, .inl (fun _ => 0))), (u_7.2.1, .inl (cI, 150, .inl (fun _ => 0))), (u_7.2.2.1, .inl (cI, 150, .inl (fun _ => 0))), (u_7.2.2.2, .inl (cI, 150, .inl (fun _ => 0))), (q_8, .inr (1, [.null, .null, .int 0, .int 0]))] := hD
  refine W.widen (k := 9) (n := 1615) (by decide) (by decide) ?_
  refine lv_dup hx hb dX3_init_39 rfl ?_
  refine lv_bipush (v := 20) hx hb dX3_init_40 (by decide) ?_
  refine gcall_v (va_runI (As := [.int 20]) (rest := [.ref q_8, .ref h0]) ⟨hx, hb, hml, hown, hts⟩ (c_X1_init_20 l D cI V q_8 H.size ) (cwI 1 hts (tb_good kk_1_77) rfl rfl rfl (hts (Cond.initialized "NestedTags$Names") kk_1_4) (hts (Cond.methodLink "NestedTags" 29 yX1_init) kk_1_75) (hts (Cond.instanceMethod yX1_init) kk_1_76) rfl (by decide +kernel) ⟨Nat.le_of_ble_eq_true rfl, Nat.le_of_ble_eq_true rfl⟩) (gpreS hK hN hV hS hA hP hD [9] rfl rfl (by decide)) rfl rfl hl.1 rfl (lv_room (Nat.le_of_ble_eq_true rfl)) dX3_init_42 ⟨Nat.le_of_ble_eq_true rfl, Nat.le_of_ble_eq_true rfl⟩) hP hD hS hA [9] [0, 1, 2, 3, 4, 5, 6, 7, 8] (wr := [(h0, .inr (3, [.ref q_1, .int 0, .ref q_2, .ref q_5, .null, .null, .int 0, .int 0, .int 0, .int 0, .int 0, .int 0, .int 0, .int 0])), (q_1, .inl (cI, 500, .inl (fun _ => 0))), (q_2, .inr (0, [.ref u_4, .int 0, .int 0, .int 0, .int (-1)])), (u_4, .inl (cI, 500, .inl (fun _ => 0))), (q_5, .inr (2, [.ref u_7.1, .ref u_7.2.1, .ref u_7.2.2.1, .ref u_7.2.2.2, .int 0, .int 0])), (u_7.1, .inl (cI, 150, .inl (fun _ => 0))), (u_7.2.1, .inl (cI, 150, .inl (fun _ => 0))), (u_7.2.2.1, .inl (cI, 150, .inl (fun _ => 0))), (u_7.2.2.2, .inl (cI, 150, .inl (fun _ => 0)))]) rfl rfl (by decide) (by decide) (fun u_10 H locs hw_42 hP hD hS => ?_)
  try dsimp only at hw_42
  have hP : va_P D classes [(h0, .inr (3, [.ref q_1, .int 0, .ref q_2, .ref q_5, .null, .null, .int 0, .int 0, .int 0, .int 0, .int 0, .int 0, .int 0, .int 0])), (q_1, .inl (cI, 500, .inl (fun _ => 0))), (q_2, .inr (0, [.ref u_4, .int 0, .int 0, .int 0, .int (-1)])), (u_4, .inl (cI, 500, .inl (fun _ => 0))), (q_5, .inr (2, [.ref u_7.1, .ref u_7.2.1, .ref u_7.2.2.1, .ref u_7.2.2.2, .int 0, .int 0])), (u_7.1, .inl (cI, 150, .inl (fun _ => 0))), (u_7.2.1, .inl (cI, 150, .inl (fun _ => 0))), (u_7.2.2.1, .inl (cI, 150, .inl (fun _ => 0))), (u_7.2.2.2, .inl (cI, 150, .inl (fun _ => 0))), (q_8, .inr (1, [.ref u_10.1, .ref u_10.2, .int 20, .int 0])), (u_10.1, .inl (cI, 20, .inl (fun _ => 0))), (u_10.2, .inl (cI, 20, .inl (fun _ => 0)))] H := hP
  have hD : va_D A [(h0, .inr (3, [.ref q_1, .int 0, .ref q_2, .ref q_5, .null, .null, .int 0, .int 0, .int 0, .int 0, .int 0, .int 0, .int 0, .int 0])), (q_1, .inl (cI, 500, .inl (fun _ => 0))), (q_2, .inr (0, [.ref u_4, .int 0, .int 0, .int 0, .int (-1)])), (u_4, .inl (cI, 500, .inl (fun _ => 0))), (q_5, .inr (2, [.ref u_7.1, .ref u_7.2.1, .ref u_7.2.2.1, .ref u_7.2.2.2, .int 0, .int 0])), (u_7.1, .inl (cI, 150, .inl (fun _ => 0))), (u_7.2.1, .inl (cI, 150, .inl (fun _ => 0))), (u_7.2.2.1, .inl (cI, 150, .inl (fun _ => 0))), (u_7.2.2.2, .inl (cI, 150, .inl (fun _ => 0))), (q_8, .inr (1, [.ref u_10.1, .ref u_10.2, .int 20, .int 0])), (u_10.1, .inl (cI, 20, .inl (fun _ => 0))), (u_10.2, .inl (cI, 20, .inl (fun _ => 0)))] := hD
  refine W.widen (k := 11) (n := 1655) (by decide) (by decide) ?_
  refine va_putF (D := D) (ci := 3) (v := .ref q_8) (ty := .object "NestedTags$Names") (C := RX3) (T := TX3) (N := 14) hx hb hts inX3 tyX3 tyX3_ok nmX3 hown hK hP hD hS 0 rfl rfl 4 (by decide) (hts (Cond.fieldLink "NestedTags" 32 "NestedTags" "openElements" "LNestedTags$Names;") kk_1_100) (fun _ h9 => h9) rfl hin rfl (tyX3_ok 4 (by decide)) rfl rfl (Nat.le_of_ble_eq_true rfl) dX3_init_45 (fun H locs hP hD hS => ?_)
  have hP : va_P D classes [(h0, .inr (3, [.ref q_1, .int 0, .ref q_2, .ref q_5, .ref q_8, .null, .int 0, .int 0, .int 0, .int 0, .int 0, .int 0, .int 0, .int 0])), (q_1, .inl (cI, 500, .inl (fun _ => 0))), (q_2, .inr (0, [.ref u_4, .int 0, .int 0, .int 0, .int (-1)])), (u_4, .inl (cI, 500, .inl (fun _ => 0))), (q_5, .inr (2, [.ref u_7.1, .ref u_7.2.1, .ref u_7.2.2.1, .ref u_7.2.2.2, .int 0, .int 0])), (u_7.1, .inl (cI, 150, .inl (fun _ => 0))), (u_7.2.1, .inl (cI, 150, .inl (fun _ => 0))), (u_7.2.2.1, .inl (cI, 150, .inl (fun _ => 0))), (u_7.2.2.2, .inl (cI, 150, .inl (fun _ => 0))), (q_8, .inr (1, [.ref u_10.1, .ref u_10.2, .int 20, .int 0])), (u_10.1, .inl (cI, 20, .inl (fun _ => 0))), (u_10.2, .inl (cI, 20, .inl (fun _ => 0)))] H := hP
  have hD : va_D A [(h0, .inr (3, [.ref q_1, .int 0, .ref q_2, .ref q_5, .ref q_8, .null, .int 0, .int 0, .int 0, .int 0, .int 0, .int 0, .int 0, .int 0])), (q_1, .inl (cI, 500, .inl (fun _ => 0))), (q_2, .inr (0, [.ref u_4, .int 0, .int 0, .int 0, .int (-1)])), (u_4, .inl (cI, 500, .inl (fun _ => 0))), (q_5, .inr (2, [.ref u_7.1, .ref u_7.2.1, .ref u_7.2.2.1, .ref u_7.2.2.2, .int 0, .int 0])), (u_7.1, .inl (cI, 150, .inl (fun _ => 0))), (u_7.2.1, .inl (cI, 150, .inl (fun _ => 0))), (u_7.2.2.1, .inl (cI, 150, .inl (fun _ => 0))), (u_7.2.2.2, .inl (cI, 150, .inl (fun _ => 0))), (q_8, .inr (1, [.ref u_10.1, .ref u_10.2, .int 20, .int 0])), (u_10.1, .inl (cI, 20, .inl (fun _ => 0))), (u_10.2, .inl (cI, 20, .inl (fun _ => 0)))] := hD
  refine lv_aload_n hx hb dX3_init_48 rfl (lv_at hl 0 rfl) ?_
  refine va_new (D := D) (ci := 1) (fs := [.null, .null, .int 0, .int 0]) (C := RX1) (T := TX1) (N := 4) hx hb hts inX1 tyX1 tyX1_ok hown (hts (Cond.classLink "NestedTags" 27 "NestedTags$Names") kk_1_73) (hts (Cond.instantiable "NestedTags$Names" 4) kk_1_74) (hts (Cond.initialized "NestedTags$Names") kk_1_4) hK hP hD hS hA rfl (fun j hj => by rcases (show j = 0 ∨ j = 1 ∨ j = 2 ∨ j = 3 by omega) with rfl | rfl | rfl | rfl <;> rfl) (Nat.le_of_ble_eq_true rfl) (Nat.le_of_ble_eq_true rfl) dX3_init_49 (fun q_11 H hP hD hS => ?_)
  have hP : va_P D classes [(h0, .inr (3, [.ref q_1, .int 0, .ref q_2, .ref q_5, .ref q_8, .null, .int 0, .int 0, .int 0, .int 0, .int 0, .int 0, .int 0, .int 0])), (q_1, .inl (cI, 500, .inl (fun _ => 0))), (q_2, .inr (0, [.ref u_4, .int 0, .int 0, .int 0, .int (-1)])), (u_4, .inl (cI, 500, .inl (fun _ => 0))), (q_5, .inr (2, [.ref u_7.1, .ref u_7.2.1, .ref u_7.2.2.1, .ref u_7.2.2.2, .int 0, .int 0])), (u_7.1, .inl (cI, 150, .inl (fun _ => 0))), (u_7.2.1, .inl (cI, 150, .inl (fun _ => 0))), (u_7.2.2.1, .inl (cI, 150, .inl (fun _ => 0))), (u_7.2.2.2, .inl (cI, 150, .inl (fun _ => 0))), (q_8, .inr (1, [.ref u_10.1, .ref u_10.2, .int 20, .int 0])), (u_10.1, .inl (cI, 20, .inl (fun _ => 0))), (u_10.2, .inl (cI, 20, .inl (fun _ => 0))), (q_11, .inr (1, [.null, .null, .int 0, .int 0]))] H := hP
  have hD : va_D A [(h0, .inr (3, [.ref q_1, .int 0, .ref q_2, .ref q_5, .ref q_8, .null, .int 0, .int 0, .int 0, .int 0, .int 0, .int 0, .int 0, .int 0])), (q_1, .inl (cI, 500, .inl (fun _ => 0))), (q_2, .inr (0, [.ref u_4, .int 0, .int 0, .int 0, .int (-1)])), (u_4, .inl (cI, 500, .inl (fun _ => 0))), (q_5, .inr (2, [.ref u_7.1, .ref u_7.2.1, .ref u_7.2.2.1, .ref u_7.2.2.2, .int 0, .int 0])), (u_7.1, .inl (cI, 150, .inl (fun _ => 0))), (u_7.2.1, .inl (cI, 150, .inl (fun _ => 0))), (u_7.2.2.1, .inl (cI, 150, .inl (fun _ => 0))), (u_7.2.2.2, .inl (cI, 150, .inl (fun _ => 0))), (q_8, .inr (1, [.ref u_10.1, .ref u_10.2, .int 20, .int 0])), (u_10.1, .inl (cI, 20, .inl (fun _ => 0))), (u_10.2, .inl (cI, 20, .inl (fun _ => 0))), (q_11, .inr (1, [.null, .null, .int 0, .int 0]))] := hD
  refine W.widen (k := 12) (n := 1659) (by decide) (by decide) ?_
  refine lv_dup hx hb dX3_init_52 rfl ?_
  refine lv_bipush (v := 8) hx hb dX3_init_53 (by decide) ?_
  refine gcall_v (va_runI (As := [.int 8]) (rest := [.ref q_11, .ref h0]) ⟨hx, hb, hml, hown, hts⟩ (c_X1_init_8 l D cI V q_11 H.size ) (cwI 1 hts (tb_good kk_1_77) rfl rfl rfl (hts (Cond.initialized "NestedTags$Names") kk_1_4) (hts (Cond.methodLink "NestedTags" 29 yX1_init) kk_1_75) (hts (Cond.instanceMethod yX1_init) kk_1_76) rfl (by decide +kernel) ⟨Nat.le_of_ble_eq_true rfl, Nat.le_of_ble_eq_true rfl⟩) (gpreS hK hN hV hS hA hP hD [12] rfl rfl (by decide)) rfl rfl hl.1 rfl (lv_room (Nat.le_of_ble_eq_true rfl)) dX3_init_55 ⟨Nat.le_of_ble_eq_true rfl, Nat.le_of_ble_eq_true rfl⟩) hP hD hS hA [12] [0, 1, 2, 3, 4, 5, 6, 7, 8, 9, 10, 11] (wr := [(h0, .inr (3, [.ref q_1, .int 0, .ref q_2, .ref q_5, .ref q_8, .null, .int 0, .int 0, .int 0, .int 0, .int 0, .int 0, .int 0, .int 0])), (q_1, .inl (cI, 500, .inl (fun _ => 0))), (q_2, .inr (0, [.ref u_4, .int 0, .int 0, .int 0, .int (-1)])), (u_4, .inl (cI, 500, .inl (fun _ => 0))), (q_5, .inr (2, [.ref u_7.1, .ref u_7.2.1, .ref u_7.2.2.1, .ref u_7.2.2.2, .int 0, .int 0])), (u_7.1, .inl (cI, 150, .inl (fun _ => 0))), (u_7.2.1, .inl (cI, 150, .inl (fun _ => 0))), (u_7.2.2.1, .inl (cI, 150, .inl (fun _ => 0))), (u_7.2.2.2, .inl (cI, 150, .inl (fun _ => 0))), (q_8, .inr (1, [.ref u_10.1, .ref u_10.2, .int 20, .int 0])), (u_10.1, .inl (cI, 20, .inl (fun _ => 0))), (u_10.2, .inl (cI, 20, .inl (fun _ => 0)))]) rfl rfl (by decide) (by decide) (fun u_13 H locs hw_55 hP hD hS => ?_)
  try dsimp only at hw_55
  have hP : va_P D classes [(h0, .inr (3, [.ref q_1, .int 0, .ref q_2, .ref q_5, .ref q_8, .null, .int 0, .int 0, .int 0, .int 0, .int 0, .int 0, .int 0, .int 0])), (q_1, .inl (cI, 500, .inl (fun _ => 0))), (q_2, .inr (0, [.ref u_4, .int 0, .int 0, .int 0, .int (-1)])), (u_4, .inl (cI, 500, .inl (fun _ => 0))), (q_5, .inr (2, [.ref u_7.1, .ref u_7.2.1, .ref u_7.2.2.1, .ref u_7.2.2.2, .int 0, .int 0])), (u_7.1, .inl (cI, 150, .inl (fun _ => 0))), (u_7.2.1, .inl (cI, 150, .inl (fun _ => 0))), (u_7.2.2.1, .inl (cI, 150, .inl (fun _ => 0))), (u_7.2.2.2, .inl (cI, 150, .inl (fun _ => 0))), (q_8, .inr (1, [.ref u_10.1, .ref u_10.2, .int 20, .int 0])), (u_10.1, .inl (cI, 20, .inl (fun _ => 0))), (u_10.2, .inl (cI, 20, .inl (fun _ => 0))), (q_11, .inr (1, [.ref u_13.1, .ref u_13.2, .int 8, .int 0])), (u_13.1, .inl (cI, 8, .inl (fun _ => 0))), (u_13.2, .inl (cI, 8, .inl (fun _ => 0)))] H := hP
  have hD : va_D A [(h0, .inr (3, [.ref q_1, .int 0, .ref q_2, .ref q_5, .ref q_8, .null, .int 0, .int 0, .int 0, .int 0, .int 0, .int 0, .int 0, .int 0])), (q_1, .inl (cI, 500, .inl (fun _ => 0))), (q_2, .inr (0, [.ref u_4, .int 0, .int 0, .int 0, .int (-1)])), (u_4, .inl (cI, 500, .inl (fun _ => 0))), (q_5, .inr (2, [.ref u_7.1, .ref u_7.2.1, .ref u_7.2.2.1, .ref u_7.2.2.2, .int 0, .int 0])), (u_7.1, .inl (cI, 150, .inl (fun _ => 0))), (u_7.2.1, .inl (cI, 150, .inl (fun _ => 0))), (u_7.2.2.1, .inl (cI, 150, .inl (fun _ => 0))), (u_7.2.2.2, .inl (cI, 150, .inl (fun _ => 0))), (q_8, .inr (1, [.ref u_10.1, .ref u_10.2, .int 20, .int 0])), (u_10.1, .inl (cI, 20, .inl (fun _ => 0))), (u_10.2, .inl (cI, 20, .inl (fun _ => 0))), (q_11, .inr (1, [.ref u_13.1, .ref u_13.2, .int 8, .int 0])), (u_13.1, .inl (cI, 8, .inl (fun _ => 0))), (u_13.2, .inl (cI, 8, .inl (fun _ => 0)))] := hD
  refine W.widen (k := 14) (n := 1675) (by decide) (by decide) ?_
  refine va_putF (D := D) (ci := 3) (v := .ref q_11) (ty := .object "NestedTags$Names") (C := RX3) (T := TX3) (N := 14) hx hb hts inX3 tyX3 tyX3_ok nmX3 hown hK hP hD hS 0 rfl rfl 5 (by decide) (hts (Cond.fieldLink "NestedTags" 36 "NestedTags" "tagAttributes" "LNestedTags$Names;") kk_1_101) (fun _ h9 => h9) rfl hin rfl (tyX3_ok 5 (by decide)) rfl rfl (Nat.le_of_ble_eq_true rfl) dX3_init_58 (fun H locs hP hD hS => ?_)
  have hP : va_P D classes [(h0, .inr (3, [.ref q_1, .int 0, .ref q_2, .ref q_5, .ref q_8, .ref q_11, .int 0, .int 0, .int 0, .int 0, .int 0, .int 0, .int 0, .int 0])), (q_1, .inl (cI, 500, .inl (fun _ => 0))), (q_2, .inr (0, [.ref u_4, .int 0, .int 0, .int 0, .int (-1)])), (u_4, .inl (cI, 500, .inl (fun _ => 0))), (q_5, .inr (2, [.ref u_7.1, .ref u_7.2.1, .ref u_7.2.2.1, .ref u_7.2.2.2, .int 0, .int 0])), (u_7.1, .inl (cI, 150, .inl (fun _ => 0))), (u_7.2.1, .inl (cI, 150, .inl (fun _ => 0))), (u_7.2.2.1, .inl (cI, 150, .inl (fun _ => 0))), (u_7.2.2.2, .inl (cI, 150, .inl (fun _ => 0))), (q_8, .inr (1, [.ref u_10.1, .ref u_10.2, .int 20, .int 0])), (u_10.1, .inl (cI, 20, .inl (fun _ => 0))), (u_10.2, .inl (cI, 20, .inl (fun _ => 0))), (q_11, .inr (1, [.ref u_13.1, .ref u_13.2, .int 8, .int 0])), (u_13.1, .inl (cI, 8, .inl (fun _ => 0))), (u_13.2, .inl (cI, 8, .inl (fun _ => 0)))] H := hP
  have hD : va_D A [(h0, .inr (3, [.ref q_1, .int 0, .ref q_2, .ref q_5, .ref q_8, .ref q_11, .int 0, .int 0, .int 0, .int 0, .int 0, .int 0, .int 0, .int 0])), (q_1, .inl (cI, 500, .inl (fun _ => 0))), (q_2, .inr (0, [.ref u_4, .int 0, .int 0, .int 0, .int (-1)])), (u_4, .inl (cI, 500, .inl (fun _ => 0))), (q_5, .inr (2, [.ref u_7.1, .ref u_7.2.1, .ref u_7.2.2.1, .ref u_7.2.2.2, .int 0, .int 0])), (u_7.1, .inl (cI, 150, .inl (fun _ => 0))), (u_7.2.1, .inl (cI, 150, .inl (fun _ => 0))), (u_7.2.2.1, .inl (cI, 150, .inl (fun _ => 0))), (u_7.2.2.2, .inl (cI, 150, .inl (fun _ => 0))), (q_8, .inr (1, [.ref u_10.1, .ref u_10.2, .int 20, .int 0])), (u_10.1, .inl (cI, 20, .inl (fun _ => 0))), (u_10.2, .inl (cI, 20, .inl (fun _ => 0))), (q_11, .inr (1, [.ref u_13.1, .ref u_13.2, .int 8, .int 0])), (u_13.1, .inl (cI, 8, .inl (fun _ => 0))), (u_13.2, .inl (cI, 8, .inl (fun _ => 0)))] := hD
  refine lv_aload_n hx hb dX3_init_61 rfl (lv_at hl 0 rfl) ?_
  refine lv_iconst (v := (-1)) hx hb dX3_init_62 (by decide) ?_
  refine va_put (D := D) (ci := 3) (v := .int (-1)) (ty := .int) (C := RX3) (T := TX3) (N := 14) hx hb hts inX3 tyX3 tyX3_ok nmX3 hown hK hP hD hS 0 rfl rfl 13 (by decide) (hts (Cond.fieldLink "NestedTags" 39 "NestedTags" "quote" "I") kk_1_109) (fun _ h9 => h9) rfl (tyX3_ok 13 (by decide)) rfl rfl (Nat.le_of_ble_eq_true rfl) dX3_init_63 (fun H locs hP hD hS => ?_)
  have hP : va_P D classes [(h0, .inr (3, [.ref q_1, .int 0, .ref q_2, .ref q_5, .ref q_8, .ref q_11, .int 0, .int 0, .int 0, .int 0, .int 0, .int 0, .int 0, .int (-1)])), (q_1, .inl (cI, 500, .inl (fun _ => 0))), (q_2, .inr (0, [.ref u_4, .int 0, .int 0, .int 0, .int (-1)])), (u_4, .inl (cI, 500, .inl (fun _ => 0))), (q_5, .inr (2, [.ref u_7.1, .ref u_7.2.1, .ref u_7.2.2.1, .ref u_7.2.2.2, .int 0, .int 0])), (u_7.1, .inl (cI, 150, .inl (fun _ => 0))), (u_7.2.1, .inl (cI, 150, .inl (fun _ => 0))), (u_7.2.2.1, .inl (cI, 150, .inl (fun _ => 0))), (u_7.2.2.2, .inl (cI, 150, .inl (fun _ => 0))), (q_8, .inr (1, [.ref u_10.1, .ref u_10.2, .int 20, .int 0])), (u_10.1, .inl (cI, 20, .inl (fun _ => 0))), (u_10.2, .inl (cI, 20, .inl (fun _ => 0))), (q_11, .inr (1, [.ref u_13.1, .ref u_13.2, .int 8, .int 0])), (u_13.1, .inl (cI, 8, .inl (fun _ => 0))), (u_13.2, .inl (cI, 8, .inl (fun _ => 0)))] H := hP
  have hD : va_D A [(h0, .inr (3, [.ref q_1, .int 0, .ref q_2, .ref q_5, .ref q_8, .ref q_11, .int 0, .int 0, .int 0, .int 0, .int 0, .int 0, .int 0, .int (-1)])), (q_1, .inl (cI, 500, .inl (fun _ => 0))), (q_2, .inr (0, [.ref u_4, .int 0, .int 0, .int 0, .int (-1)])), (u_4, .inl (cI, 500, .inl (fun _ => 0))), (q_5, .inr (2, [.ref u_7.1, .ref u_7.2.1, .ref u_7.2.2.1, .ref u_7.2.2.2, .int 0, .int 0])), (u_7.1, .inl (cI, 150, .inl (fun _ => 0))), (u_7.2.1, .inl (cI, 150, .inl (fun _ => 0))), (u_7.2.2.1, .inl (cI, 150, .inl (fun _ => 0))), (u_7.2.2.2, .inl (cI, 150, .inl (fun _ => 0))), (q_8, .inr (1, [.ref u_10.1, .ref u_10.2, .int 20, .int 0])), (u_10.1, .inl (cI, 20, .inl (fun _ => 0))), (u_10.2, .inl (cI, 20, .inl (fun _ => 0))), (q_11, .inr (1, [.ref u_13.1, .ref u_13.2, .int 8, .int 0])), (u_13.1, .inl (cI, 8, .inl (fun _ => 0))), (u_13.2, .inl (cI, 8, .inl (fun _ => 0)))] := hD
  have hP9 := hP.sub (ws' := [(h0, .inr (3, [.ref q_1, .int 0, .ref q_2, .ref q_5, .ref q_8, .ref q_11, .int 0, .int 0, .int 0, .int 0, .int 0, .int 0, .int 0, .int (-1)])), (q_1, .inl (cI, 500, .inl (fun _ => 0))), (q_2, .inr (0, [.ref u_4, .int 0, .int 0, .int 0, .int (-1)])), (u_4, .inl (cI, 500, .inl (fun _ => 0))), (q_5, .inr (2, [.ref u_7.1, .ref u_7.2.1, .ref u_7.2.2.1, .ref u_7.2.2.2, .int 0, .int 0])), (u_7.1, .inl (cI, 150, .inl (fun _ => 0))), (u_7.2.1, .inl (cI, 150, .inl (fun _ => 0))), (u_7.2.2.1, .inl (cI, 150, .inl (fun _ => 0))), (u_7.2.2.2, .inl (cI, 150, .inl (fun _ => 0))), (q_8, .inr (1, [.ref u_10.1, .ref u_10.2, .int 20, .int 0])), (u_10.1, .inl (cI, 20, .inl (fun _ => 0))), (u_10.2, .inl (cI, 20, .inl (fun _ => 0))), (q_11, .inr (1, [.ref u_13.1, .ref u_13.2, .int 8, .int 0])), (u_13.1, .inl (cI, 8, .inl (fun _ => 0))), (u_13.2, .inl (cI, 8, .inl (fun _ => 0)))]) [0, 1, 2, 3, 4, 5, 6, 7, 8, 9, 10, 11, 12, 13, 14] rfl
  have hD9 := hD.sub (ws' := [(h0, .inr (3, [.ref q_1, .int 0, .ref q_2, .ref q_5, .ref q_8, .ref q_11, .int 0, .int 0, .int 0, .int 0, .int 0, .int 0, .int 0, .int (-1)])), (q_1, .inl (cI, 500, .inl (fun _ => 0))), (q_2, .inr (0, [.ref u_4, .int 0, .int 0, .int 0, .int (-1)])), (u_4, .inl (cI, 500, .inl (fun _ => 0))), (q_5, .inr (2, [.ref u_7.1, .ref u_7.2.1, .ref u_7.2.2.1, .ref u_7.2.2.2, .int 0, .int 0])), (u_7.1, .inl (cI, 150, .inl (fun _ => 0))), (u_7.2.1, .inl (cI, 150, .inl (fun _ => 0))), (u_7.2.2.1, .inl (cI, 150, .inl (fun _ => 0))), (u_7.2.2.2, .inl (cI, 150, .inl (fun _ => 0))), (q_8, .inr (1, [.ref u_10.1, .ref u_10.2, .int 20, .int 0])), (u_10.1, .inl (cI, 20, .inl (fun _ => 0))), (u_10.2, .inl (cI, 20, .inl (fun _ => 0))), (q_11, .inr (1, [.ref u_13.1, .ref u_13.2, .int 8, .int 0])), (u_13.1, .inl (cI, 8, .inl (fun _ => 0))), (u_13.2, .inl (cI, 8, .inl (fun _ => 0)))]) [0, 1, 2, 3, 4, 5, 6, 7, 8, 9, 10, 11, 12, 13, 14] (by decide) rfl
  refine W.widen (k := 14) (n := 1675) (by decide) (by decide) ?_
  exact W.vret hx hb hr (fun t ht hW => ⟨⟨(q_1, q_2, u_4, q_5, u_7.1, u_7.2.1, u_7.2.2.1, u_7.2.2.2, q_8, u_10.1, u_10.2, q_11, u_13.1, u_13.2), rfl, trivial, by rw [ht]; exact hP9, va_K.moved hW.alike hK, hD9⟩, hS.F ht⟩) hS.2.2 dX3_init_66

set_option maxHeartbeats 4000000 in
set_option maxRecDepth 100000 in
/-- X3_place -/
theorem c_X3_place (l : Launch) (D : va_G) (cI : ClassId) (V : (Nat → Nat) × (Nat → Nat)) (h0 : Nat) (cm : Nat) (cl : Int32) (cu : Nat) (pc : Nat) (oe : Nat) (ta : Nat) (el : Int32) (mo : Int32) (it : Int32) (tb : Int32) (tn : Int32) (te : Int32) (ab : Int32) (qu : Int32) (b0 : Nat) (ln : Int32) (ca : Int32) (fa : Int32) (fp : Int32) (sz : Nat)   : Met l yX3_place (.code yX3_place cX3_place 1 (some .int) :: tbW) ({ frames := 0, cells := 0, slots := 0, locals := 0 }) (va_Pc [.ref h0] (gP D cI V [(h0, .inr (3, [.ref cm, .int cl, .ref cu, .ref pc, .ref oe, .ref ta, .int el, .int mo, .int it, .int tb, .int tn, .int te, .int ab, .int qu])), (cu, .inr (0, [.ref b0, .int ln, .int ca, .int fa, .int fp]))] sz)) (va_Qi (fun (r : Int32) (u : Unit) => r = fp) (fun u => gB D cI (va_A [(h0, .inr (3, [.ref cm, .int cl, .ref cu, .ref pc, .ref oe, .ref ta, .int el, .int mo, .int it, .int tb, .int tn, .int te, .int ab, .int qu])), (cu, .inr (0, [.ref b0, .int ln, .int ca, .int fa, .int fp]))] sz) [(h0, .inr (3, [.ref cm, .int cl, .ref cu, .ref pc, .ref oe, .ref ta, .int el, .int mo, .int it, .int tb, .int tn, .int te, .int ab, .int qu])), (cu, .inr (0, [.ref b0, .int ln, .int ca, .int fa, .int fp]))]) (va_A [(h0, .inr (3, [.ref cm, .int cl, .ref cu, .ref pc, .ref oe, .ref ta, .int el, .int mo, .int it, .int tb, .int tn, .int te, .int ab, .int qu])), (cu, .inr (0, [.ref b0, .int ln, .int ca, .int fa, .int fp]))] sz)) 0 0 (va_A [(h0, .inr (3, [.ref cm, .int cl, .ref cu, .ref pc, .ref oe, .ref ta, .int el, .int mo, .int it, .int tb, .int tn, .int te, .int ab, .int qu])), (cu, .inr (0, [.ref b0, .int ln, .int ca, .int fa, .int fp]))] sz) := by
  refine Met.ofW (cc := cX3_place) (maxL := 1) (ret := (some .int)) (by decide) rfl ?_
  intro p e s m args below meth c s₁ B hml hv
  obtain ⟨rfl, hsz, hP, hK, hD0, hN, hV⟩ := hv
  have hx := B.exec
  have hb := B.bytes
  have hr := B.returns
  have hts := tb_hts (atoms_spec (ws := .code yX3_place cX3_place 1 (some .int) :: tbW) B.pre)
  have hown : s.vm.findClass RX3 = some m.cls := findClass_of_methodNamed B.named
  have hlocks := B.notSynchronized
  subst hsz
  have hD := hD0.self (sz := s.heap.size)
  generalize hAe : va_A [(h0, .inr (3, [.ref cm, .int cl, .ref cu, .ref pc, .ref oe, .ref ta, .int el, .int mo, .int it, .int tb, .int tn, .int te, .int ab, .int qu])), (cu, .inr (0, [.ref b0, .int ln, .int ca, .int fa, .int fp]))] s.heap.size = A at hD hV ⊢
  have hA : ∀ q : Nat, s.heap.size ≤ q → A q := fun q h => by rw [← hAe]; exact Or.inr h
  have hS : va_S A s.heap s.heap [] := va_S.rf
  have hP : va_P D classes [(h0, .inr (3, [.ref cm, .int cl, .ref cu, .ref pc, .ref oe, .ref ta, .int el, .int mo, .int it, .int tb, .int tn, .int te, .int ab, .int qu])), (cu, .inr (0, [.ref b0, .int ln, .int ca, .int fa, .int fp]))] s.heap := hP
  have hl := lv_entry ([.ref h0]) (n := 1) (Nat.le_of_ble_eq_true rfl)
  rw [lg_entry_eq]
  generalize (lg_sl ([.ref h0]) ++ List.replicate (1 - (lg_sl ([.ref h0])).length) Slot.unset).toArray = ls at hl ⊢
  have hl : lv_has ls 1 [(0, .ref h0)] := hl
  refine lv_aload_n hx hb dX3_place_0 rfl (lv_at hl 0 rfl) ?_
  refine va_get (D := D) (ci := 3) (v := .ref cu) (C := RX3) (T := TX3) (N := 14) hx hb hts inX3 hown hK hP 0 rfl rfl 2 (by decide) (hts (Cond.fieldLink "NestedTags" 16 "NestedTags" "cursor" "LNestedTags$Cursor;") kk_1_98) (fun _ h9 => h9) rfl dX3_place_1 ?_
  refine va_getN (D := D) (ci := 0) (v := .int fp) (C := RX0) (T := TX0) (N := 5) hx hb hts inX0 hown hK hP 1 rfl rfl 4 (by decide) (nvf_3 hN) (fun _ h9 => h9) rfl dX3_place_4 ?_
  have hP9 := hP.sub (ws' := [(h0, .inr (3, [.ref cm, .int cl, .ref cu, .ref pc, .ref oe, .ref ta, .int el, .int mo, .int it, .int tb, .int tn, .int te, .int ab, .int qu])), (cu, .inr (0, [.ref b0, .int ln, .int ca, .int fa, .int fp]))]) [0, 1] rfl
  have hD9 := hD.sub (ws' := [(h0, .inr (3, [.ref cm, .int cl, .ref cu, .ref pc, .ref oe, .ref ta, .int el, .int mo, .int it, .int tb, .int tn, .int te, .int ab, .int qu])), (cu, .inr (0, [.ref b0, .int ln, .int ca, .int fa, .int fp]))]) [0, 1] (by decide) rfl
  exact W.iret (v := fp) hx hb hr (fun t ht hW => ⟨⟨fp, (), rfl, rfl, by rw [ht]; exact hP9, va_K.moved hW.alike hK, hD9⟩, hS.F ht⟩) hS.2.2 dX3_place_7

set_option maxHeartbeats 4000000 in
set_option maxRecDepth 100000 in
/-- X3_piece -/
theorem c_X3_piece (l : Launch) (D : va_G) (cI : ClassId) (V : (Nat → Nat) × (Nat → Nat)) (h0 : Nat) (cm : Nat) (cl : Int32) (cu : Nat) (pc : Nat) (oe : Nat) (ta : Nat) (el : Int32) (mo : Int32) (it : Int32) (tb : Int32) (tn : Int32) (te : Int32) (ab : Int32) (qu : Int32) (pk : Nat) (pb : Nat) (pe : Nat) (pd : Nat) (ps : Int32) (pa : Int32) (k1 : Nat → Int32) (k2 : Nat → Int32) (k3 : Nat → Int32) (k4 : Nat → Int32) (sz : Nat) (p1 : Int32) (p2 : Int32)  : Met l yX3_piece (.code yX3_piece cX3_piece 3 (some .int) :: tbW) ({ frames := 1, cells := 0, slots := 0, locals := 22 }) (va_Pc [.ref h0, .int p1, .int p2] (gP D cI V [(h0, .inr (3, [.ref cm, .int cl, .ref cu, .ref pc, .ref oe, .ref ta, .int el, .int mo, .int it, .int tb, .int tn, .int te, .int ab, .int qu])), (pc, .inr (2, [.ref pk, .ref pb, .ref pe, .ref pd, .int ps, .int pa])), (pk, .inl (cI, 150, .inl k1)), (pb, .inl (cI, 150, .inl k2)), (pe, .inl (cI, 150, .inl k3)), (pd, .inl (cI, 150, .inl k4))] sz)) (va_Qi (fun (r : Int32) (u : Unit) => ps = 0 → r = -1) (fun u => gB D cI (va_A [(h0, .inr (3, [.ref cm, .int cl, .ref cu, .ref pc, .ref oe, .ref ta, .int el, .int mo, .int it, .int tb, .int tn, .int te, .int ab, .int qu])), (pc, .inr (2, [.ref pk, .ref pb, .ref pe, .ref pd, .int ps, .int pa])), (pk, .inl (cI, 150, .inl k1)), (pb, .inl (cI, 150, .inl k2)), (pe, .inl (cI, 150, .inl k3)), (pd, .inl (cI, 150, .inl k4))] sz) [(h0, .inr (3, [.ref cm, .int cl, .ref cu, .ref pc, .ref oe, .ref ta, .int el, .int mo, .int it, .int tb, .int tn, .int te, .int ab, .int qu])), (pc, .inr (2, [.ref pk, .ref pb, .ref pe, .ref pd, .int ps, .int pa])), (pk, .inl (cI, 150, .inl k1)), (pb, .inl (cI, 150, .inl k2)), (pe, .inl (cI, 150, .inl k3)), (pd, .inl (cI, 150, .inl k4))]) (va_A [(h0, .inr (3, [.ref cm, .int cl, .ref cu, .ref pc, .ref oe, .ref ta, .int el, .int mo, .int it, .int tb, .int tn, .int te, .int ab, .int qu])), (pc, .inr (2, [.ref pk, .ref pb, .ref pe, .ref pd, .int ps, .int pa])), (pk, .inl (cI, 150, .inl k1)), (pb, .inl (cI, 150, .inl k2)), (pe, .inl (cI, 150, .inl k3)), (pd, .inl (cI, 150, .inl k4))] sz)) 0 0 (va_A [(h0, .inr (3, [.ref cm, .int cl, .ref cu, .ref pc, .ref oe, .ref ta, .int el, .int mo, .int it, .int tb, .int tn, .int te, .int ab, .int qu])), (pc, .inr (2, [.ref pk, .ref pb, .ref pe, .ref pd, .int ps, .int pa])), (pk, .inl (cI, 150, .inl k1)), (pb, .inl (cI, 150, .inl k2)), (pe, .inl (cI, 150, .inl k3)), (pd, .inl (cI, 150, .inl k4))] sz) := by
  refine Met.ofW (cc := cX3_piece) (maxL := 3) (ret := (some .int)) (by decide) rfl ?_
  intro p e s m args below meth c s₁ B hml hv
  obtain ⟨rfl, hsz, hP, hK, hD0, hN, hV⟩ := hv
  have hx := B.exec
  have hb := B.bytes
  have hr := B.returns
  have hts := tb_hts (atoms_spec (ws := .code yX3_piece cX3_piece 3 (some .int) :: tbW) B.pre)
  have hown : s.vm.findClass RX3 = some m.cls := findClass_of_methodNamed B.named
  have hlocks := B.notSynchronized
  subst hsz
  have hD := hD0.self (sz := s.heap.size)
  generalize hAe : va_A [(h0, .inr (3, [.ref cm, .int cl, .ref cu, .ref pc, .ref oe, .ref ta, .int el, .int mo, .int it, .int tb, .int tn, .int te, .int ab, .int qu])), (pc, .inr (2, [.ref pk, .ref pb, .ref pe, .ref pd, .int ps, .int pa])), (pk, .inl (cI, 150, .inl k1)), (pb, .inl (cI, 150, .inl k2)), (pe, .inl (cI, 150, .inl k3)), (pd, .inl (cI, 150, .inl k4))] s.heap.size = A at hD hV ⊢
  have hA : ∀ q : Nat, s.heap.size ≤ q → A q := fun q h => by rw [← hAe]; exact Or.inr h
  have hS : va_S A s.heap s.heap [] := va_S.rf
  have hP : va_P D classes [(h0, .inr (3, [.ref cm, .int cl, .ref cu, .ref pc, .ref oe, .ref ta, .int el, .int mo, .int it, .int tb, .int tn, .int te, .int ab, .int qu])), (pc, .inr (2, [.ref pk, .ref pb, .ref pe, .ref pd, .int ps, .int pa])), (pk, .inl (cI, 150, .inl k1)), (pb, .inl (cI, 150, .inl k2)), (pe, .inl (cI, 150, .inl k3)), (pd, .inl (cI, 150, .inl k4))] s.heap := hP
  have hl := lv_entry ([.ref h0, .int p1, .int p2]) (n := 3) (Nat.le_of_ble_eq_true rfl)
  rw [lg_entry_eq]
  generalize (lg_sl ([.ref h0, .int p1, .int p2]) ++ List.replicate (3 - (lg_sl ([.ref h0, .int p1, .int p2])).length) Slot.unset).toArray = ls at hl ⊢
  have hl : lv_has ls 3 [(0, .ref h0), (1, .int p1), (2, .int p2)] := hl
  refine lv_aload_n hx hb dX3_piece_0 rfl (lv_at hl 0 rfl) ?_
  refine va_get (D := D) (ci := 3) (v := .ref pc) (C := RX3) (T := TX3) (N := 14) hx hb hts inX3 hown hK hP 0 rfl rfl 3 (by decide) (hts (Cond.fieldLink "NestedTags" 23 "NestedTags" "pieces" "LNestedTags$Pieces;") kk_1_99) (fun _ h9 => h9) rfl dX3_piece_1 ?_
  refine lv_iload_n hx hb dX3_piece_4 rfl (lv_at hl 1 rfl) ?_
  refine lv_iload_n hx hb dX3_piece_5 rfl (lv_at hl 2 rfl) ?_
  refine gcall_i (va_runV (As := [.int p1, .int p2]) (rest := []) ⟨hx, hb, hml, hown, hts⟩ (c_X2_tell l D cI V pc pk pb pe pd ps pa k1 k2 k3 k4 s.heap.size p1 p2) (cwV 2 hts (tb_goodV kk_2_194 kk_2_195 kk_2_196 kk_1_3 kk_2_197) rfl rfl rfl (hdV_X2_tell) ⟨Nat.le_of_ble_eq_true rfl, Nat.le_of_ble_eq_true rfl⟩) (gpreV hK hN hV hS hA hP hD [1, 2, 3, 4, 5] rfl rfl (by decide) (va_recv hK hP (ci := 2) (q0 := 1) rfl rfl)) rfl rfl hl.1 rfl (lv_room (Nat.le_of_ble_eq_true rfl)) dX3_piece_6 ⟨Nat.le_of_ble_eq_true rfl, Nat.le_of_ble_eq_true rfl⟩) hP hD hS hA [1, 2, 3, 4, 5] [0] (wr := [(h0, .inr (3, [.ref cm, .int cl, .ref cu, .ref pc, .ref oe, .ref ta, .int el, .int mo, .int it, .int tb, .int tn, .int te, .int ab, .int qu]))]) rfl rfl (by decide) (by decide) (fun r_1 u_2 H locs hw_6 hP hD hS => ?_)
  try dsimp only at hw_6
  have hP : va_P D classes [(h0, .inr (3, [.ref cm, .int cl, .ref cu, .ref pc, .ref oe, .ref ta, .int el, .int mo, .int it, .int tb, .int tn, .int te, .int ab, .int qu])), (pc, .inr (2, [.ref pk, .ref pb, .ref pe, .ref pd, .int ps, .int pa])), (pk, .inl (cI, 150, .inl k1)), (pb, .inl (cI, 150, .inl k2)), (pe, .inl (cI, 150, .inl k3)), (pd, .inl (cI, 150, .inl k4))] H := hP
  have hD : va_D A [(h0, .inr (3, [.ref cm, .int cl, .ref cu, .ref pc, .ref oe, .ref ta, .int el, .int mo, .int it, .int tb, .int tn, .int te, .int ab, .int qu])), (pc, .inr (2, [.ref pk, .ref pb, .ref pe, .ref pd, .int ps, .int pa])), (pk, .inl (cI, 150, .inl k1)), (pb, .inl (cI, 150, .inl k2)), (pe, .inl (cI, 150, .inl k3)), (pd, .inl (cI, 150, .inl k4))] := hD
  have hP9 := hP.sub (ws' := [(h0, .inr (3, [.ref cm, .int cl, .ref cu, .ref pc, .ref oe, .ref ta, .int el, .int mo, .int it, .int tb, .int tn, .int te, .int ab, .int qu])), (pc, .inr (2, [.ref pk, .ref pb, .ref pe, .ref pd, .int ps, .int pa])), (pk, .inl (cI, 150, .inl k1)), (pb, .inl (cI, 150, .inl k2)), (pe, .inl (cI, 150, .inl k3)), (pd, .inl (cI, 150, .inl k4))]) [0, 1, 2, 3, 4, 5] rfl
  have hD9 := hD.sub (ws' := [(h0, .inr (3, [.ref cm, .int cl, .ref cu, .ref pc, .ref oe, .ref ta, .int el, .int mo, .int it, .int tb, .int tn, .int te, .int ab, .int qu])), (pc, .inr (2, [.ref pk, .ref pb, .ref pe, .ref pd, .int ps, .int pa])), (pk, .inl (cI, 150, .inl k1)), (pb, .inl (cI, 150, .inl k2)), (pe, .inl (cI, 150, .inl k3)), (pd, .inl (cI, 150, .inl k4))]) [0, 1, 2, 3, 4, 5] (by decide) rfl
  exact W.iret (v := r_1) hx hb hr (fun t ht hW => ⟨⟨r_1, (), rfl, hw_6, by rw [ht]; exact hP9, va_K.moved hW.alike hK, hD9⟩, hS.F ht⟩) hS.2.2 dX3_piece_9

set_option maxHeartbeats 4000000 in
set_option maxRecDepth 100000 in
/-- X3_byteOf -/
theorem c_X3_byteOf (l : Launch) (D : va_G) (cI : ClassId) (V : (Nat → Nat) × (Nat → Nat)) (h0 : Nat) (cm : Nat) (cl : Int32) (cu : Nat) (pc : Nat) (oe : Nat) (ta : Nat) (el : Int32) (mo : Int32) (it : Int32) (tb : Int32) (tn : Int32) (te : Int32) (ab : Int32) (qu : Int32) (b0 : Nat) (ln : Int32) (ca : Int32) (fa : Int32) (fp : Int32) (g : Nat → Int32) (sz : Nat) (p1 : Int32)  : Met l yX3_byteOf (.code yX3_byteOf cX3_byteOf 2 (some .int) :: tbW) ({ frames := 1, cells := 0, slots := 0, locals := 21 }) (va_Pc [.ref h0, .int p1] (gP D cI V [(h0, .inr (3, [.ref cm, .int cl, .ref cu, .ref pc, .ref oe, .ref ta, .int el, .int mo, .int it, .int tb, .int tn, .int te, .int ab, .int qu])), (cu, .inr (0, [.ref b0, .int ln, .int ca, .int fa, .int fp])), (b0, .inl (cI, 500, .inl g))] sz)) (va_Qi (fun (r : Int32) (u : Unit) => r = byteAt g ln p1) (fun u => gB D cI (va_A [(h0, .inr (3, [.ref cm, .int cl, .ref cu, .ref pc, .ref oe, .ref ta, .int el, .int mo, .int it, .int tb, .int tn, .int te, .int ab, .int qu])), (cu, .inr (0, [.ref b0, .int ln, .int ca, .int fa, .int fp])), (b0, .inl (cI, 500, .inl g))] sz) [(h0, .inr (3, [.ref cm, .int cl, .ref cu, .ref pc, .ref oe, .ref ta, .int el, .int mo, .int it, .int tb, .int tn, .int te, .int ab, .int qu])), (cu, .inr (0, [.ref b0, .int ln, .int ca, .int fa, .int fp])), (b0, .inl (cI, 500, .inl g))]) (va_A [(h0, .inr (3, [.ref cm, .int cl, .ref cu, .ref pc, .ref oe, .ref ta, .int el, .int mo, .int it, .int tb, .int tn, .int te, .int ab, .int qu])), (cu, .inr (0, [.ref b0, .int ln, .int ca, .int fa, .int fp])), (b0, .inl (cI, 500, .inl g))] sz)) 0 0 (va_A [(h0, .inr (3, [.ref cm, .int cl, .ref cu, .ref pc, .ref oe, .ref ta, .int el, .int mo, .int it, .int tb, .int tn, .int te, .int ab, .int qu])), (cu, .inr (0, [.ref b0, .int ln, .int ca, .int fa, .int fp])), (b0, .inl (cI, 500, .inl g))] sz) := by
  refine Met.ofW (cc := cX3_byteOf) (maxL := 2) (ret := (some .int)) (by decide) rfl ?_
  intro p e s m args below meth c s₁ B hml hv
  obtain ⟨rfl, hsz, hP, hK, hD0, hN, hV⟩ := hv
  have hx := B.exec
  have hb := B.bytes
  have hr := B.returns
  have hts := tb_hts (atoms_spec (ws := .code yX3_byteOf cX3_byteOf 2 (some .int) :: tbW) B.pre)
  have hown : s.vm.findClass RX3 = some m.cls := findClass_of_methodNamed B.named
  have hlocks := B.notSynchronized
  subst hsz
  have hD := hD0.self (sz := s.heap.size)
  generalize hAe : va_A [(h0, .inr (3, [.ref cm, .int cl, .ref cu, .ref pc, .ref oe, .ref ta, .int el, .int mo, .int it, .int tb, .int tn, .int te, .int ab, .int qu])), (cu, .inr (0, [.ref b0, .int ln, .int ca, .int fa, .int fp])), (b0, .inl (cI, 500, .inl g))] s.heap.size = A at hD hV ⊢
  have hA : ∀ q : Nat, s.heap.size ≤ q → A q := fun q h => by rw [← hAe]; exact Or.inr h
  have hS : va_S A s.heap s.heap [] := va_S.rf
  have hP : va_P D classes [(h0, .inr (3, [.ref cm, .int cl, .ref cu, .ref pc, .ref oe, .ref ta, .int el, .int mo, .int it, .int tb, .int tn, .int te, .int ab, .int qu])), (cu, .inr (0, [.ref b0, .int ln, .int ca, .int fa, .int fp])), (b0, .inl (cI, 500, .inl g))] s.heap := hP
  have hl := lv_entry ([.ref h0, .int p1]) (n := 2) (Nat.le_of_ble_eq_true rfl)
  rw [lg_entry_eq]
  generalize (lg_sl ([.ref h0, .int p1]) ++ List.replicate (2 - (lg_sl ([.ref h0, .int p1])).length) Slot.unset).toArray = ls at hl ⊢
  have hl : lv_has ls 2 [(0, .ref h0), (1, .int p1)] := hl
  refine lv_aload_n hx hb dX3_byteOf_0 rfl (lv_at hl 0 rfl) ?_
  refine va_get (D := D) (ci := 3) (v := .ref cu) (C := RX3) (T := TX3) (N := 14) hx hb hts inX3 hown hK hP 0 rfl rfl 2 (by decide) (hts (Cond.fieldLink "NestedTags" 16 "NestedTags" "cursor" "LNestedTags$Cursor;") kk_1_98) (fun _ h9 => h9) rfl dX3_byteOf_1 ?_
  refine lv_iload_n hx hb dX3_byteOf_4 rfl (lv_at hl 1 rfl) ?_
  refine gcall_i (va_runV (As := [.int p1]) (rest := []) ⟨hx, hb, hml, hown, hts⟩ (c_X0_byteAt l D cI V cu b0 ln ca fa fp g s.heap.size p1) (cwV 1 hts (tb_goodV kk_2_124 kk_1_176 kk_1_177 kk_1_2 kk_1_178) rfl rfl rfl (hdV_X0_byteAt) ⟨Nat.le_of_ble_eq_true rfl, Nat.le_of_ble_eq_true rfl⟩) (gpreV hK hN hV hS hA hP hD [1, 2] rfl rfl (by decide) (va_recv hK hP (ci := 0) (q0 := 1) rfl rfl)) rfl rfl hl.1 rfl (lv_room (Nat.le_of_ble_eq_true rfl)) dX3_byteOf_5 ⟨Nat.le_of_ble_eq_true rfl, Nat.le_of_ble_eq_true rfl⟩) hP hD hS hA [1, 2] [0] (wr := [(h0, .inr (3, [.ref cm, .int cl, .ref cu, .ref pc, .ref oe, .ref ta, .int el, .int mo, .int it, .int tb, .int tn, .int te, .int ab, .int qu]))]) rfl rfl (by decide) (by decide) (fun r_1 u_2 H locs hw_5 hP hD hS => ?_)
  try dsimp only at hw_5
  have hP : va_P D classes [(h0, .inr (3, [.ref cm, .int cl, .ref cu, .ref pc, .ref oe, .ref ta, .int el, .int mo, .int it, .int tb, .int tn, .int te, .int ab, .int qu])), (cu, .inr (0, [.ref b0, .int ln, .int ca, .int fa, .int fp])), (b0, .inl (cI, 500, .inl g))] H := hP
  have hD : va_D A [(h0, .inr (3, [.ref cm, .int cl, .ref cu, .ref pc, .ref oe, .ref ta, .int el, .int mo, .int it, .int tb, .int tn, .int te, .int ab, .int qu])), (cu, .inr (0, [.ref b0, .int ln, .int ca, .int fa, .int fp])), (b0, .inl (cI, 500, .inl g))] := hD
  have hP9 := hP.sub (ws' := [(h0, .inr (3, [.ref cm, .int cl, .ref cu, .ref pc, .ref oe, .ref ta, .int el, .int mo, .int it, .int tb, .int tn, .int te, .int ab, .int qu])), (cu, .inr (0, [.ref b0, .int ln, .int ca, .int fa, .int fp])), (b0, .inl (cI, 500, .inl g))]) [0, 1, 2] rfl
  have hD9 := hD.sub (ws' := [(h0, .inr (3, [.ref cm, .int cl, .ref cu, .ref pc, .ref oe, .ref ta, .int el, .int mo, .int it, .int tb, .int tn, .int te, .int ab, .int qu])), (cu, .inr (0, [.ref b0, .int ln, .int ca, .int fa, .int fp])), (b0, .inl (cI, 500, .inl g))]) [0, 1, 2] (by decide) rfl
  exact W.iret (v := r_1) hx hb hr (fun t ht hW => ⟨⟨r_1, (), rfl, hw_5, by rw [ht]; exact hP9, va_K.moved hW.alike hK, hD9⟩, hS.F ht⟩) hS.2.2 dX3_byteOf_8

set_option maxHeartbeats 4000000 in
set_option maxRecDepth 100000 in
/-- X3_count -/
theorem c_X3_count (l : Launch) (D : va_G) (cI : ClassId) (V : (Nat → Nat) × (Nat → Nat)) (h0 : Nat) (cm : Nat) (cl : Int32) (cu : Nat) (pc : Nat) (oe : Nat) (ta : Nat) (el : Int32) (mo : Int32) (it : Int32) (tb : Int32) (tn : Int32) (te : Int32) (ab : Int32) (qu : Int32) (pk : Nat) (pb : Nat) (pe : Nat) (pd : Nat) (ps : Int32) (pa : Int32) (sz : Nat) (p1 : Int32)  : Met l yX3_count (.code yX3_count cX3_count 2 (some .int) :: tbW) ({ frames := 0, cells := 0, slots := 0, locals := 0 }) (va_Pc [.ref h0, .int p1] (gP D cI V [(h0, .inr (3, [.ref cm, .int cl, .ref cu, .ref pc, .ref oe, .ref ta, .int el, .int mo, .int it, .int tb, .int tn, .int te, .int ab, .int qu])), (pc, .inr (2, [.ref pk, .ref pb, .ref pe, .ref pd, .int ps, .int pa]))] sz)) (va_Qi (fun (r : Int32) (u : Unit) => r = if p1 = 0 then ps else if p1 = 1 then el else if p1 = 2 then mo else if p1 = 3 then cl else if p1 = 4 then pa else -1) (fun u => gB D cI (va_A [(h0, .inr (3, [.ref cm, .int cl, .ref cu, .ref pc, .ref oe, .ref ta, .int el, .int mo, .int it, .int tb, .int tn, .int te, .int ab, .int qu])), (pc, .inr (2, [.ref pk, .ref pb, .ref pe, .ref pd, .int ps, .int pa]))] sz) [(h0, .inr (3, [.ref cm, .int cl, .ref cu, .ref pc, .ref oe, .ref ta, .int el, .int mo, .int it, .int tb, .int tn, .int te, .int ab, .int qu])), (pc, .inr (2, [.ref pk, .ref pb, .ref pe, .ref pd, .int ps, .int pa]))]) (va_A [(h0, .inr (3, [.ref cm, .int cl, .ref cu, .ref pc, .ref oe, .ref ta, .int el, .int mo, .int it, .int tb, .int tn, .int te, .int ab, .int qu])), (pc, .inr (2, [.ref pk, .ref pb, .ref pe, .ref pd, .int ps, .int pa]))] sz)) 0 0 (va_A [(h0, .inr (3, [.ref cm, .int cl, .ref cu, .ref pc, .ref oe, .ref ta, .int el, .int mo, .int it, .int tb, .int tn, .int te, .int ab, .int qu])), (pc, .inr (2, [.ref pk, .ref pb, .ref pe, .ref pd, .int ps, .int pa]))] sz) := by
  refine Met.ofW (cc := cX3_count) (maxL := 2) (ret := (some .int)) (by decide) rfl ?_
  intro p e s m args below meth c s₁ B hml hv
  obtain ⟨rfl, hsz, hP, hK, hD0, hN, hV⟩ := hv
  have hx := B.exec
  have hb := B.bytes
  have hr := B.returns
  have hts := tb_hts (atoms_spec (ws := .code yX3_count cX3_count 2 (some .int) :: tbW) B.pre)
  have hown : s.vm.findClass RX3 = some m.cls := findClass_of_methodNamed B.named
  have hlocks := B.notSynchronized
  subst hsz
  have hD := hD0.self (sz := s.heap.size)
  generalize hAe : va_A [(h0, .inr (3, [.ref cm, .int cl, .ref cu, .ref pc, .ref oe, .ref ta, .int el, .int mo, .int it, .int tb, .int tn, .int te, .int ab, .int qu])), (pc, .inr (2, [.ref pk, .ref pb, .ref pe, .ref pd, .int ps, .int pa]))] s.heap.size = A at hD hV ⊢
  have hA : ∀ q : Nat, s.heap.size ≤ q → A q := fun q h => by rw [← hAe]; exact Or.inr h
  have hS : va_S A s.heap s.heap [] := va_S.rf
  have hP : va_P D classes [(h0, .inr (3, [.ref cm, .int cl, .ref cu, .ref pc, .ref oe, .ref ta, .int el, .int mo, .int it, .int tb, .int tn, .int te, .int ab, .int qu])), (pc, .inr (2, [.ref pk, .ref pb, .ref pe, .ref pd, .int ps, .int pa]))] s.heap := hP
  have hl := lv_entry ([.ref h0, .int p1]) (n := 2) (Nat.le_of_ble_eq_true rfl)
  rw [lg_entry_eq]
  generalize (lg_sl ([.ref h0, .int p1]) ++ List.replicate (2 - (lg_sl ([.ref h0, .int p1])).length) Slot.unset).toArray = ls at hl ⊢
  have hl : lv_has ls 2 [(0, .ref h0), (1, .int p1)] := hl
  refine lv_iload_n hx hb dX3_count_0 rfl (lv_at hl 1 rfl) ?_
  by_cases s_1_0 : p1 = 0
  · refine lv_tableIn (off := 35) (tgt := 36) hx hb dX3_count_1 (by rw [s_1_0]; decide) (by rw [s_1_0]; decide) (by rw [s_1_0]; decide) (by decide) ?_
    refine lv_aload_n hx hb dX3_count_36 rfl (lv_at hl 0 rfl) ?_
    refine va_get (D := D) (ci := 3) (v := .ref pc) (C := RX3) (T := TX3) (N := 14) hx hb hts inX3 hown hK hP 0 rfl rfl 3 (by decide) (hts (Cond.fieldLink "NestedTags" 23 "NestedTags" "pieces" "LNestedTags$Pieces;") kk_1_99) (fun _ h9 => h9) rfl dX3_count_37 ?_
    refine va_getN (D := D) (ci := 2) (v := .int ps) (C := RX2) (T := TX2) (N := 6) hx hb hts inX2 hown hK hP 1 rfl rfl 4 (by decide) (nvf_4 hN) (fun _ h9 => h9) rfl dX3_count_40 ?_
    have hP9 := hP.sub (ws' := [(h0, .inr (3, [.ref cm, .int cl, .ref cu, .ref pc, .ref oe, .ref ta, .int el, .int mo, .int it, .int tb, .int tn, .int te, .int ab, .int qu])), (pc, .inr (2, [.ref pk, .ref pb, .ref pe, .ref pd, .int ps, .int pa]))]) [0, 1] rfl
    have hD9 := hD.sub (ws' := [(h0, .inr (3, [.ref cm, .int cl, .ref cu, .ref pc, .ref oe, .ref ta, .int el, .int mo, .int it, .int tb, .int tn, .int te, .int ab, .int qu])), (pc, .inr (2, [.ref pk, .ref pb, .ref pe, .ref pd, .int ps, .int pa]))]) [0, 1] (by decide) rfl
    exact W.iret (v := ps) hx hb hr (fun t ht hW => ⟨⟨ps, (), rfl, by rw [if_pos s_1_0], by rw [ht]; exact hP9, va_K.moved hW.alike hK, hD9⟩, hS.F ht⟩) hS.2.2 dX3_count_43
  by_cases s_1_1 : p1 = 1
  · refine lv_tableIn (off := 43) (tgt := 44) hx hb dX3_count_1 (by rw [s_1_1]; decide) (by rw [s_1_1]; decide) (by rw [s_1_1]; decide) (by decide) ?_
    refine lv_aload_n hx hb dX3_count_44 rfl (lv_at hl 0 rfl) ?_
    refine va_get (D := D) (ci := 3) (v := .int el) (C := RX3) (T := TX3) (N := 14) hx hb hts inX3 hown hK hP 0 rfl rfl 6 (by decide) (hts (Cond.fieldLink "NestedTags" 86 "NestedTags" "elements" "I") kk_1_102) (fun _ h9 => h9) rfl dX3_count_45 ?_
    have hP9 := hP.sub (ws' := [(h0, .inr (3, [.ref cm, .int cl, .ref cu, .ref pc, .ref oe, .ref ta, .int el, .int mo, .int it, .int tb, .int tn, .int te, .int ab, .int qu])), (pc, .inr (2, [.ref pk, .ref pb, .ref pe, .ref pd, .int ps, .int pa]))]) [0, 1] rfl
    have hD9 := hD.sub (ws' := [(h0, .inr (3, [.ref cm, .int cl, .ref cu, .ref pc, .ref oe, .ref ta, .int el, .int mo, .int it, .int tb, .int tn, .int te, .int ab, .int qu])), (pc, .inr (2, [.ref pk, .ref pb, .ref pe, .ref pd, .int ps, .int pa]))]) [0, 1] (by decide) rfl
    exact W.iret (v := el) hx hb hr (fun t ht hW => ⟨⟨el, (), rfl, by rw [if_neg s_1_0, if_pos s_1_1], by rw [ht]; exact hP9, va_K.moved hW.alike hK, hD9⟩, hS.F ht⟩) hS.2.2 dX3_count_48
  by_cases s_1_2 : p1 = 2
  · refine lv_tableIn (off := 48) (tgt := 49) hx hb dX3_count_1 (by rw [s_1_2]; decide) (by rw [s_1_2]; decide) (by rw [s_1_2]; decide) (by decide) ?_
    refine lv_aload_n hx hb dX3_count_49 rfl (lv_at hl 0 rfl) ?_
    refine va_get (D := D) (ci := 3) (v := .int mo) (C := RX3) (T := TX3) (N := 14) hx hb hts inX3 hown hK hP 0 rfl rfl 7 (by decide) (hts (Cond.fieldLink "NestedTags" 89 "NestedTags" "mostOpen" "I") kk_1_103) (fun _ h9 => h9) rfl dX3_count_50 ?_
    have hP9 := hP.sub (ws' := [(h0, .inr (3, [.ref cm, .int cl, .ref cu, .ref pc, .ref oe, .ref ta, .int el, .int mo, .int it, .int tb, .int tn, .int te, .int ab, .int qu])), (pc, .inr (2, [.ref pk, .ref pb, .ref pe, .ref pd, .int ps, .int pa]))]) [0, 1] rfl
    have hD9 := hD.sub (ws' := [(h0, .inr (3, [.ref cm, .int cl, .ref cu, .ref pc, .ref oe, .ref ta, .int el, .int mo, .int it, .int tb, .int tn, .int te, .int ab, .int qu])), (pc, .inr (2, [.ref pk, .ref pb, .ref pe, .ref pd, .int ps, .int pa]))]) [0, 1] (by decide) rfl
    exact W.iret (v := mo) hx hb hr (fun t ht hW => ⟨⟨mo, (), rfl, by rw [if_neg s_1_0, if_neg s_1_1, if_pos s_1_2], by rw [ht]; exact hP9, va_K.moved hW.alike hK, hD9⟩, hS.F ht⟩) hS.2.2 dX3_count_53
  by_cases s_1_3 : p1 = 3
  · refine lv_tableIn (off := 53) (tgt := 54) hx hb dX3_count_1 (by rw [s_1_3]; decide) (by rw [s_1_3]; decide) (by rw [s_1_3]; decide) (by decide) ?_
    refine lv_aload_n hx hb dX3_count_54 rfl (lv_at hl 0 rfl) ?_
    refine va_get (D := D) (ci := 3) (v := .int cl) (C := RX3) (T := TX3) (N := 14) hx hb hts inX3 hown hK hP 0 rfl rfl 1 (by decide) (hts (Cond.fieldLink "NestedTags" 43 "NestedTags" "comingLength" "I") kk_1_97) (fun _ h9 => h9) rfl dX3_count_55 ?_
    have hP9 := hP.sub (ws' := [(h0, .inr (3, [.ref cm, .int cl, .ref cu, .ref pc, .ref oe, .ref ta, .int el, .int mo, .int it, .int tb, .int tn, .int te, .int ab, .int qu])), (pc, .inr (2, [.ref pk, .ref pb, .ref pe, .ref pd, .int ps, .int pa]))]) [0, 1] rfl
    have hD9 := hD.sub (ws' := [(h0, .inr (3, [.ref cm, .int cl, .ref cu, .ref pc, .ref oe, .ref ta, .int el, .int mo, .int it, .int tb, .int tn, .int te, .int ab, .int qu])), (pc, .inr (2, [.ref pk, .ref pb, .ref pe, .ref pd, .int ps, .int pa]))]) [0, 1] (by decide) rfl
    exact W.iret (v := cl) hx hb hr (fun t ht hW => ⟨⟨cl, (), rfl, by rw [if_neg s_1_0, if_neg s_1_1, if_neg s_1_2, if_pos s_1_3], by rw [ht]; exact hP9, va_K.moved hW.alike hK, hD9⟩, hS.F ht⟩) hS.2.2 dX3_count_58
  by_cases s_1_4 : p1 = 4
  · refine lv_tableIn (off := 58) (tgt := 59) hx hb dX3_count_1 (by rw [s_1_4]; decide) (by rw [s_1_4]; decide) (by rw [s_1_4]; decide) (by decide) ?_
    refine lv_aload_n hx hb dX3_count_59 rfl (lv_at hl 0 rfl) ?_
    refine va_get (D := D) (ci := 3) (v := .ref pc) (C := RX3) (T := TX3) (N := 14) hx hb hts inX3 hown hK hP 0 rfl rfl 3 (by decide) (hts (Cond.fieldLink "NestedTags" 23 "NestedTags" "pieces" "LNestedTags$Pieces;") kk_1_99) (fun _ h9 => h9) rfl dX3_count_60 ?_
    refine va_getN (D := D) (ci := 2) (v := .int pa) (C := RX2) (T := TX2) (N := 6) hx hb hts inX2 hown hK hP 1 rfl rfl 5 (by decide) (nvf_5 hN) (fun _ h9 => h9) rfl dX3_count_63 ?_
    have hP9 := hP.sub (ws' := [(h0, .inr (3, [.ref cm, .int cl, .ref cu, .ref pc, .ref oe, .ref ta, .int el, .int mo, .int it, .int tb, .int tn, .int te, .int ab, .int qu])), (pc, .inr (2, [.ref pk, .ref pb, .ref pe, .ref pd, .int ps, .int pa]))]) [0, 1] rfl
    have hD9 := hD.sub (ws' := [(h0, .inr (3, [.ref cm, .int cl, .ref cu, .ref pc, .ref oe, .ref ta, .int el, .int mo, .int it, .int tb, .int tn, .int te, .int ab, .int qu])), (pc, .inr (2, [.ref pk, .ref pb, .ref pe, .ref pd, .int ps, .int pa]))]) [0, 1] (by decide) rfl
    exact W.iret (v := pa) hx hb hr (fun t ht hW => ⟨⟨pa, (), rfl, by rw [if_neg s_1_0, if_neg s_1_1, if_neg s_1_2, if_neg s_1_3, if_pos s_1_4], by rw [ht]; exact hP9, va_K.moved hW.alike hK, hD9⟩, hS.F ht⟩) hS.2.2 dX3_count_66
  refine lv_tableOut (tgt := 67) hx hb dX3_count_1 (by have := lv_neT s_1_0 (a := 0) rfl; have := lv_neT s_1_1 (a := 1) rfl; have := lv_neT s_1_2 (a := 2) rfl; have := lv_neT s_1_3 (a := 3) rfl; have := lv_neT s_1_4 (a := 4) rfl; omega) (by decide) ?_
  refine lv_iconst (v := (-1)) hx hb dX3_count_67 (by decide) ?_
  have hP9 := hP.sub (ws' := [(h0, .inr (3, [.ref cm, .int cl, .ref cu, .ref pc, .ref oe, .ref ta, .int el, .int mo, .int it, .int tb, .int tn, .int te, .int ab, .int qu])), (pc, .inr (2, [.ref pk, .ref pb, .ref pe, .ref pd, .int ps, .int pa]))]) [0, 1] rfl
  have hD9 := hD.sub (ws' := [(h0, .inr (3, [.ref cm, .int cl, .ref cu, .ref pc, .ref oe, .ref ta, .int el, .int mo, .int it, .int tb, .int tn, .int te, .int ab, .int qu])), (pc, .inr (2, [.ref pk, .ref pb, .ref pe, .ref pd, .int ps, .int pa]))]) [0, 1] (by decide) rfl
  exact W.iret (v := (-1)) hx hb hr (fun t ht hW => ⟨⟨(-1), (), rfl, by rw [if_neg s_1_0, if_neg s_1_1, if_neg s_1_2, if_neg s_1_3, if_neg s_1_4], by rw [ht]; exact hP9, va_K.moved hW.alike hK, hD9⟩, hS.F ht⟩) hS.2.2 dX3_count_68

set_option maxHeartbeats 4000000 in
set_option maxRecDepth 100000 in
/-- put, accepted -/
theorem c_X3_put_yes (l : Launch) (D : va_G) (cI : ClassId) (V : (Nat → Nat) × (Nat → Nat)) (h0 : Nat) (cm : Nat) (cu : Nat) (pc : Nat) (oe : Nat) (ta : Nat) (el : Int32) (mo : Int32) (it : Int32) (tb : Int32) (tn : Int32) (te : Int32) (ab : Int32) (qu : Int32) (k0 : Nat) (f0 : Nat → Int32) (j0 : Nat) (sz : Nat) (p1 : Int64) (p2 : Int32) (ep2 : p2 = nI (j0 + 1)) (hj : j0 < 8) (hk0 : k0 + j0 + 1 ≤ 500) : Met l yX3_put (.code yX3_put cX3_put 5 (some .boolean) :: tbW) ({ frames := 0, cells := 0, slots := 0, locals := 0 }) (va_Pc [.ref h0, .long p1, .int p2] (gP D cI V [(h0, .inr (3, [.ref cm, .int (nI k0), .ref cu, .ref pc, .ref oe, .ref ta, .int el, .int mo, .int it, .int tb, .int tn, .int te, .int ab, .int qu])), (cm, .inl (cI, 500, .inl f0))] sz)) (va_Qi (fun (r : Int32) (u : Int32 × (Nat → Int32)) => r = 1 ∧ u.1 = nI (k0 + j0 + 1) ∧ u.2 = putF p1 (j0 + 1) k0 f0) (fun u => gB D cI (va_A [(h0, .inr (3, [.ref cm, .int (nI k0), .ref cu, .ref pc, .ref oe, .ref ta, .int el, .int mo, .int it, .int tb, .int tn, .int te, .int ab, .int qu])), (cm, .inl (cI, 500, .inl f0))] sz) [(h0, .inr (3, [.ref cm, .int u.1, .ref cu, .ref pc, .ref oe, .ref ta, .int el, .int mo, .int it, .int tb, .int tn, .int te, .int ab, .int qu])), (cm, .inl (cI, 500, .inl u.2))]) (va_A [(h0, .inr (3, [.ref cm, .int (nI k0), .ref cu, .ref pc, .ref oe, .ref ta, .int el, .int mo, .int it, .int tb, .int tn, .int te, .int ab, .int qu])), (cm, .inl (cI, 500, .inl f0))] sz)) 0 0 (va_A [(h0, .inr (3, [.ref cm, .int (nI k0), .ref cu, .ref pc, .ref oe, .ref ta, .int el, .int mo, .int it, .int tb, .int tn, .int te, .int ab, .int qu])), (cm, .inl (cI, 500, .inl f0))] sz) := by
  refine Met.ofW (cc := cX3_put) (maxL := 5) (ret := (some .boolean)) (by decide) rfl ?_
  intro p e s m args below meth c s₁ B hml hv
  obtain ⟨rfl, hsz, hP, hK, hD0, hN, hV⟩ := hv
  have hx := B.exec
  have hb := B.bytes
  have hr := B.returns
  have hts := tb_hts (atoms_spec (ws := .code yX3_put cX3_put 5 (some .boolean) :: tbW) B.pre)
  have hown : s.vm.findClass RX3 = some m.cls := findClass_of_methodNamed B.named
  have hlocks := B.notSynchronized
  subst hsz
  have hD := hD0.self (sz := s.heap.size)
  generalize hAe : va_A [(h0, .inr (3, [.ref cm, .int (nI k0), .ref cu, .ref pc, .ref oe, .ref ta, .int el, .int mo, .int it, .int tb, .int tn, .int te, .int ab, .int qu])), (cm, .inl (cI, 500, .inl f0))] s.heap.size = A at hD hV ⊢
  have hA : ∀ q : Nat, s.heap.size ≤ q → A q := fun q h => by rw [← hAe]; exact Or.inr h
  have hS : va_S A s.heap s.heap [] := va_S.rf
  have hP : va_P D classes [(h0, .inr (3, [.ref cm, .int (nI k0), .ref cu, .ref pc, .ref oe, .ref ta, .int el, .int mo, .int it, .int tb, .int tn, .int te, .int ab, .int qu])), (cm, .inl (cI, 500, .inl f0))] s.heap := hP
  have hl := lv_entry ([.ref h0, .long p1, .int p2]) (n := 5) (Nat.le_of_ble_eq_true rfl)
  rw [lg_entry_eq]
  generalize (lg_sl ([.ref h0, .long p1, .int p2]) ++ List.replicate (5 - (lg_sl ([.ref h0, .long p1, .int p2])).length) Slot.unset).toArray = ls at hl ⊢
  have hl : lv_has ls 5 [(0, .ref h0), (1, .long p1), (3, .int p2)] := hl
  generalize hQ : MQ below (va_Qi (fun (r : Int32) (u : Int32 × (Nat → Int32)) => r = 1 ∧ u.1 = nI (k0 + j0 + 1) ∧ u.2 = putF p1 (j0 + 1) k0 f0) (fun u => gB D cI A [(h0, .inr (3, [.ref cm, .int u.1, .ref cu, .ref pc, .ref oe, .ref ta, .int el, .int mo, .int it, .int tb, .int tn, .int te, .int ab, .int qu])), (cm, .inl (cI, 500, .inl u.2))]) A) (([.ref h0, .long p1, .int p2] : List Value).toArray) s 0 0 A = Q
  refine lv_iload_n hx hb dX3_put_0 rfl (lv_at hl 2 rfl) ?_
  refine lv_iconst (v := 1) hx hb dX3_put_1 (by decide) ?_
  refine lv_icmp_lt (tgt := 23) hx hb dX3_put_2 (by decide) (fun c_2 => ?_) (fun c_2 => ?_)
  · skip
    exact absurd c_2 (by rw [ep2]; exact nI_nlt (a := j0 + 1) (b := 1) (by omega) (by omega))
  · skip
    refine lv_iload_n hx hb dX3_put_5 rfl (lv_at hl 2 rfl) ?_
    refine lv_bipush (v := 8) hx hb dX3_put_6 (by decide) ?_
    refine lv_icmp_gt (tgt := 23) hx hb dX3_put_8 (by decide) (fun c_8 => ?_) (fun c_8 => ?_)
    · skip
      exact absurd c_8 (by rw [ep2]; exact nI_nlt (a := 8) (b := j0 + 1) (by omega) (by omega))
    · skip
      refine lv_aload_n hx hb dX3_put_11 rfl (lv_at hl 0 rfl) ?_
      refine va_get (D := D) (ci := 3) (v := .int (nI k0)) (C := RX3) (T := TX3) (N := 14) hx hb hts inX3 hown hK hP 0 rfl rfl 1 (by decide) (hts (Cond.fieldLink "NestedTags" 43 "NestedTags" "comingLength" "I") kk_1_97) (fun _ h9 => h9) rfl dX3_put_12 ?_
      refine lv_sipush (v := 500) hx hb dX3_put_15 (by decide) ?_
      refine lv_iload_n hx hb dX3_put_18 rfl (lv_at hl 2 rfl) ?_
      refine lv_isub hx hb dX3_put_19 ?_
      refine lv_topi (fun x_1 ex_1 => ?_)
      refine lv_icmp_le (tgt := 25) hx hb dX3_put_20 (by decide) (fun c_20 => ?_) (fun c_20 => ?_)
      · skip
        refine lv_iload_n hx hb dX3_put_25 rfl (lv_at hl 2 rfl) ?_
        refine lv_iconst (v := 1) hx hb dX3_put_26 (by decide) ?_
        refine lv_isub hx hb dX3_put_27 ?_
        refine lv_topi (fun x_2 ex_2 => ?_)
        refine lv_istore (lv' := [(4, .int x_2), (0, .ref h0), (1, .long p1), (3, .int p2)]) hx hb dX3_put_28 hl (by decide) rfl (fun ls hl => ?_)
        have loop : ∀ (i k : Nat) (x4 : Int32) (f : Nat → Int32) (H : Heap) (locs : List Loc), x4 = nI i - 1 → k + i = k0 + j0 + 1 → putF p1 i k f = putF p1 (j0 + 1) k0 f0 → va_P D classes [(h0, .inr (3, [.ref cm, .int (nI k), .ref cu, .ref pc, .ref oe, .ref ta, .int el, .int mo, .int it, .int tb, .int tn, .int te, .int ab, .int qu])), (cm, .inl (cI, 500, .inl f))] H → va_D A [(h0, .inr (3, [.ref cm, .int (nI k), .ref cu, .ref pc, .ref oe, .ref ta, .int el, .int mo, .int it, .int tb, .int tn, .int te, .int ab, .int qu])), (cm, .inl (cI, 500, .inl f))] → va_S A s.heap H locs → ∀ (ls : Array Slot), lv_has ls 5 [(4, .int x4), (0, .ref h0), (1, .long p1), (3, .int p2)] → W p l e (headSpec (.code yX3_put cX3_put 5 (some .boolean) :: tbW) { frames := 0, cells := 0, slots := 0, locals := 0 }).room s m (([.ref h0, .long p1, .int p2] : List Value).toArray) below meth c H locs 0 0 Q (F0 m 30 ls []) := by
          intro i
          induction i with
          | zero =>
            intro k x4 f H locs ex4 hk hF hP hD hS ls hl
            refine lv_iload hx hb dX3_put_30 (lv_at hl 0 rfl) ?_
            refine lv_if_lt (tgt := 91) hx hb dX3_put_32 (by decide) (fun c_32 => ?_) (fun c_32 => ?_)
            · skip
              refine lv_iconst (v := 1) hx hb dX3_put_91 (by decide) ?_
              have hP9 := hP.sub (ws' := [(h0, .inr (3, [.ref cm, .int (nI k), .ref cu, .ref pc, .ref oe, .ref ta, .int el, .int mo, .int it, .int tb, .int tn, .int te, .int ab, .int qu])), (cm, .inl (cI, 500, .inl f))]) [0, 1] rfl
              have hD9 := hD.sub (ws' := [(h0, .inr (3, [.ref cm, .int (nI k), .ref cu, .ref pc, .ref oe, .ref ta, .int el, .int mo, .int it, .int tb, .int tn, .int te, .int ab, .int qu])), (cm, .inl (cI, 500, .inl f))]) [0, 1] (by decide) rfl
              rw [← hQ]
              exact W.zret (v := 1) (ty := .boolean) hx hb hr rfl (fun t ht hW => ⟨⟨1, ((nI k), f), rfl, ⟨rfl, by rw [show k = k0 + j0 + 1 by omega], hF⟩, by rw [ht]; exact hP9, va_K.moved hW.alike hK, hD9⟩, hS.F ht⟩) hS.2.2 dX3_put_92
            · skip
              exact absurd (show x4 < 0 by rw [ex4]; decide) c_32
          | succ i ih =>
            intro k x4 f H locs ex4 hk hF hP hD hS ls hl
            rw [nI_pred] at ex4
            refine lv_iload hx hb dX3_put_30 (lv_at hl 0 rfl) ?_
            refine lv_if_lt (tgt := 91) hx hb dX3_put_32 (by decide) (fun c_32 => ?_) (fun c_32 => ?_)
            · skip
              exact absurd c_32 (by rw [ex4]; exact nI_pos (by omega))
            · skip
              refine lv_aload_n hx hb dX3_put_35 rfl (lv_at hl 1 rfl) ?_
              refine va_get (D := D) (ci := 3) (v := .int (nI k)) (C := RX3) (T := TX3) (N := 14) hx hb hts inX3 hown hK hP 0 rfl rfl 1 (by decide) (hts (Cond.fieldLink "NestedTags" 43 "NestedTags" "comingLength" "I") kk_1_97) (fun _ h9 => h9) rfl dX3_put_36 ?_
              refine lv_if_lt (tgt := 85) hx hb dX3_put_39 (by decide) (fun c_39 => ?_) (fun c_39 => ?_)
              · skip
                exact absurd c_39 (nI_pos (by omega))
              · skip
                refine lv_aload_n hx hb dX3_put_42 rfl (lv_at hl 1 rfl) ?_
                refine va_get (D := D) (ci := 3) (v := .int (nI k)) (C := RX3) (T := TX3) (N := 14) hx hb hts inX3 hown hK hP 0 rfl rfl 1 (by decide) (hts (Cond.fieldLink "NestedTags" 43 "NestedTags" "comingLength" "I") kk_1_97) (fun _ h9 => h9) rfl dX3_put_43 ?_
                refine lv_aload_n hx hb dX3_put_46 rfl (lv_at hl 1 rfl) ?_
                refine va_get (D := D) (ci := 3) (v := .ref cm) (C := RX3) (T := TX3) (N := 14) hx hb hts inX3 hown hK hP 0 rfl rfl 0 (by decide) (hts (Cond.fieldLink "NestedTags" 9 "NestedTags" "coming" "[I") kk_1_96) (fun _ h9 => h9) rfl dX3_put_47 ?_
                refine va_alen hx hb hK hP 1 0 rfl rfl (v := nI 500) rfl dX3_put_50 ?_
                refine lv_icmp_ge (tgt := 85) hx hb dX3_put_51 (by decide) (fun c_51 => ?_) (fun c_51 => ?_)
                · skip
                  exact absurd c_51 (nI_ge (by omega) (by decide))
                · skip
                  refine lv_aload_n hx hb dX3_put_54 rfl (lv_at hl 1 rfl) ?_
                  refine va_get (D := D) (ci := 3) (v := .ref cm) (C := RX3) (T := TX3) (N := 14) hx hb hts inX3 hown hK hP 0 rfl rfl 0 (by decide) (hts (Cond.fieldLink "NestedTags" 9 "NestedTags" "coming" "[I") kk_1_96) (fun _ h9 => h9) rfl dX3_put_55 ?_
                  refine lv_aload_n hx hb dX3_put_58 rfl (lv_at hl 1 rfl) ?_
                  refine va_get (D := D) (ci := 3) (v := .int (nI k)) (C := RX3) (T := TX3) (N := 14) hx hb hts inX3 hown hK hP 0 rfl rfl 1 (by decide) (hts (Cond.fieldLink "NestedTags" 43 "NestedTags" "comingLength" "I") kk_1_97) (fun _ h9 => h9) rfl dX3_put_59 ?_
                  refine lv_lload_n hx hb dX3_put_62 rfl (lv_at hl 2 rfl) ?_
                  refine lv_bipush (v := 8) hx hb dX3_put_63 (by decide) ?_
                  refine lv_iload hx hb dX3_put_65 (lv_at hl 0 rfl) ?_
                  refine lv_imul hx hb dX3_put_67 ?_
                  refine lv_topi (fun x_3 ex_3 => ?_)
                  refine lv_lushr hx hb dX3_put_68 rfl ?_
                  refine lv_topl (fun y_4 ey_4 => ?_)
                  refine lv_l2i hx hb dX3_put_69 rfl ?_
                  refine lv_topi (fun x_5 ex_5 => ?_)
                  refine lv_sipush (v := 255) hx hb dX3_put_70 (by decide) ?_
                  refine lv_iand hx hb dX3_put_73 ?_
                  refine lv_topi (fun x_6 ex_6 => ?_)
                  refine va_iast hx hb hK hP hD hS 1 0 rfl rfl (vp_in_nI (by omega) (by decide)) dX3_put_74 (fun H locs hP hD hS => ?_)
                  have hP : va_P D classes [(h0, .inr (3, [.ref cm, .int (nI k), .ref cu, .ref pc, .ref oe, .ref ta, .int el, .int mo, .int it, .int tb, .int tn, .int te, .int ab, .int qu])), (cm, .inl (cI, 500, .inl (upd f (nI k).toNatClampNeg x_6)))] H := hP
                  have hD : va_D A [(h0, .inr (3, [.ref cm, .int (nI k), .ref cu, .ref pc, .ref oe, .ref ta, .int el, .int mo, .int it, .int tb, .int tn, .int te, .int ab, .int qu])), (cm, .inl (cI, 500, .inl (upd f (nI k).toNatClampNeg x_6)))] := hD
                  obtain ⟨f_7, ef_7⟩ : ∃ z, z = (upd f (nI k).toNatClampNeg x_6) := ⟨_, rfl⟩
                  rw [← ef_7] at hP hD
                  refine lv_aload_n hx hb dX3_put_75 rfl (lv_at hl 1 rfl) ?_
                  refine lv_dup hx hb dX3_put_76 rfl ?_
                  refine va_get (D := D) (ci := 3) (v := .int (nI k)) (C := RX3) (T := TX3) (N := 14) hx hb hts inX3 hown hK hP 0 rfl rfl 1 (by decide) (hts (Cond.fieldLink "NestedTags" 43 "NestedTags" "comingLength" "I") kk_1_97) (fun _ h9 => h9) rfl dX3_put_77 ?_
                  refine lv_iconst (v := 1) hx hb dX3_put_80 (by decide) ?_
                  refine lv_iadd hx hb dX3_put_81 ?_
                  refine lv_topi (fun x_8 ex_8 => ?_)
                  refine va_put (D := D) (ci := 3) (v := .int x_8) (ty := .int) (C := RX3) (T := TX3) (N := 14) hx hb hts inX3 tyX3 tyX3_ok nmX3 hown hK hP hD hS 0 rfl rfl 1 (by decide) (hts (Cond.fieldLink "NestedTags" 43 "NestedTags" "comingLength" "I") kk_1_97) (fun _ h9 => h9) rfl (tyX3_ok 1 (by decide)) rfl rfl (Nat.le_of_ble_eq_true rfl) dX3_put_82 (fun H locs hP hD hS => ?_)
                  have hP : va_P D classes [(h0, .inr (3, [.ref cm, .int x_8, .ref cu, .ref pc, .ref oe, .ref ta, .int el, .int mo, .int it, .int tb, .int tn, .int te, .int ab, .int qu])), (cm, .inl (cI, 500, .inl f_7))] H := hP
                  have hD : va_D A [(h0, .inr (3, [.ref cm, .int x_8, .ref cu, .ref pc, .ref oe, .ref ta, .int el, .int mo, .int it, .int tb, .int tn, .int te, .int ab, .int qu])), (cm, .inl (cI, 500, .inl f_7))] := hD
                  obtain ⟨x_9, ex_9⟩ : ∃ y : Int32, y = x4 + (-1) := ⟨_, rfl⟩
                  refine lv_iinc (v := x_9) (lv' := [(4, .int x_9), (0, .ref h0), (1, .long p1), (3, .int p2)]) hx hb dX3_put_85 hl (k := 0) rfl (by rw [ex_9]; rfl) (by decide) rfl (fun ls hl => ?_)
                  refine lv_goto (tgt := 30) hx hb dX3_put_88 (by decide) ?_
                  have e1 : x_8 = nI (k + 1) := by rw [ex_8]; exact nI_1 k
                  rw [e1] at hP hD
                  refine ih (k + 1) x_9 f_7 _ _ (by rw [ex_9, ex4, Int32.sub_eq_add_neg]) (by omega) ?_ hP hD hS ls hl
                  rw [← hF, putF]
                  congr 1
                  rw [ef_7, nI_clamp (by omega)]
                  congr 1
                  rw [ex_6, ex_5, ey_4, ex_3, ex4]
                  exact byt_eq p1 i
        exact loop (j0 + 1) k0 x_2 f0 _ _ (by rw [ex_2, ep2]) (by omega) rfl hP hD hS ls hl
      · skip
        exact absurd (put_c20 ep2 hj hk0 ex_1) c_20

set_option maxHeartbeats 4000000 in
set_option maxRecDepth 100000 in
/-- put, refused: nothing changes -/
theorem c_X3_put_no (l : Launch) (D : va_G) (cI : ClassId) (V : (Nat → Nat) × (Nat → Nat)) (h0 : Nat) (cm : Nat) (cu : Nat) (pc : Nat) (oe : Nat) (ta : Nat) (el : Int32) (mo : Int32) (it : Int32) (tb : Int32) (tn : Int32) (te : Int32) (ab : Int32) (qu : Int32) (k0 : Nat) (f0 : Nat → Int32) (sz : Nat) (p1 : Int64) (p2 : Int32) (hk0 : k0 ≤ 500) (hno : ∀ j : Nat, j < 8 → p2 = nI (j + 1) → 500 < k0 + j + 1) : Met l yX3_put (.code yX3_put cX3_put 5 (some .boolean) :: tbW) ({ frames := 0, cells := 0, slots := 0, locals := 0 }) (va_Pc [.ref h0, .long p1, .int p2] (gP D cI V [(h0, .inr (3, [.ref cm, .int (nI k0), .ref cu, .ref pc, .ref oe, .ref ta, .int el, .int mo, .int it, .int tb, .int tn, .int te, .int ab, .int qu])), (cm, .inl (cI, 500, .inl f0))] sz)) (va_Qi (fun (r : Int32) (u : Unit) => r = 0) (fun u => gB D cI (va_A [(h0, .inr (3, [.ref cm, .int (nI k0), .ref cu, .ref pc, .ref oe, .ref ta, .int el, .int mo, .int it, .int tb, .int tn, .int te, .int ab, .int qu])), (cm, .inl (cI, 500, .inl f0))] sz) [(h0, .inr (3, [.ref cm, .int (nI k0), .ref cu, .ref pc, .ref oe, .ref ta, .int el, .int mo, .int it, .int tb, .int tn, .int te, .int ab, .int qu])), (cm, .inl (cI, 500, .inl f0))]) (va_A [(h0, .inr (3, [.ref cm, .int (nI k0), .ref cu, .ref pc, .ref oe, .ref ta, .int el, .int mo, .int it, .int tb, .int tn, .int te, .int ab, .int qu])), (cm, .inl (cI, 500, .inl f0))] sz)) 0 0 (va_A [(h0, .inr (3, [.ref cm, .int (nI k0), .ref cu, .ref pc, .ref oe, .ref ta, .int el, .int mo, .int it, .int tb, .int tn, .int te, .int ab, .int qu])), (cm, .inl (cI, 500, .inl f0))] sz) := by
  refine Met.ofW (cc := cX3_put) (maxL := 5) (ret := (some .boolean)) (by decide) rfl ?_
  intro p e s m args below meth c s₁ B hml hv
  obtain ⟨rfl, hsz, hP, hK, hD0, hN, hV⟩ := hv
  have hx := B.exec
  have hb := B.bytes
  have hr := B.returns
  have hts := tb_hts (atoms_spec (ws := .code yX3_put cX3_put 5 (some .boolean) :: tbW) B.pre)
  have hown : s.vm.findClass RX3 = some m.cls := findClass_of_methodNamed B.named
  have hlocks := B.notSynchronized
  subst hsz
  have hD := hD0.self (sz := s.heap.size)
  generalize hAe : va_A [(h0, .inr (3, [.ref cm, .int (nI k0), .ref cu, .ref pc, .ref oe, .ref ta, .int el, .int mo, .int it, .int tb, .int tn, .int te, .int ab, .int qu])), (cm, .inl (cI, 500, .inl f0))] s.heap.size = A at hD hV ⊢
  have hA : ∀ q : Nat, s.heap.size ≤ q → A q := fun q h => by rw [← hAe]; exact Or.inr h
  have hS : va_S A s.heap s.heap [] := va_S.rf
  have hP : va_P D classes [(h0, .inr (3, [.ref cm, .int (nI k0), .ref cu, .ref pc, .ref oe, .ref ta, .int el, .int mo, .int it, .int tb, .int tn, .int te, .int ab, .int qu])), (cm, .inl (cI, 500, .inl f0))] s.heap := hP
  have hl := lv_entry ([.ref h0, .long p1, .int p2]) (n := 5) (Nat.le_of_ble_eq_true rfl)
  rw [lg_entry_eq]
  generalize (lg_sl ([.ref h0, .long p1, .int p2]) ++ List.replicate (5 - (lg_sl ([.ref h0, .long p1, .int p2])).length) Slot.unset).toArray = ls at hl ⊢
  have hl : lv_has ls 5 [(0, .ref h0), (1, .long p1), (3, .int p2)] := hl
  refine lv_iload_n hx hb dX3_put_0 rfl (lv_at hl 2 rfl) ?_
  refine lv_iconst (v := 1) hx hb dX3_put_1 (by decide) ?_
  refine lv_icmp_lt (tgt := 23) hx hb dX3_put_2 (by decide) (fun c_2 => ?_) (fun c_2 => ?_)
  · skip
    refine lv_iconst (v := 0) hx hb dX3_put_23 (by decide) ?_
    have hP9 := hP.sub (ws' := [(h0, .inr (3, [.ref cm, .int (nI k0), .ref cu, .ref pc, .ref oe, .ref ta, .int el, .int mo, .int it, .int tb, .int tn, .int te, .int ab, .int qu])), (cm, .inl (cI, 500, .inl f0))]) [0, 1] rfl
    have hD9 := hD.sub (ws' := [(h0, .inr (3, [.ref cm, .int (nI k0), .ref cu, .ref pc, .ref oe, .ref ta, .int el, .int mo, .int it, .int tb, .int tn, .int te, .int ab, .int qu])), (cm, .inl (cI, 500, .inl f0))]) [0, 1] (by decide) rfl
    exact W.zret (v := 0) (ty := .boolean) hx hb hr rfl (fun t ht hW => ⟨⟨0, (), rfl, rfl, by rw [ht]; exact hP9, va_K.moved hW.alike hK, hD9⟩, hS.F ht⟩) hS.2.2 dX3_put_24
  · skip
    refine lv_iload_n hx hb dX3_put_5 rfl (lv_at hl 2 rfl) ?_
    refine lv_bipush (v := 8) hx hb dX3_put_6 (by decide) ?_
    refine lv_icmp_gt (tgt := 23) hx hb dX3_put_8 (by decide) (fun c_8 => ?_) (fun c_8 => ?_)
    · skip
      refine lv_iconst (v := 0) hx hb dX3_put_23 (by decide) ?_
      have hP9 := hP.sub (ws' := [(h0, .inr (3, [.ref cm, .int (nI k0), .ref cu, .ref pc, .ref oe, .ref ta, .int el, .int mo, .int it, .int tb, .int tn, .int te, .int ab, .int qu])), (cm, .inl (cI, 500, .inl f0))]) [0, 1] rfl
      have hD9 := hD.sub (ws' := [(h0, .inr (3, [.ref cm, .int (nI k0), .ref cu, .ref pc, .ref oe, .ref ta, .int el, .int mo, .int it, .int tb, .int tn, .int te, .int ab, .int qu])), (cm, .inl (cI, 500, .inl f0))]) [0, 1] (by decide) rfl
      exact W.zret (v := 0) (ty := .boolean) hx hb hr rfl (fun t ht hW => ⟨⟨0, (), rfl, rfl, by rw [ht]; exact hP9, va_K.moved hW.alike hK, hD9⟩, hS.F ht⟩) hS.2.2 dX3_put_24
    · skip
      refine lv_aload_n hx hb dX3_put_11 rfl (lv_at hl 0 rfl) ?_
      refine va_get (D := D) (ci := 3) (v := .int (nI k0)) (C := RX3) (T := TX3) (N := 14) hx hb hts inX3 hown hK hP 0 rfl rfl 1 (by decide) (hts (Cond.fieldLink "NestedTags" 43 "NestedTags" "comingLength" "I") kk_1_97) (fun _ h9 => h9) rfl dX3_put_12 ?_
      refine lv_sipush (v := 500) hx hb dX3_put_15 (by decide) ?_
      refine lv_iload_n hx hb dX3_put_18 rfl (lv_at hl 2 rfl) ?_
      refine lv_isub hx hb dX3_put_19 ?_
      refine lv_topi (fun x_1 ex_1 => ?_)
      refine lv_icmp_le (tgt := 25) hx hb dX3_put_20 (by decide) (fun c_20 => ?_) (fun c_20 => ?_)
      · skip
        exact (put_no c_2 c_8 ex_1 c_20 hno hk0).elim
      · skip
        refine lv_iconst (v := 0) hx hb dX3_put_23 (by decide) ?_
        have hP9 := hP.sub (ws' := [(h0, .inr (3, [.ref cm, .int (nI k0), .ref cu, .ref pc, .ref oe, .ref ta, .int el, .int mo, .int it, .int tb, .int tn, .int te, .int ab, .int qu])), (cm, .inl (cI, 500, .inl f0))]) [0, 1] rfl
        have hD9 := hD.sub (ws' := [(h0, .inr (3, [.ref cm, .int (nI k0), .ref cu, .ref pc, .ref oe, .ref ta, .int el, .int mo, .int it, .int tb, .int tn, .int te, .int ab, .int qu])), (cm, .inl (cI, 500, .inl f0))]) [0, 1] (by decide) rfl
        exact W.zret (v := 0) (ty := .boolean) hx hb hr rfl (fun t ht hW => ⟨⟨0, (), rfl, rfl, by rw [ht]; exact hP9, va_K.moved hW.alike hK, hD9⟩, hS.F ht⟩) hS.2.2 dX3_put_24
