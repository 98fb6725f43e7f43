set_option maxHeartbeats 4000000 in
set_option maxRecDepth 100000 in
/-- X4_isBlank -/
theorem c_X4_isBlank (l : Launch) (D : va_G) (cI : ClassId) (V : (Nat → Nat) × (Nat → Nat))  (sz : Nat) (p1 : Int32)  : Met l yX4_isBlank (.code yX4_isBlank cX4_isBlank 1 (some .boolean) :: tbW) ({ frames := 0, cells := 0, slots := 0, locals := 0 }) (va_Pc [.int p1] (gP D cI V [] sz)) (va_Qi (fun (r : Int32) (u : Unit) => r = 0 ∨ r = 1) (fun u => gB D cI (va_A [] sz) []) (va_A [] sz)) 0 0 (va_A [] sz) := by
  refine Met.ofW (cc := cX4_isBlank) (maxL := 1) (ret := (some .boolean)) (by decide) rfl ?_
  intro p e s m args below meth c s₁ B hml hv
  obtain ⟨rfl, hsz, hP, hK, hD0, hN, hV⟩ := hv
  have hx := B.exec
  have hb := B.bytes
  have hr := B.returns
  have hts := tb_hts (atoms_spec (ws := .code yX4_isBlank cX4_isBlank 1 (some .boolean) :: tbW) B.pre)
  have hown : s.vm.findClass RX4 = some m.cls := findClass_of_methodNamed B.named
  have hlocks := B.notSynchronized
  subst hsz
  have hD := hD0.self (sz := s.heap.size)
  generalize hAe : va_A [] s.heap.size = A at hD hV ⊢
  have hA : ∀ q : Nat, s.heap.size ≤ q → A q := fun q h => by rw [← hAe]; exact Or.inr h
  have hS : va_S A s.heap s.heap [] := va_S.rf
  have hP : va_P D classes [] s.heap := hP
  have hl := lv_entry ([.int p1]) (n := 1) (Nat.le_of_ble_eq_true rfl)
  rw [lg_entry_eq]
  generalize (lg_sl ([.int p1]) ++ List.replicate (1 - (lg_sl ([.int p1])).length) Slot.unset).toArray = ls at hl ⊢
  have hl : lv_has ls 1 [(0, .int p1)] := hl
  refine lv_iload_n hx hb dX4_isBlank_0 rfl (lv_at hl 0 rfl) ?_
  refine lv_bipush (v := 9) hx hb dX4_isBlank_1 (by decide) ?_
  refine lv_icmp_eq (tgt := 24) hx hb dX4_isBlank_3 (by decide) (fun c_3 => ?_) (fun c_3 => ?_)
  · skip
    refine lv_iconst (v := 1) hx hb dX4_isBlank_24 (by decide) ?_
    refine lv_goto (tgt := 29) hx hb dX4_isBlank_25 (by decide) ?_
    have hP9 := hP.sub (ws' := []) [] rfl
    have hD9 := hD.sub (ws' := []) [] (by decide) rfl
    exact W.zret (v := 1) (ty := .boolean) hx hb hr rfl (fun t9 ht9 hW => ⟨⟨1, (), rfl, Or.inr rfl, by rw [ht9]; exact hP9, va_K.moved hW.alike hK, hD9⟩, hS.F ht9⟩) hS.2.2 dX4_isBlank_29
  · skip
    refine lv_iload_n hx hb dX4_isBlank_6 rfl (lv_at hl 0 rfl) ?_
    refine lv_bipush (v := 10) hx hb dX4_isBlank_7 (by decide) ?_
    refine lv_icmp_eq (tgt := 24) hx hb dX4_isBlank_9 (by decide) (fun c_9 => ?_) (fun c_9 => ?_)
    · skip
      refine lv_iconst (v := 1) hx hb dX4_isBlank_24 (by decide) ?_
      refine lv_goto (tgt := 29) hx hb dX4_isBlank_25 (by decide) ?_
      have hP9 := hP.sub (ws' := []) [] rfl
      have hD9 := hD.sub (ws' := []) [] (by decide) rfl
      exact W.zret (v := 1) (ty := .boolean) hx hb hr rfl (fun t9 ht9 hW => ⟨⟨1, (), rfl, Or.inr rfl, by rw [ht9]; exact hP9, va_K.moved hW.alike hK, hD9⟩, hS.F ht9⟩) hS.2.2 dX4_isBlank_29
    · skip
      refine lv_iload_n hx hb dX4_isBlank_12 rfl (lv_at hl 0 rfl) ?_
      refine lv_bipush (v := 13) hx hb dX4_isBlank_13 (by decide) ?_
      refine lv_icmp_eq (tgt := 24) hx hb dX4_isBlank_15 (by decide) (fun c_15 => ?_) (fun c_15 => ?_)
      · skip
        refine lv_iconst (v := 1) hx hb dX4_isBlank_24 (by decide) ?_
        refine lv_goto (tgt := 29) hx hb dX4_isBlank_25 (by decide) ?_
        have hP9 := hP.sub (ws' := []) [] rfl
        have hD9 := hD.sub (ws' := []) [] (by decide) rfl
        exact W.zret (v := 1) (ty := .boolean) hx hb hr rfl (fun t9 ht9 hW => ⟨⟨1, (), rfl, Or.inr rfl, by rw [ht9]; exact hP9, va_K.moved hW.alike hK, hD9⟩, hS.F ht9⟩) hS.2.2 dX4_isBlank_29
      · skip
        refine lv_iload_n hx hb dX4_isBlank_18 rfl (lv_at hl 0 rfl) ?_
        refine lv_bipush (v := 32) hx hb dX4_isBlank_19 (by decide) ?_
        refine lv_icmp_ne (tgt := 28) hx hb dX4_isBlank_21 (by decide) (fun c_21 => ?_) (fun c_21 => ?_)
        · skip
          refine lv_iconst (v := 0) hx hb dX4_isBlank_28 (by decide) ?_
          have hP9 := hP.sub (ws' := []) [] rfl
          have hD9 := hD.sub (ws' := []) [] (by decide) rfl
          exact W.zret (v := 0) (ty := .boolean) hx hb hr rfl (fun t9 ht9 hW => ⟨⟨0, (), rfl, Or.inl rfl, by rw [ht9]; exact hP9, va_K.moved hW.alike hK, hD9⟩, hS.F ht9⟩) hS.2.2 dX4_isBlank_29
        · skip
          refine lv_iconst (v := 1) hx hb dX4_isBlank_24 (by decide) ?_
          refine lv_goto (tgt := 29) hx hb dX4_isBlank_25 (by decide) ?_
          have hP9 := hP.sub (ws' := []) [] rfl
          have hD9 := hD.sub (ws' := []) [] (by decide) rfl
          exact W.zret (v := 1) (ty := .boolean) hx hb hr rfl (fun t9 ht9 hW => ⟨⟨1, (), rfl, Or.inr rfl, by rw [ht9]; exact hP9, va_K.moved hW.alike hK, hD9⟩, hS.F ht9⟩) hS.2.2 dX4_isBlank_29

set_option maxHeartbeats 4000000 in
set_option maxRecDepth 100000 in
/-- X4_isSign -/
theorem c_X4_isSign (l : Launch) (D : va_G) (cI : ClassId) (V : (Nat → Nat) × (Nat → Nat))  (sz : Nat) (p1 : Int32)  : Met l yX4_isSign (.code yX4_isSign cX4_isSign 1 (some .boolean) :: tbW) ({ frames := 0, cells := 0, slots := 0, locals := 0 }) (va_Pc [.int p1] (gP D cI V [] sz)) (va_Qi (fun (r : Int32) (u : Unit) => r = 0 ∨ r = 1) (fun u => gB D cI (va_A [] sz) []) (va_A [] sz)) 0 0 (va_A [] sz) := by
  refine Met.ofW (cc := cX4_isSign) (maxL := 1) (ret := (some .boolean)) (by decide) rfl ?_
  intro p e s m args below meth c s₁ B hml hv
  obtain ⟨rfl, hsz, hP, hK, hD0, hN, hV⟩ := hv
  have hx := B.exec
  have hb := B.bytes
  have hr := B.returns
  have hts := tb_hts (atoms_spec (ws := .code yX4_isSign cX4_isSign 1 (some .boolean) :: tbW) B.pre)
  have hown : s.vm.findClass RX4 = some m.cls := findClass_of_methodNamed B.named
  have hlocks := B.notSynchronized
  subst hsz
  have hD := hD0.self (sz := s.heap.size)
  generalize hAe : va_A [] s.heap.size = A at hD hV ⊢
  have hA : ∀ q : Nat, s.heap.size ≤ q → A q := fun q h => by rw [← hAe]; exact Or.inr h
  have hS : va_S A s.heap s.heap [] := va_S.rf
  have hP : va_P D classes [] s.heap := hP
  have hl := lv_entry ([.int p1]) (n := 1) (Nat.le_of_ble_eq_true rfl)
  rw [lg_entry_eq]
  generalize (lg_sl ([.int p1]) ++ List.replicate (1 - (lg_sl ([.int p1])).length) Slot.unset).toArray = ls at hl ⊢
  have hl : lv_has ls 1 [(0, .int p1)] := hl
  refine lv_iload_n hx hb dX4_isSign_0 rfl (lv_at hl 0 rfl) ?_
  refine lv_bipush (v := 9) hx hb dX4_isSign_1 (by decide) ?_
  refine lv_icmp_eq (tgt := 30) hx hb dX4_isSign_3 (by decide) (fun c_3 => ?_) (fun c_3 => ?_)
  · skip
    refine lv_iconst (v := 1) hx hb dX4_isSign_30 (by decide) ?_
    refine lv_goto (tgt := 35) hx hb dX4_isSign_31 (by decide) ?_
    have hP9 := hP.sub (ws' := []) [] rfl
    have hD9 := hD.sub (ws' := []) [] (by decide) rfl
    exact W.zret (v := 1) (ty := .boolean) hx hb hr rfl (fun t9 ht9 hW => ⟨⟨1, (), rfl, Or.inr rfl, by rw [ht9]; exact hP9, va_K.moved hW.alike hK, hD9⟩, hS.F ht9⟩) hS.2.2 dX4_isSign_35
  · skip
    refine lv_iload_n hx hb dX4_isSign_6 rfl (lv_at hl 0 rfl) ?_
    refine lv_bipush (v := 10) hx hb dX4_isSign_7 (by decide) ?_
    refine lv_icmp_eq (tgt := 30) hx hb dX4_isSign_9 (by decide) (fun c_9 => ?_) (fun c_9 => ?_)
    · skip
      refine lv_iconst (v := 1) hx hb dX4_isSign_30 (by decide) ?_
      refine lv_goto (tgt := 35) hx hb dX4_isSign_31 (by decide) ?_
      have hP9 := hP.sub (ws' := []) [] rfl
      have hD9 := hD.sub (ws' := []) [] (by decide) rfl
      exact W.zret (v := 1) (ty := .boolean) hx hb hr rfl (fun t9 ht9 hW => ⟨⟨1, (), rfl, Or.inr rfl, by rw [ht9]; exact hP9, va_K.moved hW.alike hK, hD9⟩, hS.F ht9⟩) hS.2.2 dX4_isSign_35
    · skip
      refine lv_iload_n hx hb dX4_isSign_12 rfl (lv_at hl 0 rfl) ?_
      refine lv_bipush (v := 13) hx hb dX4_isSign_13 (by decide) ?_
      refine lv_icmp_eq (tgt := 30) hx hb dX4_isSign_15 (by decide) (fun c_15 => ?_) (fun c_15 => ?_)
      · skip
        refine lv_iconst (v := 1) hx hb dX4_isSign_30 (by decide) ?_
        refine lv_goto (tgt := 35) hx hb dX4_isSign_31 (by decide) ?_
        have hP9 := hP.sub (ws' := []) [] rfl
        have hD9 := hD.sub (ws' := []) [] (by decide) rfl
        exact W.zret (v := 1) (ty := .boolean) hx hb hr rfl (fun t9 ht9 hW => ⟨⟨1, (), rfl, Or.inr rfl, by rw [ht9]; exact hP9, va_K.moved hW.alike hK, hD9⟩, hS.F ht9⟩) hS.2.2 dX4_isSign_35
      · skip
        refine lv_iload_n hx hb dX4_isSign_18 rfl (lv_at hl 0 rfl) ?_
        refine lv_bipush (v := 32) hx hb dX4_isSign_19 (by decide) ?_
        refine lv_icmp_lt (tgt := 34) hx hb dX4_isSign_21 (by decide) (fun c_21 => ?_) (fun c_21 => ?_)
        · skip
          refine lv_iconst (v := 0) hx hb dX4_isSign_34 (by decide) ?_
          have hP9 := hP.sub (ws' := []) [] rfl
          have hD9 := hD.sub (ws' := []) [] (by decide) rfl
          exact W.zret (v := 0) (ty := .boolean) hx hb hr rfl (fun t9 ht9 hW => ⟨⟨0, (), rfl, Or.inl rfl, by rw [ht9]; exact hP9, va_K.moved hW.alike hK, hD9⟩, hS.F ht9⟩) hS.2.2 dX4_isSign_35
        · skip
          refine lv_iload_n hx hb dX4_isSign_24 rfl (lv_at hl 0 rfl) ?_
          refine lv_bipush (v := 127) hx hb dX4_isSign_25 (by decide) ?_
          refine lv_icmp_ge (tgt := 34) hx hb dX4_isSign_27 (by decide) (fun c_27 => ?_) (fun c_27 => ?_)
          · skip
            refine lv_iconst (v := 0) hx hb dX4_isSign_34 (by decide) ?_
            have hP9 := hP.sub (ws' := []) [] rfl
            have hD9 := hD.sub (ws' := []) [] (by decide) rfl
            exact W.zret (v := 0) (ty := .boolean) hx hb hr rfl (fun t9 ht9 hW => ⟨⟨0, (), rfl, Or.inl rfl, by rw [ht9]; exact hP9, va_K.moved hW.alike hK, hD9⟩, hS.F ht9⟩) hS.2.2 dX4_isSign_35
          · skip
            refine lv_iconst (v := 1) hx hb dX4_isSign_30 (by decide) ?_
            refine lv_goto (tgt := 35) hx hb dX4_isSign_31 (by decide) ?_
            have hP9 := hP.sub (ws' := []) [] rfl
            have hD9 := hD.sub (ws' := []) [] (by decide) rfl
            exact W.zret (v := 1) (ty := .boolean) hx hb hr rfl (fun t9 ht9 hW => ⟨⟨1, (), rfl, Or.inr rfl, by rw [ht9]; exact hP9, va_K.moved hW.alike hK, hD9⟩, hS.F ht9⟩) hS.2.2 dX4_isSign_35

set_option maxHeartbeats 4000000 in
set_option maxRecDepth 100000 in
/-- X4_isBegin -/
theorem c_X4_isBegin (l : Launch) (D : va_G) (cI : ClassId) (V : (Nat → Nat) × (Nat → Nat))  (sz : Nat) (p1 : Int32)  : Met l yX4_isBegin (.code yX4_isBegin cX4_isBegin 1 (some .boolean) :: tbW) ({ frames := 0, cells := 0, slots := 0, locals := 0 }) (va_Pc [.int p1] (gP D cI V [] sz)) (va_Qi (fun (r : Int32) (u : Unit) => r = 0 ∨ r = 1) (fun u => gB D cI (va_A [] sz) []) (va_A [] sz)) 0 0 (va_A [] sz) := by
  refine Met.ofW (cc := cX4_isBegin) (maxL := 1) (ret := (some .boolean)) (by decide) rfl ?_
  intro p e s m args below meth c s₁ B hml hv
  obtain ⟨rfl, hsz, hP, hK, hD0, hN, hV⟩ := hv
  have hx := B.exec
  have hb := B.bytes
  have hr := B.returns
  have hts := tb_hts (atoms_spec (ws := .code yX4_isBegin cX4_isBegin 1 (some .boolean) :: tbW) B.pre)
  have hown : s.vm.findClass RX4 = some m.cls := findClass_of_methodNamed B.named
  have hlocks := B.notSynchronized
  subst hsz
  have hD := hD0.self (sz := s.heap.size)
  generalize hAe : va_A [] s.heap.size = A at hD hV ⊢
  have hA : ∀ q : Nat, s.heap.size ≤ q → A q := fun q h => by rw [← hAe]; exact Or.inr h
  have hS : va_S A s.heap s.heap [] := va_S.rf
  have hP : va_P D classes [] s.heap := hP
  have hl := lv_entry ([.int p1]) (n := 1) (Nat.le_of_ble_eq_true rfl)
  rw [lg_entry_eq]
  generalize (lg_sl ([.int p1]) ++ List.replicate (1 - (lg_sl ([.int p1])).length) Slot.unset).toArray = ls at hl ⊢
  have hl : lv_has ls 1 [(0, .int p1)] := hl
  refine lv_iload_n hx hb dX4_isBegin_0 rfl (lv_at hl 0 rfl) ?_
  refine lv_bipush (v := 65) hx hb dX4_isBegin_1 (by decide) ?_
  refine lv_icmp_lt (tgt := 12) hx hb dX4_isBegin_3 (by decide) (fun c_3 => ?_) (fun c_3 => ?_)
  · skip
    refine lv_iload_n hx hb dX4_isBegin_12 rfl (lv_at hl 0 rfl) ?_
    refine lv_bipush (v := 97) hx hb dX4_isBegin_13 (by decide) ?_
    refine lv_icmp_lt (tgt := 24) hx hb dX4_isBegin_15 (by decide) (fun c_15 => ?_) (fun c_15 => ?_)
    · skip
      refine lv_iload_n hx hb dX4_isBegin_24 rfl (lv_at hl 0 rfl) ?_
      refine lv_bipush (v := 95) hx hb dX4_isBegin_25 (by decide) ?_
      refine lv_icmp_eq (tgt := 36) hx hb dX4_isBegin_27 (by decide) (fun c_27 => ?_) (fun c_27 => ?_)
      · skip
        refine lv_iconst (v := 1) hx hb dX4_isBegin_36 (by decide) ?_
        refine lv_goto (tgt := 41) hx hb dX4_isBegin_37 (by decide) ?_
        have hP9 := hP.sub (ws' := []) [] rfl
        have hD9 := hD.sub (ws' := []) [] (by decide) rfl
        exact W.zret (v := 1) (ty := .boolean) hx hb hr rfl (fun t9 ht9 hW => ⟨⟨1, (), rfl, Or.inr rfl, by rw [ht9]; exact hP9, va_K.moved hW.alike hK, hD9⟩, hS.F ht9⟩) hS.2.2 dX4_isBegin_41
      · skip
        refine lv_iload_n hx hb dX4_isBegin_30 rfl (lv_at hl 0 rfl) ?_
        refine lv_bipush (v := 58) hx hb dX4_isBegin_31 (by decide) ?_
        refine lv_icmp_ne (tgt := 40) hx hb dX4_isBegin_33 (by decide) (fun c_33 => ?_) (fun c_33 => ?_)
        · skip
          refine lv_iconst (v := 0) hx hb dX4_isBegin_40 (by decide) ?_
          have hP9 := hP.sub (ws' := []) [] rfl
          have hD9 := hD.sub (ws' := []) [] (by decide) rfl
          exact W.zret (v := 0) (ty := .boolean) hx hb hr rfl (fun t9 ht9 hW => ⟨⟨0, (), rfl, Or.inl rfl, by rw [ht9]; exact hP9, va_K.moved hW.alike hK, hD9⟩, hS.F ht9⟩) hS.2.2 dX4_isBegin_41
        · skip
          refine lv_iconst (v := 1) hx hb dX4_isBegin_36 (by decide) ?_
          refine lv_goto (tgt := 41) hx hb dX4_isBegin_37 (by decide) ?_
          have hP9 := hP.sub (ws' := []) [] rfl
          have hD9 := hD.sub (ws' := []) [] (by decide) rfl
          exact W.zret (v := 1) (ty := .boolean) hx hb hr rfl (fun t9 ht9 hW => ⟨⟨1, (), rfl, Or.inr rfl, by rw [ht9]; exact hP9, va_K.moved hW.alike hK, hD9⟩, hS.F ht9⟩) hS.2.2 dX4_isBegin_41
    · skip
      refine lv_iload_n hx hb dX4_isBegin_18 rfl (lv_at hl 0 rfl) ?_
      refine lv_bipush (v := 122) hx hb dX4_isBegin_19 (by decide) ?_
      refine lv_icmp_le (tgt := 36) hx hb dX4_isBegin_21 (by decide) (fun c_21 => ?_) (fun c_21 => ?_)
      · skip
        refine lv_iconst (v := 1) hx hb dX4_isBegin_36 (by decide) ?_
        refine lv_goto (tgt := 41) hx hb dX4_isBegin_37 (by decide) ?_
        have hP9 := hP.sub (ws' := []) [] rfl
        have hD9 := hD.sub (ws' := []) [] (by decide) rfl
        exact W.zret (v := 1) (ty := .boolean) hx hb hr rfl (fun t9 ht9 hW => ⟨⟨1, (), rfl, Or.inr rfl, by rw [ht9]; exact hP9, va_K.moved hW.alike hK, hD9⟩, hS.F ht9⟩) hS.2.2 dX4_isBegin_41
      · skip
        refine lv_iload_n hx hb dX4_isBegin_24 rfl (lv_at hl 0 rfl) ?_
        refine lv_bipush (v := 95) hx hb dX4_isBegin_25 (by decide) ?_
        refine lv_icmp_eq (tgt := 36) hx hb dX4_isBegin_27 (by decide) (fun c_27 => ?_) (fun c_27 => ?_)
        · skip
          refine lv_iconst (v := 1) hx hb dX4_isBegin_36 (by decide) ?_
          refine lv_goto (tgt := 41) hx hb dX4_isBegin_37 (by decide) ?_
          have hP9 := hP.sub (ws' := []) [] rfl
          have hD9 := hD.sub (ws' := []) [] (by decide) rfl
          exact W.zret (v := 1) (ty := .boolean) hx hb hr rfl (fun t9 ht9 hW => ⟨⟨1, (), rfl, Or.inr rfl, by rw [ht9]; exact hP9, va_K.moved hW.alike hK, hD9⟩, hS.F ht9⟩) hS.2.2 dX4_isBegin_41
        · skip
          refine lv_iload_n hx hb dX4_isBegin_30 rfl (lv_at hl 0 rfl) ?_
          refine lv_bipush (v := 58) hx hb dX4_isBegin_31 (by decide) ?_
          refine lv_icmp_ne (tgt := 40) hx hb dX4_isBegin_33 (by decide) (fun c_33 => ?_) (fun c_33 => ?_)
          · skip
            refine lv_iconst (v := 0) hx hb dX4_isBegin_40 (by decide) ?_
            have hP9 := hP.sub (ws' := []) [] rfl
            have hD9 := hD.sub (ws' := []) [] (by decide) rfl
            exact W.zret (v := 0) (ty := .boolean) hx hb hr rfl (fun t9 ht9 hW => ⟨⟨0, (), rfl, Or.inl rfl, by rw [ht9]; exact hP9, va_K.moved hW.alike hK, hD9⟩, hS.F ht9⟩) hS.2.2 dX4_isBegin_41
          · skip
            refine lv_iconst (v := 1) hx hb dX4_isBegin_36 (by decide) ?_
            refine lv_goto (tgt := 41) hx hb dX4_isBegin_37 (by decide) ?_
            have hP9 := hP.sub (ws' := []) [] rfl
            have hD9 := hD.sub (ws' := []) [] (by decide) rfl
            exact W.zret (v := 1) (ty := .boolean) hx hb hr rfl (fun t9 ht9 hW => ⟨⟨1, (), rfl, Or.inr rfl, by rw [ht9]; exact hP9, va_K.moved hW.alike hK, hD9⟩, hS.F ht9⟩) hS.2.2 dX4_isBegin_41
  · skip
    refine lv_iload_n hx hb dX4_isBegin_6 rfl (lv_at hl 0 rfl) ?_
    refine lv_bipush (v := 90) hx hb dX4_isBegin_7 (by decide) ?_
    refine lv_icmp_le (tgt := 36) hx hb dX4_isBegin_9 (by decide) (fun c_9 => ?_) (fun c_9 => ?_)
    · skip
      refine lv_iconst (v := 1) hx hb dX4_isBegin_36 (by decide) ?_
      refine lv_goto (tgt := 41) hx hb dX4_isBegin_37 (by decide) ?_
      have hP9 := hP.sub (ws' := []) [] rfl
      have hD9 := hD.sub (ws' := []) [] (by decide) rfl
      exact W.zret (v := 1) (ty := .boolean) hx hb hr rfl (fun t9 ht9 hW => ⟨⟨1, (), rfl, Or.inr rfl, by rw [ht9]; exact hP9, va_K.moved hW.alike hK, hD9⟩, hS.F ht9⟩) hS.2.2 dX4_isBegin_41
    · skip
      refine lv_iload_n hx hb dX4_isBegin_12 rfl (lv_at hl 0 rfl) ?_
      refine lv_bipush (v := 97) hx hb dX4_isBegin_13 (by decide) ?_
      refine lv_icmp_lt (tgt := 24) hx hb dX4_isBegin_15 (by decide) (fun c_15 => ?_) (fun c_15 => ?_)
      · skip
        refine lv_iload_n hx hb dX4_isBegin_24 rfl (lv_at hl 0 rfl) ?_
        refine lv_bipush (v := 95) hx hb dX4_isBegin_25 (by decide) ?_
        refine lv_icmp_eq (tgt := 36) hx hb dX4_isBegin_27 (by decide) (fun c_27 => ?_) (fun c_27 => ?_)
        · skip
          refine lv_iconst (v := 1) hx hb dX4_isBegin_36 (by decide) ?_
          refine lv_goto (tgt := 41) hx hb dX4_isBegin_37 (by decide) ?_
          have hP9 := hP.sub (ws' := []) [] rfl
          have hD9 := hD.sub (ws' := []) [] (by decide) rfl
          exact W.zret (v := 1) (ty := .boolean) hx hb hr rfl (fun t9 ht9 hW => ⟨⟨1, (), rfl, Or.inr rfl, by rw [ht9]; exact hP9, va_K.moved hW.alike hK, hD9⟩, hS.F ht9⟩) hS.2.2 dX4_isBegin_41
        · skip
          refine lv_iload_n hx hb dX4_isBegin_30 rfl (lv_at hl 0 rfl) ?_
          refine lv_bipush (v := 58) hx hb dX4_isBegin_31 (by decide) ?_
          refine lv_icmp_ne (tgt := 40) hx hb dX4_isBegin_33 (by decide) (fun c_33 => ?_) (fun c_33 => ?_)
          · skip
            refine lv_iconst (v := 0) hx hb dX4_isBegin_40 (by decide) ?_
            have hP9 := hP.sub (ws' := []) [] rfl
            have hD9 := hD.sub (ws' := []) [] (by decide) rfl
            exact W.zret (v := 0) (ty := .boolean) hx hb hr rfl (fun t9 ht9 hW => ⟨⟨0, (), rfl, Or.inl rfl, by rw [ht9]; exact hP9, va_K.moved hW.alike hK, hD9⟩, hS.F ht9⟩) hS.2.2 dX4_isBegin_41
          · skip
            refine lv_iconst (v := 1) hx hb dX4_isBegin_36 (by decide) ?_
            refine lv_goto (tgt := 41) hx hb dX4_isBegin_37 (by decide) ?_
            have hP9 := hP.sub (ws' := []) [] rfl
            have hD9 := hD.sub (ws' := []) [] (by decide) rfl
            exact W.zret (v := 1) (ty := .boolean) hx hb hr rfl (fun t9 ht9 hW => ⟨⟨1, (), rfl, Or.inr rfl, by rw [ht9]; exact hP9, va_K.moved hW.alike hK, hD9⟩, hS.F ht9⟩) hS.2.2 dX4_isBegin_41
      · skip
        refine lv_iload_n hx hb dX4_isBegin_18 rfl (lv_at hl 0 rfl) ?_
        refine lv_bipush (v := 122) hx hb dX4_isBegin_19 (by decide) ?_
        refine lv_icmp_le (tgt := 36) hx hb dX4_isBegin_21 (by decide) (fun c_21 => ?_) (fun c_21 => ?_)
        · skip
          refine lv_iconst (v := 1) hx hb dX4_isBegin_36 (by decide) ?_
          refine lv_goto (tgt := 41) hx hb dX4_isBegin_37 (by decide) ?_
          have hP9 := hP.sub (ws' := []) [] rfl
          have hD9 := hD.sub (ws' := []) [] (by decide) rfl
          exact W.zret (v := 1) (ty := .boolean) hx hb hr rfl (fun t9 ht9 hW => ⟨⟨1, (), rfl, Or.inr rfl, by rw [ht9]; exact hP9, va_K.moved hW.alike hK, hD9⟩, hS.F ht9⟩) hS.2.2 dX4_isBegin_41
        · skip
          refine lv_iload_n hx hb dX4_isBegin_24 rfl (lv_at hl 0 rfl) ?_
          refine lv_bipush (v := 95) hx hb dX4_isBegin_25 (by decide) ?_
          refine lv_icmp_eq (tgt := 36) hx hb dX4_isBegin_27 (by decide) (fun c_27 => ?_) (fun c_27 => ?_)
          · skip
            refine lv_iconst (v := 1) hx hb dX4_isBegin_36 (by decide) ?_
            refine lv_goto (tgt := 41) hx hb dX4_isBegin_37 (by decide) ?_
            have hP9 := hP.sub (ws' := []) [] rfl
            have hD9 := hD.sub (ws' := []) [] (by decide) rfl
            exact W.zret (v := 1) (ty := .boolean) hx hb hr rfl (fun t9 ht9 hW => ⟨⟨1, (), rfl, Or.inr rfl, by rw [ht9]; exact hP9, va_K.moved hW.alike hK, hD9⟩, hS.F ht9⟩) hS.2.2 dX4_isBegin_41
          · skip
            refine lv_iload_n hx hb dX4_isBegin_30 rfl (lv_at hl 0 rfl) ?_
            refine lv_bipush (v := 58) hx hb dX4_isBegin_31 (by decide) ?_
            refine lv_icmp_ne (tgt := 40) hx hb dX4_isBegin_33 (by decide) (fun c_33 => ?_) (fun c_33 => ?_)
            · skip
              refine lv_iconst (v := 0) hx hb dX4_isBegin_40 (by decide) ?_
              have hP9 := hP.sub (ws' := []) [] rfl
              have hD9 := hD.sub (ws' := []) [] (by decide) rfl
              exact W.zret (v := 0) (ty := .boolean) hx hb hr rfl (fun t9 ht9 hW => ⟨⟨0, (), rfl, Or.inl rfl, by rw [ht9]; exact hP9, va_K.moved hW.alike hK, hD9⟩, hS.F ht9⟩) hS.2.2 dX4_isBegin_41
            · skip
              refine lv_iconst (v := 1) hx hb dX4_isBegin_36 (by decide) ?_
              refine lv_goto (tgt := 41) hx hb dX4_isBegin_37 (by decide) ?_
              have hP9 := hP.sub (ws' := []) [] rfl
              have hD9 := hD.sub (ws' := []) [] (by decide) rfl
              exact W.zret (v := 1) (ty := .boolean) hx hb hr rfl (fun t9 ht9 hW => ⟨⟨1, (), rfl, Or.inr rfl, by rw [ht9]; exact hP9, va_K.moved hW.alike hK, hD9⟩, hS.F ht9⟩) hS.2.2 dX4_isBegin_41

set_option maxHeartbeats 4000000 in
set_option maxRecDepth 100000 in
/-- X4_isPart -/
theorem c_X4_isPart (l : Launch) (D : va_G) (cI : ClassId) (V : (Nat → Nat) × (Nat → Nat))  (sz : Nat) (p1 : Int32)  : Met l yX4_isPart (.code yX4_isPart cX4_isPart 1 (some .boolean) :: tbW) ({ frames := 1, cells := 0, slots := 0, locals := 20 }) (va_Pc [.int p1] (gP D cI V [] sz)) (va_Qi (fun (r : Int32) (u : Unit) => r = 0 ∨ r = 1) (fun u => gB D cI (va_A [] sz) []) (va_A [] sz)) 0 0 (va_A [] sz) := by
  refine Met.ofW (cc := cX4_isPart) (maxL := 1) (ret := (some .boolean)) (by decide) rfl ?_
  intro p e s m args below meth c s₁ B hml hv
  obtain ⟨rfl, hsz, hP, hK, hD0, hN, hV⟩ := hv
  have hx := B.exec
  have hb := B.bytes
  have hr := B.returns
  have hts := tb_hts (atoms_spec (ws := .code yX4_isPart cX4_isPart 1 (some .boolean) :: tbW) B.pre)
  have hown : s.vm.findClass RX4 = some m.cls := findClass_of_methodNamed B.named
  have hlocks := B.notSynchronized
  subst hsz
  have hD := hD0.self (sz := s.heap.size)
  generalize hAe : va_A [] s.heap.size = A at hD hV ⊢
  have hA : ∀ q : Nat, s.heap.size ≤ q → A q := fun q h => by rw [← hAe]; exact Or.inr h
  have hS : va_S A s.heap s.heap [] := va_S.rf
  have hP : va_P D classes [] s.heap := hP
  have hl := lv_entry ([.int p1]) (n := 1) (Nat.le_of_ble_eq_true rfl)
  rw [lg_entry_eq]
  generalize (lg_sl ([.int p1]) ++ List.replicate (1 - (lg_sl ([.int p1])).length) Slot.unset).toArray = ls at hl ⊢
  have hl : lv_has ls 1 [(0, .int p1)] := hl
  refine lv_iload_n hx hb dX4_isPart_0 rfl (lv_at hl 0 rfl) ?_
  refine gcall_i (va_runS (As := [.int p1]) (rest := []) ⟨hx, hb, hml, hown, hts⟩ (c_X4_isBegin l D cI V  s.heap.size p1) (va_cwS 1 hts (tb_goodS kk_3_104 kk_3_105 kk_1_6 kk_3_106) rfl rfl rfl (hdS_X4_isBegin) ⟨Nat.le_of_ble_eq_true rfl, Nat.le_of_ble_eq_true rfl⟩) (gpreS hK hN hV hS hA hP hD [] rfl rfl (by decide)) rfl rfl hl.1 rfl (lv_room (Nat.le_of_ble_eq_true rfl)) dX4_isPart_1 ⟨Nat.le_of_ble_eq_true rfl, Nat.le_of_ble_eq_true rfl⟩) hP hD hS hA [] [] (wr := []) rfl rfl (by decide) (by decide) (fun r_1 u_2 H locs hw_1 hP hD hS => ?_)
  try dsimp only at hw_1
  have hP : va_P D classes [] H := hP
  have hD : va_D A [] := hD
  refine lv_if_ne (tgt := 31) hx hb dX4_isPart_4 (by decide) (fun c_4 => ?_) (fun c_4 => ?_)
  · skip
    refine lv_iconst (v := 1) hx hb dX4_isPart_31 (by decide) ?_
    refine lv_goto (tgt := 36) hx hb dX4_isPart_32 (by decide) ?_
    have hP9 := hP.sub (ws' := []) [] rfl
    have hD9 := hD.sub (ws' := []) [] (by decide) rfl
    exact W.zret (v := 1) (ty := .boolean) hx hb hr rfl (fun t9 ht9 hW => ⟨⟨1, (), rfl, Or.inr rfl, by rw [ht9]; exact hP9, va_K.moved hW.alike hK, hD9⟩, hS.F ht9⟩) hS.2.2 dX4_isPart_36
  · skip
    refine lv_iload_n hx hb dX4_isPart_7 rfl (lv_at hl 0 rfl) ?_
    refine lv_bipush (v := 48) hx hb dX4_isPart_8 (by decide) ?_
    refine lv_icmp_lt (tgt := 19) hx hb dX4_isPart_10 (by decide) (fun c_10 => ?_) (fun c_10 => ?_)
    · skip
      refine lv_iload_n hx hb dX4_isPart_19 rfl (lv_at hl 0 rfl) ?_
      refine lv_bipush (v := 45) hx hb dX4_isPart_20 (by decide) ?_
      refine lv_icmp_eq (tgt := 31) hx hb dX4_isPart_22 (by decide) (fun c_22 => ?_) (fun c_22 => ?_)
      · skip
        refine lv_iconst (v := 1) hx hb dX4_isPart_31 (by decide) ?_
        refine lv_goto (tgt := 36) hx hb dX4_isPart_32 (by decide) ?_
        have hP9 := hP.sub (ws' := []) [] rfl
        have hD9 := hD.sub (ws' := []) [] (by decide) rfl
        exact W.zret (v := 1) (ty := .boolean) hx hb hr rfl (fun t9 ht9 hW => ⟨⟨1, (), rfl, Or.inr rfl, by rw [ht9]; exact hP9, va_K.moved hW.alike hK, hD9⟩, hS.F ht9⟩) hS.2.2 dX4_isPart_36
      · skip
        refine lv_iload_n hx hb dX4_isPart_25 rfl (lv_at hl 0 rfl) ?_
        refine lv_bipush (v := 46) hx hb dX4_isPart_26 (by decide) ?_
        refine lv_icmp_ne (tgt := 35) hx hb dX4_isPart_28 (by decide) (fun c_28 => ?_) (fun c_28 => ?_)
        · skip
          refine lv_iconst (v := 0) hx hb dX4_isPart_35 (by decide) ?_
          have hP9 := hP.sub (ws' := []) [] rfl
          have hD9 := hD.sub (ws' := []) [] (by decide) rfl
          exact W.zret (v := 0) (ty := .boolean) hx hb hr rfl (fun t9 ht9 hW => ⟨⟨0, (), rfl, Or.inl rfl, by rw [ht9]; exact hP9, va_K.moved hW.alike hK, hD9⟩, hS.F ht9⟩) hS.2.2 dX4_isPart_36
        · skip
          refine lv_iconst (v := 1) hx hb dX4_isPart_31 (by decide) ?_
          refine lv_goto (tgt := 36) hx hb dX4_isPart_32 (by decide) ?_
          have hP9 := hP.sub (ws' := []) [] rfl
          have hD9 := hD.sub (ws' := []) [] (by decide) rfl
          exact W.zret (v := 1) (ty := .boolean) hx hb hr rfl (fun t9 ht9 hW => ⟨⟨1, (), rfl, Or.inr rfl, by rw [ht9]; exact hP9, va_K.moved hW.alike hK, hD9⟩, hS.F ht9⟩) hS.2.2 dX4_isPart_36
    · skip
      refine lv_iload_n hx hb dX4_isPart_13 rfl (lv_at hl 0 rfl) ?_
      refine lv_bipush (v := 57) hx hb dX4_isPart_14 (by decide) ?_
      refine lv_icmp_le (tgt := 31) hx hb dX4_isPart_16 (by decide) (fun c_16 => ?_) (fun c_16 => ?_)
      · skip
        refine lv_iconst (v := 1) hx hb dX4_isPart_31 (by decide) ?_
        refine lv_goto (tgt := 36) hx hb dX4_isPart_32 (by decide) ?_
        have hP9 := hP.sub (ws' := []) [] rfl
        have hD9 := hD.sub (ws' := []) [] (by decide) rfl
        exact W.zret (v := 1) (ty := .boolean) hx hb hr rfl (fun t9 ht9 hW => ⟨⟨1, (), rfl, Or.inr rfl, by rw [ht9]; exact hP9, va_K.moved hW.alike hK, hD9⟩, hS.F ht9⟩) hS.2.2 dX4_isPart_36
      · skip
        refine lv_iload_n hx hb dX4_isPart_19 rfl (lv_at hl 0 rfl) ?_
        refine lv_bipush (v := 45) hx hb dX4_isPart_20 (by decide) ?_
        refine lv_icmp_eq (tgt := 31) hx hb dX4_isPart_22 (by decide) (fun c_22 => ?_) (fun c_22 => ?_)
        · skip
          refine lv_iconst (v := 1) hx hb dX4_isPart_31 (by decide) ?_
          refine lv_goto (tgt := 36) hx hb dX4_isPart_32 (by decide) ?_
          have hP9 := hP.sub (ws' := []) [] rfl
          have hD9 := hD.sub (ws' := []) [] (by decide) rfl
          exact W.zret (v := 1) (ty := .boolean) hx hb hr rfl (fun t9 ht9 hW => ⟨⟨1, (), rfl, Or.inr rfl, by rw [ht9]; exact hP9, va_K.moved hW.alike hK, hD9⟩, hS.F ht9⟩) hS.2.2 dX4_isPart_36
        · skip
          refine lv_iload_n hx hb dX4_isPart_25 rfl (lv_at hl 0 rfl) ?_
          refine lv_bipush (v := 46) hx hb dX4_isPart_26 (by decide) ?_
          refine lv_icmp_ne (tgt := 35) hx hb dX4_isPart_28 (by decide) (fun c_28 => ?_) (fun c_28 => ?_)
          · skip
            refine lv_iconst (v := 0) hx hb dX4_isPart_35 (by decide) ?_
            have hP9 := hP.sub (ws' := []) [] rfl
            have hD9 := hD.sub (ws' := []) [] (by decide) rfl
            exact W.zret (v := 0) (ty := .boolean) hx hb hr rfl (fun t9 ht9 hW => ⟨⟨0, (), rfl, Or.inl rfl, by rw [ht9]; exact hP9, va_K.moved hW.alike hK, hD9⟩, hS.F ht9⟩) hS.2.2 dX4_isPart_36
          · skip
            refine lv_iconst (v := 1) hx hb dX4_isPart_31 (by decide) ?_
            refine lv_goto (tgt := 36) hx hb dX4_isPart_32 (by decide) ?_
            have hP9 := hP.sub (ws' := []) [] rfl
            have hD9 := hD.sub (ws' := []) [] (by decide) rfl
            exact W.zret (v := 1) (ty := .boolean) hx hb hr rfl (fun t9 ht9 hW => ⟨⟨1, (), rfl, Or.inr rfl, by rw [ht9]; exact hP9, va_K.moved hW.alike hK, hD9⟩, hS.F ht9⟩) hS.2.2 dX4_isPart_36

set_option maxHeartbeats 4000000 in
set_option maxRecDepth 100000 in
/-- X4_isHex -/
theorem c_X4_isHex (l : Launch) (D : va_G) (cI : ClassId) (V : (Nat → Nat) × (Nat → Nat))  (sz : Nat) (p1 : Int32)  : Met l yX4_isHex (.code yX4_isHex cX4_isHex 1 (some .boolean) :: tbW) ({ frames := 0, cells := 0, slots := 0, locals := 0 }) (va_Pc [.int p1] (gP D cI V [] sz)) (va_Qi (fun (r : Int32) (u : Unit) => r = 0 ∨ r = 1) (fun u => gB D cI (va_A [] sz) []) (va_A [] sz)) 0 0 (va_A [] sz) := by
  refine Met.ofW (cc := cX4_isHex) (maxL := 1) (ret := (some .boolean)) (by decide) rfl ?_
  intro p e s m args below meth c s₁ B hml hv
  obtain ⟨rfl, hsz, hP, hK, hD0, hN, hV⟩ := hv
  have hx := B.exec
  have hb := B.bytes
  have hr := B.returns
  have hts := tb_hts (atoms_spec (ws := .code yX4_isHex cX4_isHex 1 (some .boolean) :: tbW) B.pre)
  have hown : s.vm.findClass RX4 = some m.cls := findClass_of_methodNamed B.named
  have hlocks := B.notSynchronized
  subst hsz
  have hD := hD0.self (sz := s.heap.size)
  generalize hAe : va_A [] s.heap.size = A at hD hV ⊢
  have hA : ∀ q : Nat, s.heap.size ≤ q → A q := fun q h => by rw [← hAe]; exact Or.inr h
  have hS : va_S A s.heap s.heap [] := va_S.rf
  have hP : va_P D classes [] s.heap := hP
  have hl := lv_entry ([.int p1]) (n := 1) (Nat.le_of_ble_eq_true rfl)
  rw [lg_entry_eq]
  generalize (lg_sl ([.int p1]) ++ List.replicate (1 - (lg_sl ([.int p1])).length) Slot.unset).toArray = ls at hl ⊢
  have hl : lv_has ls 1 [(0, .int p1)] := hl
  refine lv_iload_n hx hb dX4_isHex_0 rfl (lv_at hl 0 rfl) ?_
  refine lv_bipush (v := 48) hx hb dX4_isHex_1 (by decide) ?_
  refine lv_icmp_lt (tgt := 12) hx hb dX4_isHex_3 (by decide) (fun c_3 => ?_) (fun c_3 => ?_)
  · skip
    refine lv_iload_n hx hb dX4_isHex_12 rfl (lv_at hl 0 rfl) ?_
    refine lv_bipush (v := 97) hx hb dX4_isHex_13 (by decide) ?_
    refine lv_icmp_lt (tgt := 24) hx hb dX4_isHex_15 (by decide) (fun c_15 => ?_) (fun c_15 => ?_)
    · skip
      refine lv_iload_n hx hb dX4_isHex_24 rfl (lv_at hl 0 rfl) ?_
      refine lv_bipush (v := 65) hx hb dX4_isHex_25 (by decide) ?_
      refine lv_icmp_lt (tgt := 40) hx hb dX4_isHex_27 (by decide) (fun c_27 => ?_) (fun c_27 => ?_)
      · skip
        refine lv_iconst (v := 0) hx hb dX4_isHex_40 (by decide) ?_
        have hP9 := hP.sub (ws' := []) [] rfl
        have hD9 := hD.sub (ws' := []) [] (by decide) rfl
        exact W.zret (v := 0) (ty := .boolean) hx hb hr rfl (fun t9 ht9 hW => ⟨⟨0, (), rfl, Or.inl rfl, by rw [ht9]; exact hP9, va_K.moved hW.alike hK, hD9⟩, hS.F ht9⟩) hS.2.2 dX4_isHex_41
      · skip
        refine lv_iload_n hx hb dX4_isHex_30 rfl (lv_at hl 0 rfl) ?_
        refine lv_bipush (v := 70) hx hb dX4_isHex_31 (by decide) ?_
        refine lv_icmp_gt (tgt := 40) hx hb dX4_isHex_33 (by decide) (fun c_33 => ?_) (fun c_33 => ?_)
        · skip
          refine lv_iconst (v := 0) hx hb dX4_isHex_40 (by decide) ?_
          have hP9 := hP.sub (ws' := []) [] rfl
          have hD9 := hD.sub (ws' := []) [] (by decide) rfl
          exact W.zret (v := 0) (ty := .boolean) hx hb hr rfl (fun t9 ht9 hW => ⟨⟨0, (), rfl, Or.inl rfl, by rw [ht9]; exact hP9, va_K.moved hW.alike hK, hD9⟩, hS.F ht9⟩) hS.2.2 dX4_isHex_41
        · skip
          refine lv_iconst (v := 1) hx hb dX4_isHex_36 (by decide) ?_
          refine lv_goto (tgt := 41) hx hb dX4_isHex_37 (by decide) ?_
          have hP9 := hP.sub (ws' := []) [] rfl
          have hD9 := hD.sub (ws' := []) [] (by decide) rfl
          exact W.zret (v := 1) (ty := .boolean) hx hb hr rfl (fun t9 ht9 hW => ⟨⟨1, (), rfl, Or.inr rfl, by rw [ht9]; exact hP9, va_K.moved hW.alike hK, hD9⟩, hS.F ht9⟩) hS.2.2 dX4_isHex_41
    · skip
      refine lv_iload_n hx hb dX4_isHex_18 rfl (lv_at hl 0 rfl) ?_
      refine lv_bipush (v := 102) hx hb dX4_isHex_19 (by decide) ?_
      refine lv_icmp_le (tgt := 36) hx hb dX4_isHex_21 (by decide) (fun c_21 => ?_) (fun c_21 => ?_)
      · skip
        refine lv_iconst (v := 1) hx hb dX4_isHex_36 (by decide) ?_
        refine lv_goto (tgt := 41) hx hb dX4_isHex_37 (by decide) ?_
        have hP9 := hP.sub (ws' := []) [] rfl
        have hD9 := hD.sub (ws' := []) [] (by decide) rfl
        exact W.zret (v := 1) (ty := .boolean) hx hb hr rfl (fun t9 ht9 hW => ⟨⟨1, (), rfl, Or.inr rfl, by rw [ht9]; exact hP9, va_K.moved hW.alike hK, hD9⟩, hS.F ht9⟩) hS.2.2 dX4_isHex_41
      · skip
        refine lv_iload_n hx hb dX4_isHex_24 rfl (lv_at hl 0 rfl) ?_
        refine lv_bipush (v := 65) hx hb dX4_isHex_25 (by decide) ?_
        refine lv_icmp_lt (tgt := 40) hx hb dX4_isHex_27 (by decide) (fun c_27 => ?_) (fun c_27 => ?_)
        · skip
          refine lv_iconst (v := 0) hx hb dX4_isHex_40 (by decide) ?_
          have hP9 := hP.sub (ws' := []) [] rfl
          have hD9 := hD.sub (ws' := []) [] (by decide) rfl
          exact W.zret (v := 0) (ty := .boolean) hx hb hr rfl (fun t9 ht9 hW => ⟨⟨0, (), rfl, Or.inl rfl, by rw [ht9]; exact hP9, va_K.moved hW.alike hK, hD9⟩, hS.F ht9⟩) hS.2.2 dX4_isHex_41
        · skip
          refine lv_iload_n hx hb dX4_isHex_30 rfl (lv_at hl 0 rfl) ?_
          refine lv_bipush (v := 70) hx hb dX4_isHex_31 (by decide) ?_
          refine lv_icmp_gt (tgt := 40) hx hb dX4_isHex_33 (by decide) (fun c_33 => ?_) (fun c_33 => ?_)
          · skip
            refine lv_iconst (v := 0) hx hb dX4_isHex_40 (by decide) ?_
            have hP9 := hP.sub (ws' := []) [] rfl
            have hD9 := hD.sub (ws' := []) [] (by decide) rfl
            exact W.zret (v := 0) (ty := .boolean) hx hb hr rfl (fun t9 ht9 hW => ⟨⟨0, (), rfl, Or.inl rfl, by rw [ht9]; exact hP9, va_K.moved hW.alike hK, hD9⟩, hS.F ht9⟩) hS.2.2 dX4_isHex_41
          · skip
            refine lv_iconst (v := 1) hx hb dX4_isHex_36 (by decide) ?_
            refine lv_goto (tgt := 41) hx hb dX4_isHex_37 (by decide) ?_
            have hP9 := hP.sub (ws' := []) [] rfl
            have hD9 := hD.sub (ws' := []) [] (by decide) rfl
            exact W.zret (v := 1) (ty := .boolean) hx hb hr rfl (fun t9 ht9 hW => ⟨⟨1, (), rfl, Or.inr rfl, by rw [ht9]; exact hP9, va_K.moved hW.alike hK, hD9⟩, hS.F ht9⟩) hS.2.2 dX4_isHex_41
  · skip
    refine lv_iload_n hx hb dX4_isHex_6 rfl (lv_at hl 0 rfl) ?_
    refine lv_bipush (v := 57) hx hb dX4_isHex_7 (by decide) ?_
    refine lv_icmp_le (tgt := 36) hx hb dX4_isHex_9 (by decide) (fun c_9 => ?_) (fun c_9 => ?_)
    · skip
      refine lv_iconst (v := 1) hx hb dX4_isHex_36 (by decide) ?_
      refine lv_goto (tgt := 41) hx hb dX4_isHex_37 (by decide) ?_
      have hP9 := hP.sub (ws' := []) [] rfl
      have hD9 := hD.sub (ws' := []) [] (by decide) rfl
      exact W.zret (v := 1) (ty := .boolean) hx hb hr rfl (fun t9 ht9 hW => ⟨⟨1, (), rfl, Or.inr rfl, by rw [ht9]; exact hP9, va_K.moved hW.alike hK, hD9⟩, hS.F ht9⟩) hS.2.2 dX4_isHex_41
    · skip
      refine lv_iload_n hx hb dX4_isHex_12 rfl (lv_at hl 0 rfl) ?_
      refine lv_bipush (v := 97) hx hb dX4_isHex_13 (by decide) ?_
      refine lv_icmp_lt (tgt := 24) hx hb dX4_isHex_15 (by decide) (fun c_15 => ?_) (fun c_15 => ?_)
      · skip
        refine lv_iload_n hx hb dX4_isHex_24 rfl (lv_at hl 0 rfl) ?_
        refine lv_bipush (v := 65) hx hb dX4_isHex_25 (by decide) ?_
        refine lv_icmp_lt (tgt := 40) hx hb dX4_isHex_27 (by decide) (fun c_27 => ?_) (fun c_27 => ?_)
        · skip
          refine lv_iconst (v := 0) hx hb dX4_isHex_40 (by decide) ?_
          have hP9 := hP.sub (ws' := []) [] rfl
          have hD9 := hD.sub (ws' := []) [] (by decide) rfl
          exact W.zret (v := 0) (ty := .boolean) hx hb hr rfl (fun t9 ht9 hW => ⟨⟨0, (), rfl, Or.inl rfl, by rw [ht9]; exact hP9, va_K.moved hW.alike hK, hD9⟩, hS.F ht9⟩) hS.2.2 dX4_isHex_41
        · skip
          refine lv_iload_n hx hb dX4_isHex_30 rfl (lv_at hl 0 rfl) ?_
          refine lv_bipush (v := 70) hx hb dX4_isHex_31 (by decide) ?_
          refine lv_icmp_gt (tgt := 40) hx hb dX4_isHex_33 (by decide) (fun c_33 => ?_) (fun c_33 => ?_)
          · skip
            refine lv_iconst (v := 0) hx hb dX4_isHex_40 (by decide) ?_
            have hP9 := hP.sub (ws' := []) [] rfl
            have hD9 := hD.sub (ws' := []) [] (by decide) rfl
            exact W.zret (v := 0) (ty := .boolean) hx hb hr rfl (fun t9 ht9 hW => ⟨⟨0, (), rfl, Or.inl rfl, by rw [ht9]; exact hP9, va_K.moved hW.alike hK, hD9⟩, hS.F ht9⟩) hS.2.2 dX4_isHex_41
          · skip
            refine lv_iconst (v := 1) hx hb dX4_isHex_36 (by decide) ?_
            refine lv_goto (tgt := 41) hx hb dX4_isHex_37 (by decide) ?_
            have hP9 := hP.sub (ws' := []) [] rfl
            have hD9 := hD.sub (ws' := []) [] (by decide) rfl
            exact W.zret (v := 1) (ty := .boolean) hx hb hr rfl (fun t9 ht9 hW => ⟨⟨1, (), rfl, Or.inr rfl, by rw [ht9]; exact hP9, va_K.moved hW.alike hK, hD9⟩, hS.F ht9⟩) hS.2.2 dX4_isHex_41
      · skip
        refine lv_iload_n hx hb dX4_isHex_18 rfl (lv_at hl 0 rfl) ?_
        refine lv_bipush (v := 102) hx hb dX4_isHex_19 (by decide) ?_
        refine lv_icmp_le (tgt := 36) hx hb dX4_isHex_21 (by decide) (fun c_21 => ?_) (fun c_21 => ?_)
        · skip
          refine lv_iconst (v := 1) hx hb dX4_isHex_36 (by decide) ?_
          refine lv_goto (tgt := 41) hx hb dX4_isHex_37 (by decide) ?_
          have hP9 := hP.sub (ws' := []) [] rfl
          have hD9 := hD.sub (ws' := []) [] (by decide) rfl
          exact W.zret (v := 1) (ty := .boolean) hx hb hr rfl (fun t9 ht9 hW => ⟨⟨1, (), rfl, Or.inr rfl, by rw [ht9]; exact hP9, va_K.moved hW.alike hK, hD9⟩, hS.F ht9⟩) hS.2.2 dX4_isHex_41
        · skip
          refine lv_iload_n hx hb dX4_isHex_24 rfl (lv_at hl 0 rfl) ?_
          refine lv_bipush (v := 65) hx hb dX4_isHex_25 (by decide) ?_
          refine lv_icmp_lt (tgt := 40) hx hb dX4_isHex_27 (by decide) (fun c_27 => ?_) (fun c_27 => ?_)
          · skip
            refine lv_iconst (v := 0) hx hb dX4_isHex_40 (by decide) ?_
            have hP9 := hP.sub (ws' := []) [] rfl
            have hD9 := hD.sub (ws' := []) [] (by decide) rfl
            exact W.zret (v := 0) (ty := .boolean) hx hb hr rfl (fun t9 ht9 hW => ⟨⟨0, (), rfl, Or.inl rfl, by rw [ht9]; exact hP9, va_K.moved hW.alike hK, hD9⟩, hS.F ht9⟩) hS.2.2 dX4_isHex_41
          · skip
            refine lv_iload_n hx hb dX4_isHex_30 rfl (lv_at hl 0 rfl) ?_
            refine lv_bipush (v := 70) hx hb dX4_isHex_31 (by decide) ?_
            refine lv_icmp_gt (tgt := 40) hx hb dX4_isHex_33 (by decide) (fun c_33 => ?_) (fun c_33 => ?_)
            · skip
              refine lv_iconst (v := 0) hx hb dX4_isHex_40 (by decide) ?_
              have hP9 := hP.sub (ws' := []) [] rfl
              have hD9 := hD.sub (ws' := []) [] (by decide) rfl
              exact W.zret (v := 0) (ty := .boolean) hx hb hr rfl (fun t9 ht9 hW => ⟨⟨0, (), rfl, Or.inl rfl, by rw [ht9]; exact hP9, va_K.moved hW.alike hK, hD9⟩, hS.F ht9⟩) hS.2.2 dX4_isHex_41
            · skip
              refine lv_iconst (v := 1) hx hb dX4_isHex_36 (by decide) ?_
              refine lv_goto (tgt := 41) hx hb dX4_isHex_37 (by decide) ?_
              have hP9 := hP.sub (ws' := []) [] rfl
              have hD9 := hD.sub (ws' := []) [] (by decide) rfl
              exact W.zret (v := 1) (ty := .boolean) hx hb hr rfl (fun t9 ht9 hW => ⟨⟨1, (), rfl, Or.inr rfl, by rw [ht9]; exact hP9, va_K.moved hW.alike hK, hD9⟩, hS.F ht9⟩) hS.2.2 dX4_isHex_41

set_option maxHeartbeats 4000000 in
set_option maxRecDepth 100000 in
/-- X4_go -/
theorem c_X4_go (l : Launch) (D : va_G) (cI : ClassId) (V : (Nat → Nat) × (Nat → Nat)) (mh : Nat) (m_te : Nat) (m_size : Int32) (m_re : Nat) (m_len : Int32) (m_kn : Nat) (m_bg : Nat) (m_en : Nat) (m_dp : Nat) (m_nm : Nat) (m_sz : Nat) (m_aa : Nat) (m_asz : Nat) (m_elements : Int32) (m_most : Int32) (m_values : Int32) (m_place : Int32) (m_phase : Int32) (m_state : Int32) (m_begin : Int32) (m_name : Int32) (m_refr : Int32) (m_tag : Int32) (m_tagsz : Int32) (m_quote : Int32) (m_chars : Int32) (m_brackets : Int32) (m_matched : Int32) (m_number : Int64) (m_fault : Int32) (np : Nat) (no : Nat) (na : Nat) (t : Nat) (sz : Nat) (p1 : Int32)  : Met l yX4_go (.code yX4_go cX4_go 2 (some .int) :: tbW) ({ frames := 0, cells := 0, slots := 0, locals := 0 }) (va_Pc [.ref mh, .int p1] (gP D cI V [(mh, .inr (4, [.ref m_te, .int m_size, .ref m_re, .int m_len, .int (nI np), .ref m_kn, .ref m_bg, .ref m_en, .ref m_dp, .int (nI no), .ref m_nm, .ref m_sz, .int (nI na), .ref m_aa, .ref m_asz, .int m_elements, .int m_most, .int m_values, .int m_place, .int m_phase, .int m_state, .int (nI t), .int m_begin, .int m_name, .int m_refr, .int m_tag, .int m_tagsz, .int m_quote, .int m_chars, .int m_brackets, .int m_matched, .long m_number, .int m_fault]))] sz)) (va_Qi (fun (r : Int32) (u : Unit) => r = 0) (fun u => gB D cI (va_A [(mh, .inr (4, [.ref m_te, .int m_size, .ref m_re, .int m_len, .int (nI np), .ref m_kn, .ref m_bg, .ref m_en, .ref m_dp, .int (nI no), .ref m_nm, .ref m_sz, .int (nI na), .ref m_aa, .ref m_asz, .int m_elements, .int m_most, .int m_values, .int m_place, .int m_phase, .int m_state, .int (nI t), .int m_begin, .int m_name, .int m_refr, .int m_tag, .int m_tagsz, .int m_quote, .int m_chars, .int m_brackets, .int m_matched, .long m_number, .int m_fault]))] sz) [(mh, .inr (4, [.ref m_te, .int m_size, .ref m_re, .int m_len, .int (nI np), .ref m_kn, .ref m_bg, .ref m_en, .ref m_dp, .int (nI no), .ref m_nm, .ref m_sz, .int (nI na), .ref m_aa, .ref m_asz, .int m_elements, .int m_most, .int m_values, .int m_place, .int m_phase, .int p1, .int (nI t), .int m_begin, .int m_name, .int m_refr, .int m_tag, .int m_tagsz, .int m_quote, .int m_chars, .int m_brackets, .int m_matched, .long m_number, .int m_fault]))]) (va_A [(mh, .inr (4, [.ref m_te, .int m_size, .ref m_re, .int m_len, .int (nI np), .ref m_kn, .ref m_bg, .ref m_en, .ref m_dp, .int (nI no), .ref m_nm, .ref m_sz, .int (nI na), .ref m_aa, .ref m_asz, .int m_elements, .int m_most, .int m_values, .int m_place, .int m_phase, .int m_state, .int (nI t), .int m_begin, .int m_name, .int m_refr, .int m_tag, .int m_tagsz, .int m_quote, .int m_chars, .int m_brackets, .int m_matched, .long m_number, .int m_fault]))] sz)) 0 0 (va_A [(mh, .inr (4, [.ref m_te, .int m_size, .ref m_re, .int m_len, .int (nI np), .ref m_kn, .ref m_bg, .ref m_en, .ref m_dp, .int (nI no), .ref m_nm, .ref m_sz, .int (nI na), .ref m_aa, .ref m_asz, .int m_elements, .int m_most, .int m_values, .int m_place, .int m_phase, .int m_state, .int (nI t), .int m_begin, .int m_name, .int m_refr, .int m_tag, .int m_tagsz, .int m_quote, .int m_chars, .int m_brackets, .int m_matched, .long m_number, .int m_fault]))] sz) := by
  refine Met.ofW (cc := cX4_go) (maxL := 2) (ret := (some .int)) (by decide) rfl ?_
  intro p e s m args below meth c s₁ B hml hv
  obtain ⟨rfl, hsz, hP, hK, hD0, hN, hV⟩ := hv
  have hx := B.exec
  have hb := B.bytes
  have hr := B.returns
  have hts := tb_hts (atoms_spec (ws := .code yX4_go cX4_go 2 (some .int) :: tbW) B.pre)
  have hown : s.vm.findClass RX4 = some m.cls := findClass_of_methodNamed B.named
  have hlocks := B.notSynchronized
  subst hsz
  have hD := hD0.self (sz := s.heap.size)
  generalize hAe : va_A [(mh, .inr (4, [.ref m_te, .int m_size, .ref m_re, .int m_len, .int (nI np), .ref m_kn, .ref m_bg, .ref m_en, .ref m_dp, .int (nI no), .ref m_nm, .ref m_sz, .int (nI na), .ref m_aa, .ref m_asz, .int m_elements, .int m_most, .int m_values, .int m_place, .int m_phase, .int m_state, .int (nI t), .int m_begin, .int m_name, .int m_refr, .int m_tag, .int m_tagsz, .int m_quote, .int m_chars, .int m_brackets, .int m_matched, .long m_number, .int m_fault]))] s.heap.size = A at hD hV ⊢
  have hA : ∀ q : Nat, s.heap.size ≤ q → A q := fun q h => by rw [← hAe]; exact Or.inr h
  have hS : va_S A s.heap s.heap [] := va_S.rf
  have hP : va_P D classes [(mh, .inr (4, [.ref m_te, .int m_size, .ref m_re, .int m_len, .int (nI np), .ref m_kn, .ref m_bg, .ref m_en, .ref m_dp, .int (nI no), .ref m_nm, .ref m_sz, .int (nI na), .ref m_aa, .ref m_asz, .int m_elements, .int m_most, .int m_values, .int m_place, .int m_phase, .int m_state, .int (nI t), .int m_begin, .int m_name, .int m_refr, .int m_tag, .int m_tagsz, .int m_quote, .int m_chars, .int m_brackets, .int m_matched, .long m_number, .int m_fault]))] s.heap := hP
  have hl := lv_entry ([.ref mh, .int p1]) (n := 2) (Nat.le_of_ble_eq_true rfl)
  rw [lg_entry_eq]
  generalize (lg_sl ([.ref mh, .int p1]) ++ List.replicate (2 - (lg_sl ([.ref mh, .int p1])).length) Slot.unset).toArray = ls at hl ⊢
  have hl : lv_has ls 2 [(0, .ref mh), (1, .int p1)] := hl
  refine lv_aload_n hx hb dX4_go_0 rfl (lv_at hl 0 rfl) ?_
  refine lv_iload_n hx hb dX4_go_1 rfl (lv_at hl 1 rfl) ?_
  refine va_put (D := D) (ci := 4) (v := .int p1) (ty := .int) (C := RX4) (T := TX4) (N := 33) hx hb hts inX4 tyX4 tyX4_ok nmX4 hown hK hP hD hS 0 rfl rfl 20 (by decide) (hts (Cond.fieldLink "NestedTagsModel" 56 "NestedTagsModel" "state" "I") kk_2_232) (fun _ h9 => h9) rfl (tyX4_ok 20 (by decide)) rfl rfl (Nat.le_of_ble_eq_true rfl) dX4_go_2 (fun H locs hP hD hS => ?_)
  have hP : va_P D classes [(mh, .inr (4, [.ref m_te, .int m_size, .ref m_re, .int m_len, .int (nI np), .ref m_kn, .ref m_bg, .ref m_en, .ref m_dp, .int (nI no), .ref m_nm, .ref m_sz, .int (nI na), .ref m_aa, .ref m_asz, .int m_elements, .int m_most, .int m_values, .int m_place, .int m_phase, .int p1, .int (nI t), .int m_begin, .int m_name, .int m_refr, .int m_tag, .int m_tagsz, .int m_quote, .int m_chars, .int m_brackets, .int m_matched, .long m_number, .int m_fault]))] H := hP
  have hD : va_D A [(mh, .inr (4, [.ref m_te, .int m_size, .ref m_re, .int m_len, .int (nI np), .ref m_kn, .ref m_bg, .ref m_en, .ref m_dp, .int (nI no), .ref m_nm, .ref m_sz, .int (nI na), .ref m_aa, .ref m_asz, .int m_elements, .int m_most, .int m_values, .int m_place, .int m_phase, .int p1, .int (nI t), .int m_begin, .int m_name, .int m_refr, .int m_tag, .int m_tagsz, .int m_quote, .int m_chars, .int m_brackets, .int m_matched, .long m_number, .int m_fault]))] := hD
  refine lv_iconst (v := 0) hx hb dX4_go_5 (by decide) ?_
  have hP9 := hP.sub (ws' := [(mh, .inr (4, [.ref m_te, .int m_size, .ref m_re, .int m_len, .int (nI np), .ref m_kn, .ref m_bg, .ref m_en, .ref m_dp, .int (nI no), .ref m_nm, .ref m_sz, .int (nI na), .ref m_aa, .ref m_asz, .int m_elements, .int m_most, .int m_values, .int m_place, .int m_phase, .int p1, .int (nI t), .int m_begin, .int m_name, .int m_refr, .int m_tag, .int m_tagsz, .int m_quote, .int m_chars, .int m_brackets, .int m_matched, .long m_number, .int m_fault]))]) [0] rfl
  have hD9 := hD.sub (ws' := [(mh, .inr (4, [.ref m_te, .int m_size, .ref m_re, .int m_len, .int (nI np), .ref m_kn, .ref m_bg, .ref m_en, .ref m_dp, .int (nI no), .ref m_nm, .ref m_sz, .int (nI na), .ref m_aa, .ref m_asz, .int m_elements, .int m_most, .int m_values, .int m_place, .int m_phase, .int p1, .int (nI t), .int m_begin, .int m_name, .int m_refr, .int m_tag, .int m_tagsz, .int m_quote, .int m_chars, .int m_brackets, .int m_matched, .long m_number, .int m_fault]))]) [0] (by decide) rfl
  exact W.iret (v := 0) hx hb hr (fun t9 ht9 hW => ⟨⟨0, (), rfl, rfl, by rw [ht9]; exact hP9, va_K.moved hW.alike hK, hD9⟩, hS.F ht9⟩) hS.2.2 dX4_go_6

set_option maxHeartbeats 4000000 in
set_option maxRecDepth 100000 in
/-- X4_fail -/
theorem c_X4_fail_w (l : Launch) (D : va_G) (cI : ClassId) (V : (Nat → Nat) × (Nat → Nat)) (mh : Nat) (m_te : Nat) (m_size : Int32) (m_re : Nat) (m_len : Int32) (m_kn : Nat) (m_bg : Nat) (m_en : Nat) (m_dp : Nat) (m_nm : Nat) (m_sz : Nat) (m_aa : Nat) (m_asz : Nat) (m_elements : Int32) (m_most : Int32) (m_values : Int32) (m_place : Int32) (m_phase : Int32) (m_state : Int32) (m_begin : Int32) (m_name : Int32) (m_refr : Int32) (m_tag : Int32) (m_tagsz : Int32) (m_quote : Int32) (m_chars : Int32) (m_brackets : Int32) (m_matched : Int32) (m_number : Int64) (m_fault : Int32) (np : Nat) (no : Nat) (na : Nat) (t : Nat) (sz : Nat) (p1 : Int32) (p2 : Int32)  : Met l yX4_fail (.code yX4_fail cX4_fail 3 (some .int) :: tbW) ({ frames := 0, cells := 0, slots := 0, locals := 0 }) (va_Pc [.ref mh, .int p1, .int p2] (gP D cI V [(mh, .inr (4, [.ref m_te, .int m_size, .ref m_re, .int m_len, .int (nI np), .ref m_kn, .ref m_bg, .ref m_en, .ref m_dp, .int (nI no), .ref m_nm, .ref m_sz, .int (nI na), .ref m_aa, .ref m_asz, .int m_elements, .int m_most, .int m_values, .int m_place, .int m_phase, .int m_state, .int (nI t), .int m_begin, .int m_name, .int m_refr, .int m_tag, .int m_tagsz, .int m_quote, .int m_chars, .int m_brackets, .int m_matched, .long m_number, .int m_fault]))] sz)) (va_Qi (fun (r : Int32) (u : Unit) => r = -1) (fun u => gB D cI (va_A [(mh, .inr (4, [.ref m_te, .int m_size, .ref m_re, .int m_len, .int (nI np), .ref m_kn, .ref m_bg, .ref m_en, .ref m_dp, .int (nI no), .ref m_nm, .ref m_sz, .int (nI na), .ref m_aa, .ref m_asz, .int m_elements, .int m_most, .int m_values, .int m_place, .int m_phase, .int m_state, .int (nI t), .int m_begin, .int m_name, .int m_refr, .int m_tag, .int m_tagsz, .int m_quote, .int m_chars, .int m_brackets, .int m_matched, .long m_number, .int m_fault]))] sz) [(mh, .inr (4, [.ref m_te, .int m_size, .ref m_re, .int m_len, .int (nI np), .ref m_kn, .ref m_bg, .ref m_en, .ref m_dp, .int (nI no), .ref m_nm, .ref m_sz, .int (nI na), .ref m_aa, .ref m_asz, .int m_elements, .int m_most, .int m_values, .int p2, .int m_phase, .int m_state, .int (nI t), .int m_begin, .int m_name, .int m_refr, .int m_tag, .int m_tagsz, .int m_quote, .int m_chars, .int m_brackets, .int m_matched, .long m_number, .int p1]))]) (va_A [(mh, .inr (4, [.ref m_te, .int m_size, .ref m_re, .int m_len, .int (nI np), .ref m_kn, .ref m_bg, .ref m_en, .ref m_dp, .int (nI no), .ref m_nm, .ref m_sz, .int (nI na), .ref m_aa, .ref m_asz, .int m_elements, .int m_most, .int m_values, .int m_place, .int m_phase, .int m_state, .int (nI t), .int m_begin, .int m_name, .int m_refr, .int m_tag, .int m_tagsz, .int m_quote, .int m_chars, .int m_brackets, .int m_matched, .long m_number, .int m_fault]))] sz)) 0 0 (va_A [(mh, .inr (4, [.ref m_te, .int m_size, .ref m_re, .int m_len, .int (nI np), .ref m_kn, .ref m_bg, .ref m_en, .ref m_dp, .int (nI no), .ref m_nm, .ref m_sz, .int (nI na), .ref m_aa, .ref m_asz, .int m_elements, .int m_most, .int m_values, .int m_place, .int m_phase, .int m_state, .int (nI t), .int m_begin, .int m_name, .int m_refr, .int m_tag, .int m_tagsz, .int m_quote, .int m_chars, .int m_brackets, .int m_matched, .long m_number, .int m_fault]))] sz) := by
  refine Met.ofW (cc := cX4_fail) (maxL := 3) (ret := (some .int)) (by decide) rfl ?_
  intro p e s m args below meth c s₁ B hml hv
  obtain ⟨rfl, hsz, hP, hK, hD0, hN, hV⟩ := hv
  have hx := B.exec
  have hb := B.bytes
  have hr := B.returns
  have hts := tb_hts (atoms_spec (ws := .code yX4_fail cX4_fail 3 (some .int) :: tbW) B.pre)
  have hown : s.vm.findClass RX4 = some m.cls := findClass_of_methodNamed B.named
  have hlocks := B.notSynchronized
  subst hsz
  have hD := hD0.self (sz := s.heap.size)
  generalize hAe : va_A [(mh, .inr (4, [.ref m_te, .int m_size, .ref m_re, .int m_len, .int (nI np), .ref m_kn, .ref m_bg, .ref m_en, .ref m_dp, .int (nI no), .ref m_nm, .ref m_sz, .int (nI na), .ref m_aa, .ref m_asz, .int m_elements, .int m_most, .int m_values, .int m_place, .int m_phase, .int m_state, .int (nI t), .int m_begin, .int m_name, .int m_refr, .int m_tag, .int m_tagsz, .int m_quote, .int m_chars, .int m_brackets, .int m_matched, .long m_number, .int m_fault]))] s.heap.size = A at hD hV ⊢
  have hA : ∀ q : Nat, s.heap.size ≤ q → A q := fun q h => by rw [← hAe]; exact Or.inr h
  have hS : va_S A s.heap s.heap [] := va_S.rf
  have hP : va_P D classes [(mh, .inr (4, [.ref m_te, .int m_size, .ref m_re, .int m_len, .int (nI np), .ref m_kn, .ref m_bg, .ref m_en, .ref m_dp, .int (nI no), .ref m_nm, .ref m_sz, .int (nI na), .ref m_aa, .ref m_asz, .int m_elements, .int m_most, .int m_values, .int m_place, .int m_phase, .int m_state, .int (nI t), .int m_begin, .int m_name, .int m_refr, .int m_tag, .int m_tagsz, .int m_quote, .int m_chars, .int m_brackets, .int m_matched, .long m_number, .int m_fault]))] s.heap := hP
  have hl := lv_entry ([.ref mh, .int p1, .int p2]) (n := 3) (Nat.le_of_ble_eq_true rfl)
  rw [lg_entry_eq]
  generalize (lg_sl ([.ref mh, .int p1, .int p2]) ++ List.replicate (3 - (lg_sl ([.ref mh, .int p1, .int p2])).length) Slot.unset).toArray = ls at hl ⊢
  have hl : lv_has ls 3 [(0, .ref mh), (1, .int p1), (2, .int p2)] := hl
  refine lv_aload_n hx hb dX4_fail_0 rfl (lv_at hl 0 rfl) ?_
  refine lv_iload_n hx hb dX4_fail_1 rfl (lv_at hl 1 rfl) ?_
  refine va_put (D := D) (ci := 4) (v := .int p1) (ty := .int) (C := RX4) (T := TX4) (N := 33) hx hb hts inX4 tyX4 tyX4_ok nmX4 hown hK hP hD hS 0 rfl rfl 32 (by decide) (hts (Cond.fieldLink "NestedTagsModel" 53 "NestedTagsModel" "fault" "I") kk_3_4) (fun _ h9 => h9) rfl (tyX4_ok 32 (by decide)) rfl rfl (Nat.le_of_ble_eq_true rfl) dX4_fail_2 (fun H locs hP hD hS => ?_)
  have hP : va_P D classes [(mh, .inr (4, [.ref m_te, .int m_size, .ref m_re, .int m_len, .int (nI np), .ref m_kn, .ref m_bg, .ref m_en, .ref m_dp, .int (nI no), .ref m_nm, .ref m_sz, .int (nI na), .ref m_aa, .ref m_asz, .int m_elements, .int m_most, .int m_values, .int m_place, .int m_phase, .int m_state, .int (nI t), .int m_begin, .int m_name, .int m_refr, .int m_tag, .int m_tagsz, .int m_quote, .int m_chars, .int m_brackets, .int m_matched, .long m_number, .int p1]))] H := hP
  have hD : va_D A [(mh, .inr (4, [.ref m_te, .int m_size, .ref m_re, .int m_len, .int (nI np), .ref m_kn, .ref m_bg, .ref m_en, .ref m_dp, .int (nI no), .ref m_nm, .ref m_sz, .int (nI na), .ref m_aa, .ref m_asz, .int m_elements, .int m_most, .int m_values, .int m_place, .int m_phase, .int m_state, .int (nI t), .int m_begin, .int m_name, .int m_refr, .int m_tag, .int m_tagsz, .int m_quote, .int m_chars, .int m_brackets, .int m_matched, .long m_number, .int p1]))] := hD
  refine lv_aload_n hx hb dX4_fail_5 rfl (lv_at hl 0 rfl) ?_
  refine lv_iload_n hx hb dX4_fail_6 rfl (lv_at hl 2 rfl) ?_
  refine va_put (D := D) (ci := 4) (v := .int p2) (ty := .int) (C := RX4) (T := TX4) (N := 33) hx hb hts inX4 tyX4 tyX4_ok nmX4 hown hK hP hD hS 0 rfl rfl 18 (by decide) (hts (Cond.fieldLink "NestedTagsModel" 40 "NestedTagsModel" "place" "I") kk_2_230) (fun _ h9 => h9) rfl (tyX4_ok 18 (by decide)) rfl rfl (Nat.le_of_ble_eq_true rfl) dX4_fail_7 (fun H locs hP hD hS => ?_)
  have hP : va_P D classes [(mh, .inr (4, [.ref m_te, .int m_size, .ref m_re, .int m_len, .int (nI np), .ref m_kn, .ref m_bg, .ref m_en, .ref m_dp, .int (nI no), .ref m_nm, .ref m_sz, .int (nI na), .ref m_aa, .ref m_asz, .int m_elements, .int m_most, .int m_values, .int p2, .int m_phase, .int m_state, .int (nI t), .int m_begin, .int m_name, .int m_refr, .int m_tag, .int m_tagsz, .int m_quote, .int m_chars, .int m_brackets, .int m_matched, .long m_number, .int p1]))] H := hP
  have hD : va_D A [(mh, .inr (4, [.ref m_te, .int m_size, .ref m_re, .int m_len, .int (nI np), .ref m_kn, .ref m_bg, .ref m_en, .ref m_dp, .int (nI no), .ref m_nm, .ref m_sz, .int (nI na), .ref m_aa, .ref m_asz, .int m_elements, .int m_most, .int m_values, .int p2, .int m_phase, .int m_state, .int (nI t), .int m_begin, .int m_name, .int m_refr, .int m_tag, .int m_tagsz, .int m_quote, .int m_chars, .int m_brackets, .int m_matched, .long m_number, .int p1]))] := hD
  refine lv_iconst (v := (-1)) hx hb dX4_fail_10 (by decide) ?_
  have hP9 := hP.sub (ws' := [(mh, .inr (4, [.ref m_te, .int m_size, .ref m_re, .int m_len, .int (nI np), .ref m_kn, .ref m_bg, .ref m_en, .ref m_dp, .int (nI no), .ref m_nm, .ref m_sz, .int (nI na), .ref m_aa, .ref m_asz, .int m_elements, .int m_most, .int m_values, .int p2, .int m_phase, .int m_state, .int (nI t), .int m_begin, .int m_name, .int m_refr, .int m_tag, .int m_tagsz, .int m_quote, .int m_chars, .int m_brackets, .int m_matched, .long m_number, .int p1]))]) [0] rfl
  have hD9 := hD.sub (ws' := [(mh, .inr (4, [.ref m_te, .int m_size, .ref m_re, .int m_len, .int (nI np), .ref m_kn, .ref m_bg, .ref m_en, .ref m_dp, .int (nI no), .ref m_nm, .ref m_sz, .int (nI na), .ref m_aa, .ref m_asz, .int m_elements, .int m_most, .int m_values, .int p2, .int m_phase, .int m_state, .int (nI t), .int m_begin, .int m_name, .int m_refr, .int m_tag, .int m_tagsz, .int m_quote, .int m_chars, .int m_brackets, .int m_matched, .long m_number, .int p1]))]) [0] (by decide) rfl
  exact W.iret (v := (-1)) hx hb hr (fun t9 ht9 hW => ⟨⟨(-1), (), rfl, rfl, by rw [ht9]; exact hP9, va_K.moved hW.alike hK, hD9⟩, hS.F ht9⟩) hS.2.2 dX4_fail_11

set_option maxHeartbeats 4000000 in
set_option maxRecDepth 100000 in
/-- X4_wrong -/
theorem c_X4_wrong_w (l : Launch) (D : va_G) (cI : ClassId) (V : (Nat → Nat) × (Nat → Nat)) (mh : Nat) (m_te : Nat) (m_size : Int32) (m_re : Nat) (m_len : Int32) (m_kn : Nat) (m_bg : Nat) (m_en : Nat) (m_dp : Nat) (m_nm : Nat) (m_sz : Nat) (m_aa : Nat) (m_asz : Nat) (m_elements : Int32) (m_most : Int32) (m_values : Int32) (m_place : Int32) (m_phase : Int32) (m_state : Int32) (m_begin : Int32) (m_name : Int32) (m_refr : Int32) (m_tag : Int32) (m_tagsz : Int32) (m_quote : Int32) (m_chars : Int32) (m_brackets : Int32) (m_matched : Int32) (m_number : Int64) (m_fault : Int32) (np : Nat) (no : Nat) (na : Nat) (t : Nat) (sz : Nat)   : Met l yX4_wrong (.code yX4_wrong cX4_wrong 1 (some .int) :: tbW) ({ frames := 1, cells := 0, slots := 0, locals := 22 }) (va_Pc [.ref mh] (gP D cI V [(mh, .inr (4, [.ref m_te, .int m_size, .ref m_re, .int m_len, .int (nI np), .ref m_kn, .ref m_bg, .ref m_en, .ref m_dp, .int (nI no), .ref m_nm, .ref m_sz, .int (nI na), .ref m_aa, .ref m_asz, .int m_elements, .int m_most, .int m_values, .int m_place, .int m_phase, .int m_state, .int (nI t), .int m_begin, .int m_name, .int m_refr, .int m_tag, .int m_tagsz, .int m_quote, .int m_chars, .int m_brackets, .int m_matched, .long m_number, .int m_fault]))] sz)) (va_Qi (fun (r : Int32) (u : Unit) => r = -1) (fun u => gB D cI (va_A [(mh, .inr (4, [.ref m_te, .int m_size, .ref m_re, .int m_len, .int (nI np), .ref m_kn, .ref m_bg, .ref m_en, .ref m_dp, .int (nI no), .ref m_nm, .ref m_sz, .int (nI na), .ref m_aa, .ref m_asz, .int m_elements, .int m_most, .int m_values, .int m_place, .int m_phase, .int m_state, .int (nI t), .int m_begin, .int m_name, .int m_refr, .int m_tag, .int m_tagsz, .int m_quote, .int m_chars, .int m_brackets, .int m_matched, .long m_number, .int m_fault]))] sz) [(mh, .inr (4, [.ref m_te, .int m_size, .ref m_re, .int m_len, .int (nI np), .ref m_kn, .ref m_bg, .ref m_en, .ref m_dp, .int (nI no), .ref m_nm, .ref m_sz, .int (nI na), .ref m_aa, .ref m_asz, .int m_elements, .int m_most, .int m_values, .int (nI t), .int m_phase, .int m_state, .int (nI t), .int m_begin, .int m_name, .int m_refr, .int m_tag, .int m_tagsz, .int m_quote, .int m_chars, .int m_brackets, .int m_matched, .long m_number, .int 2]))]) (va_A [(mh, .inr (4, [.ref m_te, .int m_size, .ref m_re, .int m_len, .int (nI np), .ref m_kn, .ref m_bg, .ref m_en, .ref m_dp, .int (nI no), .ref m_nm, .ref m_sz, .int (nI na), .ref m_aa, .ref m_asz, .int m_elements, .int m_most, .int m_values, .int m_place, .int m_phase, .int m_state, .int (nI t), .int m_begin, .int m_name, .int m_refr, .int m_tag, .int m_tagsz, .int m_quote, .int m_chars, .int m_brackets, .int m_matched, .long m_number, .int m_fault]))] sz)) 0 0 (va_A [(mh, .inr (4, [.ref m_te, .int m_size, .ref m_re, .int m_len, .int (nI np), .ref m_kn, .ref m_bg, .ref m_en, .ref m_dp, .int (nI no), .ref m_nm, .ref m_sz, .int (nI na), .ref m_aa, .ref m_asz, .int m_elements, .int m_most, .int m_values, .int m_place, .int m_phase, .int m_state, .int (nI t), .int m_begin, .int m_name, .int m_refr, .int m_tag, .int m_tagsz, .int m_quote, .int m_chars, .int m_brackets, .int m_matched, .long m_number, .int m_fault]))] sz) := by
  refine Met.ofW (cc := cX4_wrong) (maxL := 1) (ret := (some .int)) (by decide) rfl ?_
  intro p e s m args below meth c s₁ B hml hv
  obtain ⟨rfl, hsz, hP, hK, hD0, hN, hV⟩ := hv
  have hx := B.exec
  have hb := B.bytes
  have hr := B.returns
  have hts := tb_hts (atoms_spec (ws := .code yX4_wrong cX4_wrong 1 (some .int) :: tbW) B.pre)
  have hown : s.vm.findClass RX4 = some m.cls := findClass_of_methodNamed B.named
  have hlocks := B.notSynchronized
  subst hsz
  have hD := hD0.self (sz := s.heap.size)
  generalize hAe : va_A [(mh, .inr (4, [.ref m_te, .int m_size, .ref m_re, .int m_len, .int (nI np), .ref m_kn, .ref m_bg, .ref m_en, .ref m_dp, .int (nI no), .ref m_nm, .ref m_sz, .int (nI na), .ref m_aa, .ref m_asz, .int m_elements, .int m_most, .int m_values, .int m_place, .int m_phase, .int m_state, .int (nI t), .int m_begin, .int m_name, .int m_refr, .int m_tag, .int m_tagsz, .int m_quote, .int m_chars, .int m_brackets, .int m_matched, .long m_number, .int m_fault]))] s.heap.size = A at hD hV ⊢
  have hA : ∀ q : Nat, s.heap.size ≤ q → A q := fun q h => by rw [← hAe]; exact Or.inr h
  have hS : va_S A s.heap s.heap [] := va_S.rf
  have hP : va_P D classes [(mh, .inr (4, [.ref m_te, .int m_size, .ref m_re, .int m_len, .int (nI np), .ref m_kn, .ref m_bg, .ref m_en, .ref m_dp, .int (nI no), .ref m_nm, .ref m_sz, .int (nI na), .ref m_aa, .ref m_asz, .int m_elements, .int m_most, .int m_values, .int m_place, .int m_phase, .int m_state, .int (nI t), .int m_begin, .int m_name, .int m_refr, .int m_tag, .int m_tagsz, .int m_quote, .int m_chars, .int m_brackets, .int m_matched, .long m_number, .int m_fault]))] s.heap := hP
  have hl := lv_entry ([.ref mh]) (n := 1) (Nat.le_of_ble_eq_true rfl)
  rw [lg_entry_eq]
  generalize (lg_sl ([.ref mh]) ++ List.replicate (1 - (lg_sl ([.ref mh])).length) Slot.unset).toArray = ls at hl ⊢
  have hl : lv_has ls 1 [(0, .ref mh)] := hl
  refine lv_aload_n hx hb dX4_wrong_0 rfl (lv_at hl 0 rfl) ?_
  refine lv_iconst (v := 2) hx hb dX4_wrong_1 (by decide) ?_
  refine lv_aload_n hx hb dX4_wrong_2 rfl (lv_at hl 0 rfl) ?_
  refine va_get (D := D) (ci := 4) (v := .int (nI t)) (C := RX4) (T := TX4) (N := 33) hx hb hts inX4 hown hK hP 0 rfl rfl 21 (by decide) (hts (Cond.fieldLink "NestedTagsModel" 59 "NestedTagsModel" "at" "I") kk_2_233) (fun _ h9 => h9) rfl dX4_wrong_3 ?_
  refine gcall_i (va_runV (As := [.int 2, .int (nI t)]) (rest := []) ⟨hx, hb, hml, hown, hts⟩ (c_X4_fail_w l D cI V mh m_te m_size m_re m_len m_kn m_bg m_en m_dp m_nm m_sz m_aa m_asz m_elements m_most m_values m_place m_phase m_state m_begin m_name m_refr m_tag m_tagsz m_quote m_chars m_brackets m_matched m_number m_fault np no na t s.heap.size 2 (nI t)) (cwV 2 hts (tb_goodV kk_3_96 kk_3_98 kk_0_26 kk_1_6 kk_3_99) rfl rfl rfl (hdV_X4_fail) ⟨Nat.le_of_ble_eq_true rfl, Nat.le_of_ble_eq_true rfl⟩) (gpreV hK hN hV hS hA hP hD [0] rfl rfl (by decide) (va_recv hK hP (ci := 4) (q0 := 0) rfl rfl)) rfl rfl hl.1 rfl (lv_room (Nat.le_of_ble_eq_true rfl)) dX4_wrong_6 ⟨Nat.le_of_ble_eq_true rfl, Nat.le_of_ble_eq_true rfl⟩) hP hD hS hA [0] [] (wr := []) rfl rfl (by decide) (by decide) (fun r_1 u_2 H locs hw_6 hP hD hS => ?_)
  try dsimp only at hw_6
  have hP : va_P D classes [(mh, .inr (4, [.ref m_te, .int m_size, .ref m_re, .int m_len, .int (nI np), .ref m_kn, .ref m_bg, .ref m_en, .ref m_dp, .int (nI no), .ref m_nm, .ref m_sz, .int (nI na), .ref m_aa, .ref m_asz, .int m_elements, .int m_most, .int m_values, .int (nI t), .int m_phase, .int m_state, .int (nI t), .int m_begin, .int m_name, .int m_refr, .int m_tag, .int m_tagsz, .int m_quote, .int m_chars, .int m_brackets, .int m_matched, .long m_number, .int 2]))] H := hP
  have hD : va_D A [(mh, .inr (4, [.ref m_te, .int m_size, .ref m_re, .int m_len, .int (nI np), .ref m_kn, .ref m_bg, .ref m_en, .ref m_dp, .int (nI no), .ref m_nm, .ref m_sz, .int (nI na), .ref m_aa, .ref m_asz, .int m_elements, .int m_most, .int m_values, .int (nI t), .int m_phase, .int m_state, .int (nI t), .int m_begin, .int m_name, .int m_refr, .int m_tag, .int m_tagsz, .int m_quote, .int m_chars, .int m_brackets, .int m_matched, .long m_number, .int 2]))] := hD
  have hP9 := hP.sub (ws' := [(mh, .inr (4, [.ref m_te, .int m_size, .ref m_re, .int m_len, .int (nI np), .ref m_kn, .ref m_bg, .ref m_en, .ref m_dp, .int (nI no), .ref m_nm, .ref m_sz, .int (nI na), .ref m_aa, .ref m_asz, .int m_elements, .int m_most, .int m_values, .int (nI t), .int m_phase, .int m_state, .int (nI t), .int m_begin, .int m_name, .int m_refr, .int m_tag, .int m_tagsz, .int m_quote, .int m_chars, .int m_brackets, .int m_matched, .long m_number, .int 2]))]) [0] rfl
  have hD9 := hD.sub (ws' := [(mh, .inr (4, [.ref m_te, .int m_size, .ref m_re, .int m_len, .int (nI np), .ref m_kn, .ref m_bg, .ref m_en, .ref m_dp, .int (nI no), .ref m_nm, .ref m_sz, .int (nI na), .ref m_aa, .ref m_asz, .int m_elements, .int m_most, .int m_values, .int (nI t), .int m_phase, .int m_state, .int (nI t), .int m_begin, .int m_name, .int m_refr, .int m_tag, .int m_tagsz, .int m_quote, .int m_chars, .int m_brackets, .int m_matched, .long m_number, .int 2]))]) [0] (by decide) rfl
  exact W.iret (v := r_1) hx hb hr (fun t9 ht9 hW => ⟨⟨r_1, (), rfl, hw_6, by rw [ht9]; exact hP9, va_K.moved hW.alike hK, hD9⟩, hS.F ht9⟩) hS.2.2 dX4_wrong_9

set_option maxHeartbeats 4000000 in
set_option maxRecDepth 100000 in
/-- X4_add -/
theorem c_X4_add (l : Launch) (D : va_G) (cI : ClassId) (V : (Nat → Nat) × (Nat → Nat)) (mh : Nat) (m_te : Nat) (m_size : Int32) (m_re : Nat) (m_len : Int32) (m_kn : Nat) (m_bg : Nat) (m_en : Nat) (m_dp : Nat) (m_nm : Nat) (m_sz : Nat) (m_aa : Nat) (m_asz : Nat) (m_elements : Int32) (m_most : Int32) (m_values : Int32) (m_place : Int32) (m_phase : Int32) (m_state : Int32) (m_begin : Int32) (m_name : Int32) (m_refr : Int32) (m_tag : Int32) (m_tagsz : Int32) (m_quote : Int32) (m_chars : Int32) (m_brackets : Int32) (m_matched : Int32) (m_number : Int64) (m_fault : Int32) (np : Nat) (no : Nat) (na : Nat) (t : Nat) (k1 : Nat → Int32) (k2 : Nat → Int32) (k3 : Nat → Int32) (k4 : Nat → Int32) (sz : Nat) (p1 : Int32) (p2 : Int32) (p3 : Int32) (p4 : Int32) (hnp : np ≤ 150) : Met l yX4_add (.code yX4_add cX4_add 5 (some .int) :: tbW) ({ frames := 1, cells := 0, slots := 0, locals := 22 }) (va_Pc [.ref mh, .int p1, .int p2, .int p3, .int p4] (gP D cI V [(mh, .inr (4, [.ref m_te, .int m_size, .ref m_re, .int m_len, .int (nI np), .ref m_kn, .ref m_bg, .ref m_en, .ref m_dp, .int (nI no), .ref m_nm, .ref m_sz, .int (nI na), .ref m_aa, .ref m_asz, .int m_elements, .int m_most, .int m_values, .int m_place, .int m_phase, .int m_state, .int (nI t), .int m_begin, .int m_name, .int m_refr, .int m_tag, .int m_tagsz, .int m_quote, .int m_chars, .int m_brackets, .int m_matched, .long m_number, .int m_fault])), (m_kn, .inl (cI, 150, .inl k1)), (m_bg, .inl (cI, 150, .inl k2)), (m_en, .inl (cI, 150, .inl k3)), (m_dp, .inl (cI, 150, .inl k4))] sz)) (va_Qi (fun (r : Int32) (u : Nat × Int32 × Int32 × (Nat → Int32) × (Nat → Int32) × (Nat → Int32) × (Nat → Int32)) => u.1 ≤ 150) (fun u => gB D cI (va_A [(mh, .inr (4, [.ref m_te, .int m_size, .ref m_re, .int m_len, .int (nI np), .ref m_kn, .ref m_bg, .ref m_en, .ref m_dp, .int (nI no), .ref m_nm, .ref m_sz, .int (nI na), .ref m_aa, .ref m_asz, .int m_elements, .int m_most, .int m_values, .int m_place, .int m_phase, .int m_state, .int (nI t), .int m_begin, .int m_name, .int m_refr, .int m_tag, .int m_tagsz, .int m_quote, .int m_chars, .int m_brackets, .int m_matched, .long m_number, .int m_fault])), (m_kn, .inl (cI, 150, .inl k1)), (m_bg, .inl (cI, 150, .inl k2)), (m_en, .inl (cI, 150, .inl k3)), (m_dp, .inl (cI, 150, .inl k4))] sz) [(mh, .inr (4, [.ref m_te, .int m_size, .ref m_re, .int m_len, .int (nI u.1), .ref m_kn, .ref m_bg, .ref m_en, .ref m_dp, .int (nI no), .ref m_nm, .ref m_sz, .int (nI na), .ref m_aa, .ref m_asz, .int m_elements, .int m_most, .int m_values, .int u.2.1, .int m_phase, .int m_state, .int (nI t), .int m_begin, .int m_name, .int m_refr, .int m_tag, .int m_tagsz, .int m_quote, .int m_chars, .int m_brackets, .int m_matched, .long m_number, .int u.2.2.1])), (m_kn, .inl (cI, 150, .inl u.2.2.2.1)), (m_bg, .inl (cI, 150, .inl u.2.2.2.2.1)), (m_en, .inl (cI, 150, .inl u.2.2.2.2.2.1)), (m_dp, .inl (cI, 150, .inl u.2.2.2.2.2.2))]) (va_A [(mh, .inr (4, [.ref m_te, .int m_size, .ref m_re, .int m_len, .int (nI np), .ref m_kn, .ref m_bg, .ref m_en, .ref m_dp, .int (nI no), .ref m_nm, .ref m_sz, .int (nI na), .ref m_aa, .ref m_asz, .int m_elements, .int m_most, .int m_values, .int m_place, .int m_phase, .int m_state, .int (nI t), .int m_begin, .int m_name, .int m_refr, .int m_tag, .int m_tagsz, .int m_quote, .int m_chars, .int m_brackets, .int m_matched, .long m_number, .int m_fault])), (m_kn, .inl (cI, 150, .inl k1)), (m_bg, .inl (cI, 150, .inl k2)), (m_en, .inl (cI, 150, .inl k3)), (m_dp, .inl (cI, 150, .inl k4))] sz)) 0 0 (va_A [(mh, .inr (4, [.ref m_te, .int m_size, .ref m_re, .int m_len, .int (nI np), .ref m_kn, .ref m_bg, .ref m_en, .ref m_dp, .int (nI no), .ref m_nm, .ref m_sz, .int (nI na), .ref m_aa, .ref m_asz, .int m_elements, .int m_most, .int m_values, .int m_place, .int m_phase, .int m_state, .int (nI t), .int m_begin, .int m_name, .int m_refr, .int m_tag, .int m_tagsz, .int m_quote, .int m_chars, .int m_brackets, .int m_matched, .long m_number, .int m_fault])), (m_kn, .inl (cI, 150, .inl k1)), (m_bg, .inl (cI, 150, .inl k2)), (m_en, .inl (cI, 150, .inl k3)), (m_dp, .inl (cI, 150, .inl k4))] sz) := by
  refine Met.ofW (cc := cX4_add) (maxL := 5) (ret := (some .int)) (by decide) rfl ?_
  intro p e s m args below meth c s₁ B hml hv
  obtain ⟨rfl, hsz, hP, hK, hD0, hN, hV⟩ := hv
  have hx := B.exec
  have hb := B.bytes
  have hr := B.returns
  have hts := tb_hts (atoms_spec (ws := .code yX4_add cX4_add 5 (some .int) :: tbW) B.pre)
  have hown : s.vm.findClass RX4 = some m.cls := findClass_of_methodNamed B.named
  have hlocks := B.notSynchronized
  subst hsz
  have hD := hD0.self (sz := s.heap.size)
  generalize hAe : va_A [(mh, .inr (4, [.ref m_te, .int m_size, .ref m_re, .int m_len, .int (nI np), .ref m_kn, .ref m_bg, .ref m_en, .ref m_dp, .int (nI no), .ref m_nm, .ref m_sz, .int (nI na), .ref m_aa, .ref m_asz, .int m_elements, .int m_most, .int m_values, .int m_place, .int m_phase, .int m_state, .int (nI t), .int m_begin, .int m_name, .int m_refr, .int m_tag, .int m_tagsz, .int m_quote, .int m_chars, .int m_brackets, .int m_matched, .long m_number, .int m_fault])), (m_kn, .inl (cI, 150, .inl k1)), (m_bg, .inl (cI, 150, .inl k2)), (m_en, .inl (cI, 150, .inl k3)), (m_dp, .inl (cI, 150, .inl k4))] s.heap.size = A at hD hV ⊢
  have hA : ∀ q : Nat, s.heap.size ≤ q → A q := fun q h => by rw [← hAe]; exact Or.inr h
  have hS : va_S A s.heap s.heap [] := va_S.rf
  have hP : va_P D classes [(mh, .inr (4, [.ref m_te, .int m_size, .ref m_re, .int m_len, .int (nI np), .ref m_kn, .ref m_bg, .ref m_en, .ref m_dp, .int (nI no), .ref m_nm, .ref m_sz, .int (nI na), .ref m_aa, .ref m_asz, .int m_elements, .int m_most, .int m_values, .int m_place, .int m_phase, .int m_state, .int (nI t), .int m_begin, .int m_name, .int m_refr, .int m_tag, .int m_tagsz, .int m_quote, .int m_chars, .int m_brackets, .int m_matched, .long m_number, .int m_fault])), (m_kn, .inl (cI, 150, .inl k1)), (m_bg, .inl (cI, 150, .inl k2)), (m_en, .inl (cI, 150, .inl k3)), (m_dp, .inl (cI, 150, .inl k4))] s.heap := hP
  have hl := lv_entry ([.ref mh, .int p1, .int p2, .int p3, .int p4]) (n := 5) (Nat.le_of_ble_eq_true rfl)
  rw [lg_entry_eq]
  generalize (lg_sl ([.ref mh, .int p1, .int p2, .int p3, .int p4]) ++ List.replicate (5 - (lg_sl ([.ref mh, .int p1, .int p2, .int p3, .int p4])).length) Slot.unset).toArray = ls at hl ⊢
  have hl : lv_has ls 5 [(0, .ref mh), (1, .int p1), (2, .int p2), (3, .int p3), (4, .int p4)] := hl
  refine lv_aload_n hx hb dX4_add_0 rfl (lv_at hl 0 rfl) ?_
  refine va_get (D := D) (ci := 4) (v := .int (nI np)) (C := RX4) (T := TX4) (N := 33) hx hb hts inX4 hown hK hP 0 rfl rfl 4 (by decide) (hts (Cond.fieldLink "NestedTagsModel" 66 "NestedTagsModel" "pieces" "I") kk_2_216) (fun _ h9 => h9) rfl dX4_add_1 ?_
  refine lv_sipush (v := 150) hx hb dX4_add_4 (by decide) ?_
  refine lv_icmp_ne (tgt := 18) hx hb dX4_add_7 (by decide) (fun c_7 => ?_) (fun c_7 => ?_)
  · skip
    refine lv_aload_n hx hb dX4_add_18 rfl (lv_at hl 0 rfl) ?_
    refine va_get (D := D) (ci := 4) (v := .ref m_kn) (C := RX4) (T := TX4) (N := 33) hx hb hts inX4 hown hK hP 0 rfl rfl 5 (by decide) (hts (Cond.fieldLink "NestedTagsModel" 16 "NestedTagsModel" "kinds" "[I") kk_2_217) (fun _ h9 => h9) rfl dX4_add_19 ?_
    refine lv_aload_n hx hb dX4_add_22 rfl (lv_at hl 0 rfl) ?_
    refine va_get (D := D) (ci := 4) (v := .int (nI np)) (C := RX4) (T := TX4) (N := 33) hx hb hts inX4 hown hK hP 0 rfl rfl 4 (by decide) (hts (Cond.fieldLink "NestedTagsModel" 66 "NestedTagsModel" "pieces" "I") kk_2_216) (fun _ h9 => h9) rfl dX4_add_23 ?_
    refine lv_iload_n hx hb dX4_add_26 rfl (lv_at hl 1 rfl) ?_
    refine va_iast hx hb hK hP hD hS 1 0 rfl rfl (vp_in_nI (np_lt hnp c_7) (by decide)) dX4_add_27 (fun H locs hP hD hS => ?_)
    have hP : va_P D classes [(mh, .inr (4, [.ref m_te, .int m_size, .ref m_re, .int m_len, .int (nI np), .ref m_kn, .ref m_bg, .ref m_en, .ref m_dp, .int (nI no), .ref m_nm, .ref m_sz, .int (nI na), .ref m_aa, .ref m_asz, .int m_elements, .int m_most, .int m_values, .int m_place, .int m_phase, .int m_state, .int (nI t), .int m_begin, .int m_name, .int m_refr, .int m_tag, .int m_tagsz, .int m_quote, .int m_chars, .int m_brackets, .int m_matched, .long m_number, .int m_fault])), (m_kn, .inl (cI, 150, .inl (upd k1 (nI np).toNatClampNeg p1))), (m_bg, .inl (cI, 150, .inl k2)), (m_en, .inl (cI, 150, .inl k3)), (m_dp, .inl (cI, 150, .inl k4))] H := hP
    have hD : va_D A [(mh, .inr (4, [.ref m_te, .int m_size, .ref m_re, .int m_len, .int (nI np), .ref m_kn, .ref m_bg, .ref m_en, .ref m_dp, .int (nI no), .ref m_nm, .ref m_sz, .int (nI na), .ref m_aa, .ref m_asz, .int m_elements, .int m_most, .int m_values, .int m_place, .int m_phase, .int m_state, .int (nI t), .int m_begin, .int m_name, .int m_refr, .int m_tag, .int m_tagsz, .int m_quote, .int m_chars, .int m_brackets, .int m_matched, .long m_number, .int m_fault])), (m_kn, .inl (cI, 150, .inl (upd k1 (nI np).toNatClampNeg p1))), (m_bg, .inl (cI, 150, .inl k2)), (m_en, .inl (cI, 150, .inl k3)), (m_dp, .inl (cI, 150, .inl k4))] := hD
    obtain ⟨f_1, ef_1⟩ : ∃ z, z = (upd k1 (nI np).toNatClampNeg p1) := ⟨_, rfl⟩
    rw [← ef_1] at hP hD
    refine lv_aload_n hx hb dX4_add_28 rfl (lv_at hl 0 rfl) ?_
    refine va_get (D := D) (ci := 4) (v := .ref m_bg) (C := RX4) (T := TX4) (N := 33) hx hb hts inX4 hown hK hP 0 rfl rfl 6 (by decide) (hts (Cond.fieldLink "NestedTagsModel" 19 "NestedTagsModel" "begins" "[I") kk_2_218) (fun _ h9 => h9) rfl dX4_add_29 ?_
    refine lv_aload_n hx hb dX4_add_32 rfl (lv_at hl 0 rfl) ?_
    refine va_get (D := D) (ci := 4) (v := .int (nI np)) (C := RX4) (T := TX4) (N := 33) hx hb hts inX4 hown hK hP 0 rfl rfl 4 (by decide) (hts (Cond.fieldLink "NestedTagsModel" 66 "NestedTagsModel" "pieces" "I") kk_2_216) (fun _ h9 => h9) rfl dX4_add_33 ?_
    refine lv_iload_n hx hb dX4_add_36 rfl (lv_at hl 2 rfl) ?_
    refine va_iast hx hb hK hP hD hS 2 0 rfl rfl (vp_in_nI (np_lt hnp c_7) (by decide)) dX4_add_37 (fun H locs hP hD hS => ?_)
    have hP : va_P D classes [(mh, .inr (4, [.ref m_te, .int m_size, .ref m_re, .int m_len, .int (nI np), .ref m_kn, .ref m_bg, .ref m_en, .ref m_dp, .int (nI no), .ref m_nm, .ref m_sz, .int (nI na), .ref m_aa, .ref m_asz, .int m_elements, .int m_most, .int m_values, .int m_place, .int m_phase, .int m_state, .int (nI t), .int m_begin, .int m_name, .int m_refr, .int m_tag, .int m_tagsz, .int m_quote, .int m_chars, .int m_brackets, .int m_matched, .long m_number, .int m_fault])), (m_kn, .inl (cI, 150, .inl f_1)), (m_bg, .inl (cI, 150, .inl (upd k2 (nI np).toNatClampNeg p2))), (m_en, .inl (cI, 150, .inl k3)), (m_dp, .inl (cI, 150, .inl k4))] H := hP
    have hD : va_D A [(mh, .inr (4, [.ref m_te, .int m_size, .ref m_re, .int m_len, .int (nI np), .ref m_kn, .ref m_bg, .ref m_en, .ref m_dp, .int (nI no), .ref m_nm, .ref m_sz, .int (nI na), .ref m_aa, .ref m_asz, .int m_elements, .int m_most, .int m_values, .int m_place, .int m_phase, .int m_state, .int (nI t), .int m_begin, .int m_name, .int m_refr, .int m_tag, .int m_tagsz, .int m_quote, .int m_chars, .int m_brackets, .int m_matched, .long m_number, .int m_fault])), (m_kn, .inl (cI, 150, .inl f_1)), (m_bg, .inl (cI, 150, .inl (upd k2 (nI np).toNatClampNeg p2))), (m_en, .inl (cI, 150, .inl k3)), (m_dp, .inl (cI, 150, .inl k4))] := hD
    obtain ⟨f_2, ef_2⟩ : ∃ z, z = (upd k2 (nI np).toNatClampNeg p2) := ⟨_, rfl⟩
    rw [← ef_2] at hP hD
    refine lv_aload_n hx hb dX4_add_38 rfl (lv_at hl 0 rfl) ?_
    refine va_get (D := D) (ci := 4) (v := .ref m_en) (C := RX4) (T := TX4) (N := 33) hx hb hts inX4 hown hK hP 0 rfl rfl 7 (by decide) (hts (Cond.fieldLink "NestedTagsModel" 22 "NestedTagsModel" "ends" "[I") kk_2_219) (fun _ h9 => h9) rfl dX4_add_39 ?_
    refine lv_aload_n hx hb dX4_add_42 rfl (lv_at hl 0 rfl) ?_
    refine va_get (D := D) (ci := 4) (v := .int (nI np)) (C := RX4) (T := TX4) (N := 33) hx hb hts inX4 hown hK hP 0 rfl rfl 4 (by decide) (hts (Cond.fieldLink "NestedTagsModel" 66 "NestedTagsModel" "pieces" "I") kk_2_216) (fun _ h9 => h9) rfl dX4_add_43 ?_
    refine lv_iload_n hx hb dX4_add_46 rfl (lv_at hl 3 rfl) ?_
    refine va_iast hx hb hK hP hD hS 3 0 rfl rfl (vp_in_nI (np_lt hnp c_7) (by decide)) dX4_add_47 (fun H locs hP hD hS => ?_)
    have hP : va_P D classes [(mh, .inr (4, [.ref m_te, .int m_size, .ref m_re, .int m_len, .int (nI np), .ref m_kn, .ref m_bg, .ref m_en, .ref m_dp, .int (nI no), .ref m_nm, .ref m_sz, .int (nI na), .ref m_aa, .ref m_asz, .int m_elements, .int m_most, .int m_values, .int m_place, .int m_phase, .int m_state, .int (nI t), .int m_begin, .int m_name, .int m_refr, .int m_tag, .int m_tagsz, .int m_quote, .int m_chars, .int m_brackets, .int m_matched, .long m_number, .int m_fault])), (m_kn, .inl (cI, 150, .inl f_1)), (m_bg, .inl (cI, 150, .inl f_2)), (m_en, .inl (cI, 150, .inl (upd k3 (nI np).toNatClampNeg p3))), (m_dp, .inl (cI, 150, .inl k4))] H := hP
    have hD : va_D A [(mh, .inr (4, [.ref m_te, .int m_size, .ref m_re, .int m_len, .int (nI np), .ref m_kn, .ref m_bg, .ref m_en, .ref m_dp, .int (nI no), .ref m_nm, .ref m_sz, .int (nI na), .ref m_aa, .ref m_asz, .int m_elements, .int m_most, .int m_values, .int m_place, .int m_phase, .int m_state, .int (nI t), .int m_begin, .int m_name, .int m_refr, .int m_tag, .int m_tagsz, .int m_quote, .int m_chars, .int m_brackets, .int m_matched, .long m_number, .int m_fault])), (m_kn, .inl (cI, 150, .inl f_1)), (m_bg, .inl (cI, 150, .inl f_2)), (m_en, .inl (cI, 150, .inl (upd k3 (nI np).toNatClampNeg p3))), (m_dp, .inl (cI, 150, .inl k4))] := hD
    obtain ⟨f_3, ef_3⟩ : ∃ z, z = (upd k3 (nI np).toNatClampNeg p3) := ⟨_, rfl⟩
    rw [← ef_3] at hP hD
    refine lv_aload_n hx hb dX4_add_48 rfl (lv_at hl 0 rfl) ?_
    refine va_get (D := D) (ci := 4) (v := .ref m_dp) (C := RX4) (T := TX4) (N := 33) hx hb hts inX4 hown hK hP 0 rfl rfl 8 (by decide) (hts (Cond.fieldLink "NestedTagsModel" 25 "NestedTagsModel" "depths" "[I") kk_2_220) (fun _ h9 => h9) rfl dX4_add_49 ?_
    refine lv_aload_n hx hb dX4_add_52 rfl (lv_at hl 0 rfl) ?_
    refine va_get (D := D) (ci := 4) (v := .int (nI np)) (C := RX4) (T := TX4) (N := 33) hx hb hts inX4 hown hK hP 0 rfl rfl 4 (by decide) (hts (Cond.fieldLink "NestedTagsModel" 66 "NestedTagsModel" "pieces" "I") kk_2_216) (fun _ h9 => h9) rfl dX4_add_53 ?_
    refine lv_iload hx hb dX4_add_56 (lv_at hl 4 rfl) ?_
    refine va_iast hx hb hK hP hD hS 4 0 rfl rfl (vp_in_nI (np_lt hnp c_7) (by decide)) dX4_add_58 (fun H locs hP hD hS => ?_)
    have hP : va_P D classes [(mh, .inr (4, [.ref m_te, .int m_size, .ref m_re, .int m_len, .int (nI np), .ref m_kn, .ref m_bg, .ref m_en, .ref m_dp, .int (nI no), .ref m_nm, .ref m_sz, .int (nI na), .ref m_aa, .ref m_asz, .int m_elements, .int m_most, .int m_values, .int m_place, .int m_phase, .int m_state, .int (nI t), .int m_begin, .int m_name, .int m_refr, .int m_tag, .int m_tagsz, .int m_quote, .int m_chars, .int m_brackets, .int m_matched, .long m_number, .int m_fault])), (m_kn, .inl (cI, 150, .inl f_1)), (m_bg, .inl (cI, 150, .inl f_2)), (m_en, .inl (cI, 150, .inl f_3)), (m_dp, .inl (cI, 150, .inl (upd k4 (nI np).toNatClampNeg p4)))] H := hP
    have hD : va_D A [(mh, .inr (4, [.ref m_te, .int m_size, .ref m_re, .int m_len, .int (nI np), .ref m_kn, .ref m_bg, .ref m_en, .ref m_dp, .int (nI no), .ref m_nm, .ref m_sz, .int (nI na), .ref m_aa, .ref m_asz, .int m_elements, .int m_most, .int m_values, .int m_place, .int m_phase, .int m_state, .int (nI t), .int m_begin, .int m_name, .int m_refr, .int m_tag, .int m_tagsz, .int m_quote, .int m_chars, .int m_brackets, .int m_matched, .long m_number, .int m_fault])), (m_kn, .inl (cI, 150, .inl f_1)), (m_bg, .inl (cI, 150, .inl f_2)), (m_en, .inl (cI, 150, .inl f_3)), (m_dp, .inl (cI, 150, .inl (upd k4 (nI np).toNatClampNeg p4)))] := hD
    obtain ⟨f_4, ef_4⟩ : ∃ z, z = (upd k4 (nI np).toNatClampNeg p4) := ⟨_, rfl⟩
    rw [← ef_4] at hP hD
    refine lv_aload_n hx hb dX4_add_59 rfl (lv_at hl 0 rfl) ?_
    refine lv_aload_n hx hb dX4_add_60 rfl (lv_at hl 0 rfl) ?_
    refine va_get (D := D) (ci := 4) (v := .int (nI np)) (C := RX4) (T := TX4) (N := 33) hx hb hts inX4 hown hK hP 0 rfl rfl 4 (by decide) (hts (Cond.fieldLink "NestedTagsModel" 66 "NestedTagsModel" "pieces" "I") kk_2_216) (fun _ h9 => h9) rfl dX4_add_61 ?_
    refine lv_iconst (v := 1) hx hb dX4_add_64 (by decide) ?_
    refine lv_iadd hx hb dX4_add_65 ?_
    refine lv_topi (fun x_5 ex_5 => ?_)
    have enx_5 : x_5 = (nI (np + 1)) := by rw [ex_5]; exact nI_1 np
    rw [enx_5]
    refine va_put (D := D) (ci := 4) (v := .int (nI (np + 1))) (ty := .int) (C := RX4) (T := TX4) (N := 33) hx hb hts inX4 tyX4 tyX4_ok nmX4 hown hK hP hD hS 0 rfl rfl 4 (by decide) (hts (Cond.fieldLink "NestedTagsModel" 66 "NestedTagsModel" "pieces" "I") kk_2_216) (fun _ h9 => h9) rfl (tyX4_ok 4 (by decide)) rfl rfl (Nat.le_of_ble_eq_true rfl) dX4_add_66 (fun H locs hP hD hS => ?_)
    have hP : va_P D classes [(mh, .inr (4, [.ref m_te, .int m_size, .ref m_re, .int m_len, .int (nI (np + 1)), .ref m_kn, .ref m_bg, .ref m_en, .ref m_dp, .int (nI no), .ref m_nm, .ref m_sz, .int (nI na), .ref m_aa, .ref m_asz, .int m_elements, .int m_most, .int m_values, .int m_place, .int m_phase, .int m_state, .int (nI t), .int m_begin, .int m_name, .int m_refr, .int m_tag, .int m_tagsz, .int m_quote, .int m_chars, .int m_brackets, .int m_matched, .long m_number, .int m_fault])), (m_kn, .inl (cI, 150, .inl f_1)), (m_bg, .inl (cI, 150, .inl f_2)), (m_en, .inl (cI, 150, .inl f_3)), (m_dp, .inl (cI, 150, .inl f_4))] H := hP
    have hD : va_D A [(mh, .inr (4, [.ref m_te, .int m_size, .ref m_re, .int m_len, .int (nI (np + 1)), .ref m_kn, .ref m_bg, .ref m_en, .ref m_dp, .int (nI no), .ref m_nm, .ref m_sz, .int (nI na), .ref m_aa, .ref m_asz, .int m_elements, .int m_most, .int m_values, .int m_place, .int m_phase, .int m_state, .int (nI t), .int m_begin, .int m_name, .int m_refr, .int m_tag, .int m_tagsz, .int m_quote, .int m_chars, .int m_brackets, .int m_matched, .long m_number, .int m_fault])), (m_kn, .inl (cI, 150, .inl f_1)), (m_bg, .inl (cI, 150, .inl f_2)), (m_en, .inl (cI, 150, .inl f_3)), (m_dp, .inl (cI, 150, .inl f_4))] := hD
    refine lv_iconst (v := 0) hx hb dX4_add_69 (by decide) ?_
    have hP9 := hP.sub (ws' := [(mh, .inr (4, [.ref m_te, .int m_size, .ref m_re, .int m_len, .int (nI (np + 1)), .ref m_kn, .ref m_bg, .ref m_en, .ref m_dp, .int (nI no), .ref m_nm, .ref m_sz, .int (nI na), .ref m_aa, .ref m_asz, .int m_elements, .int m_most, .int m_values, .int m_place, .int m_phase, .int m_state, .int (nI t), .int m_begin, .int m_name, .int m_refr, .int m_tag, .int m_tagsz, .int m_quote, .int m_chars, .int m_brackets, .int m_matched, .long m_number, .int m_fault])), (m_kn, .inl (cI, 150, .inl f_1)), (m_bg, .inl (cI, 150, .inl f_2)), (m_en, .inl (cI, 150, .inl f_3)), (m_dp, .inl (cI, 150, .inl f_4))]) [0, 1, 2, 3, 4] rfl
    have hD9 := hD.sub (ws' := [(mh, .inr (4, [.ref m_te, .int m_size, .ref m_re, .int m_len, .int (nI (np + 1)), .ref m_kn, .ref m_bg, .ref m_en, .ref m_dp, .int (nI no), .ref m_nm, .ref m_sz, .int (nI na), .ref m_aa, .ref m_asz, .int m_elements, .int m_most, .int m_values, .int m_place, .int m_phase, .int m_state, .int (nI t), .int m_begin, .int m_name, .int m_refr, .int m_tag, .int m_tagsz, .int m_quote, .int m_chars, .int m_brackets, .int m_matched, .long m_number, .int m_fault])), (m_kn, .inl (cI, 150, .inl f_1)), (m_bg, .inl (cI, 150, .inl f_2)), (m_en, .inl (cI, 150, .inl f_3)), (m_dp, .inl (cI, 150, .inl f_4))]) [0, 1, 2, 3, 4] (by decide) rfl
    exact W.iret (v := 0) hx hb hr (fun t9 ht9 hW => ⟨⟨0, ((np + 1), m_place, m_fault, f_1, f_2, f_3, f_4), rfl, (np_lt hnp c_7), by rw [ht9]; exact hP9, va_K.moved hW.alike hK, hD9⟩, hS.F ht9⟩) hS.2.2 dX4_add_70
  · skip
    refine lv_aload_n hx hb dX4_add_10 rfl (lv_at hl 0 rfl) ?_
    refine lv_bipush (v := 15) hx hb dX4_add_11 (by decide) ?_
    refine lv_iload_n hx hb dX4_add_13 rfl (lv_at hl 2 rfl) ?_
    refine gcall_i (va_runV (As := [.int 15, .int p2]) (rest := []) ⟨hx, hb, hml, hown, hts⟩ (c_X4_fail_w l D cI V mh m_te m_size m_re m_len m_kn m_bg m_en m_dp m_nm m_sz m_aa m_asz m_elements m_most m_values m_place m_phase m_state m_begin m_name m_refr m_tag m_tagsz m_quote m_chars m_brackets m_matched m_number m_fault np no na t s.heap.size 15 p2) (cwV 2 hts (tb_goodV kk_3_96 kk_3_98 kk_0_26 kk_1_6 kk_3_99) rfl rfl rfl (hdV_X4_fail) ⟨Nat.le_of_ble_eq_true rfl, Nat.le_of_ble_eq_true rfl⟩) (gpreV hK hN hV hS hA hP hD [0] rfl rfl (by decide) (va_recv hK hP (ci := 4) (q0 := 0) rfl rfl)) rfl rfl hl.1 rfl (lv_room (Nat.le_of_ble_eq_true rfl)) dX4_add_14 ⟨Nat.le_of_ble_eq_true rfl, Nat.le_of_ble_eq_true rfl⟩) hP hD hS hA [0] [1, 2, 3, 4] (wr := [(m_kn, .inl (cI, 150, .inl k1)), (m_bg, .inl (cI, 150, .inl k2)), (m_en, .inl (cI, 150, .inl k3)), (m_dp, .inl (cI, 150, .inl k4))]) rfl rfl (by decide) (by decide) (fun r_6 u_7 H locs hw_14 hP hD hS => ?_)
    try dsimp only at hw_14
    have hP : va_P D classes [(m_kn, .inl (cI, 150, .inl k1)), (m_bg, .inl (cI, 150, .inl k2)), (m_en, .inl (cI, 150, .inl k3)), (m_dp, .inl (cI, 150, .inl k4)), (mh, .inr (4, [.ref m_te, .int m_size, .ref m_re, .int m_len, .int (nI np), .ref m_kn, .ref m_bg, .ref m_en, .ref m_dp, .int (nI no), .ref m_nm, .ref m_sz, .int (nI na), .ref m_aa, .ref m_asz, .int m_elements, .int m_most, .int m_values, .int p2, .int m_phase, .int m_state, .int (nI t), .int m_begin, .int m_name, .int m_refr, .int m_tag, .int m_tagsz, .int m_quote, .int m_chars, .int m_brackets, .int m_matched, .long m_number, .int 15]))] H := hP
    have hD : va_D A [(m_kn, .inl (cI, 150, .inl k1)), (m_bg, .inl (cI, 150, .inl k2)), (m_en, .inl (cI, 150, .inl k3)), (m_dp, .inl (cI, 150, .inl k4)), (mh, .inr (4, [.ref m_te, .int m_size, .ref m_re, .int m_len, .int (nI np), .ref m_kn, .ref m_bg, .ref m_en, .ref m_dp, .int (nI no), .ref m_nm, .ref m_sz, .int (nI na), .ref m_aa, .ref m_asz, .int m_elements, .int m_most, .int m_values, .int p2, .int m_phase, .int m_state, .int (nI t), .int m_begin, .int m_name, .int m_refr, .int m_tag, .int m_tagsz, .int m_quote, .int m_chars, .int m_brackets, .int m_matched, .long m_number, .int 15]))] := hD
    have hP9 := hP.sub (ws' := [(mh, .inr (4, [.ref m_te, .int m_size, .ref m_re, .int m_len, .int (nI np), .ref m_kn, .ref m_bg, .ref m_en, .ref m_dp, .int (nI no), .ref m_nm, .ref m_sz, .int (nI na), .ref m_aa, .ref m_asz, .int m_elements, .int m_most, .int m_values, .int p2, .int m_phase, .int m_state, .int (nI t), .int m_begin, .int m_name, .int m_refr, .int m_tag, .int m_tagsz, .int m_quote, .int m_chars, .int m_brackets, .int m_matched, .long m_number, .int 15])), (m_kn, .inl (cI, 150, .inl k1)), (m_bg, .inl (cI, 150, .inl k2)), (m_en, .inl (cI, 150, .inl k3)), (m_dp, .inl (cI, 150, .inl k4))]) [4, 0, 1, 2, 3] rfl
    have hD9 := hD.sub (ws' := [(mh, .inr (4, [.ref m_te, .int m_size, .ref m_re, .int m_len, .int (nI np), .ref m_kn, .ref m_bg, .ref m_en, .ref m_dp, .int (nI no), .ref m_nm, .ref m_sz, .int (nI na), .ref m_aa, .ref m_asz, .int m_elements, .int m_most, .int m_values, .int p2, .int m_phase, .int m_state, .int (nI t), .int m_begin, .int m_name, .int m_refr, .int m_tag, .int m_tagsz, .int m_quote, .int m_chars, .int m_brackets, .int m_matched, .long m_number, .int 15])), (m_kn, .inl (cI, 150, .inl k1)), (m_bg, .inl (cI, 150, .inl k2)), (m_en, .inl (cI, 150, .inl k3)), (m_dp, .inl (cI, 150, .inl k4))]) [4, 0, 1, 2, 3] (by decide) rfl
    exact W.iret (v := r_6) hx hb hr (fun t9 ht9 hW => ⟨⟨r_6, (np, p2, 15, k1, k2, k3, k4), rfl, hnp, by rw [ht9]; exact hP9, va_K.moved hW.alike hK, hD9⟩, hS.F ht9⟩) hS.2.2 dX4_add_17

set_option maxHeartbeats 4000000 in
set_option maxRecDepth 100000 in
/-- X4_text -/
theorem c_X4_text (l : Launch) (D : va_G) (cI : ClassId) (V : (Nat → Nat) × (Nat → Nat)) (mh : Nat) (m_te : Nat) (m_size : Int32) (m_re : Nat) (m_len : Int32) (m_kn : Nat) (m_bg : Nat) (m_en : Nat) (m_dp : Nat) (m_nm : Nat) (m_sz : Nat) (m_aa : Nat) (m_asz : Nat) (m_elements : Int32) (m_most : Int32) (m_values : Int32) (m_place : Int32) (m_phase : Int32) (m_state : Int32) (m_begin : Int32) (m_name : Int32) (m_refr : Int32) (m_tag : Int32) (m_tagsz : Int32) (m_quote : Int32) (m_chars : Int32) (m_brackets : Int32) (m_matched : Int32) (m_number : Int64) (m_fault : Int32) (np : Nat) (no : Nat) (na : Nat) (t : Nat) (sz : Nat) (p1 : Int32) (p2 : Int32) (p3 : Int32)  : Met l yX4_text (.code yX4_text cX4_text 4 (some .int) :: tbW) ({ frames := 2, cells := 0, slots := 0, locals := 42 }) (va_Pc [.ref mh, .int p1, .int p2, .int p3] (gP D cI V [(mh, .inr (4, [.ref m_te, .int m_size, .ref m_re, .int m_len, .int (nI np), .ref m_kn, .ref m_bg, .ref m_en, .ref m_dp, .int (nI no), .ref m_nm, .ref m_sz, .int (nI na), .ref m_aa, .ref m_asz, .int m_elements, .int m_most, .int m_values, .int m_place, .int m_phase, .int m_state, .int (nI t), .int m_begin, .int m_name, .int m_refr, .int m_tag, .int m_tagsz, .int m_quote, .int m_chars, .int m_brackets, .int m_matched, .long m_number, .int m_fault]))] sz)) (va_Qi (fun (r : Int32) (u : Int32 × Int32 × Int32) => r = 0 → u.1 = m_state ∨ u.1 = p3) (fun u => gB D cI (va_A [(mh, .inr (4, [.ref m_te, .int m_size, .ref m_re, .int m_len, .int (nI np), .ref m_kn, .ref m_bg, .ref m_en, .ref m_dp, .int (nI no), .ref m_nm, .ref m_sz, .int (nI na), .ref m_aa, .ref m_asz, .int m_elements, .int m_most, .int m_values, .int m_place, .int m_phase, .int m_state, .int (nI t), .int m_begin, .int m_name, .int m_refr, .int m_tag, .int m_tagsz, .int m_quote, .int m_chars, .int m_brackets, .int m_matched, .long m_number, .int m_fault]))] sz) [(mh, .inr (4, [.ref m_te, .int m_size, .ref m_re, .int m_len, .int (nI np), .ref m_kn, .ref m_bg, .ref m_en, .ref m_dp, .int (nI no), .ref m_nm, .ref m_sz, .int (nI na), .ref m_aa, .ref m_asz, .int m_elements, .int m_most, .int m_values, .int u.2.1, .int m_phase, .int u.1, .int (nI t), .int m_begin, .int m_name, .int m_refr, .int m_tag, .int m_tagsz, .int m_quote, .int m_chars, .int m_brackets, .int m_matched, .long m_number, .int u.2.2]))]) (va_A [(mh, .inr (4, [.ref m_te, .int m_size, .ref m_re, .int m_len, .int (nI np), .ref m_kn, .ref m_bg, .ref m_en, .ref m_dp, .int (nI no), .ref m_nm, .ref m_sz, .int (nI na), .ref m_aa, .ref m_asz, .int m_elements, .int m_most, .int m_values, .int m_place, .int m_phase, .int m_state, .int (nI t), .int m_begin, .int m_name, .int m_refr, .int m_tag, .int m_tagsz, .int m_quote, .int m_chars, .int m_brackets, .int m_matched, .long m_number, .int m_fault]))] sz)) 0 0 (va_A [(mh, .inr (4, [.ref m_te, .int m_size, .ref m_re, .int m_len, .int (nI np), .ref m_kn, .ref m_bg, .ref m_en, .ref m_dp, .int (nI no), .ref m_nm, .ref m_sz, .int (nI na), .ref m_aa, .ref m_asz, .int m_elements, .int m_most, .int m_values, .int m_place, .int m_phase, .int m_state, .int (nI t), .int m_begin, .int m_name, .int m_refr, .int m_tag, .int m_tagsz, .int m_quote, .int m_chars, .int m_brackets, .int m_matched, .long m_number, .int m_fault]))] sz) := by
  refine Met.ofW (cc := cX4_text) (maxL := 4) (ret := (some .int)) (by decide) rfl ?_
  intro p e s m args below meth c s₁ B hml hv
  obtain ⟨rfl, hsz, hP, hK, hD0, hN, hV⟩ := hv
  have hx := B.exec
  have hb := B.bytes
  have hr := B.returns
  have hts := tb_hts (atoms_spec (ws := .code yX4_text cX4_text 4 (some .int) :: tbW) B.pre)
  have hown : s.vm.findClass RX4 = some m.cls := findClass_of_methodNamed B.named
  have hlocks := B.notSynchronized
  subst hsz
  have hD := hD0.self (sz := s.heap.size)
  generalize hAe : va_A [(mh, .inr (4, [.ref m_te, .int m_size, .ref m_re, .int m_len, .int (nI np), .ref m_kn, .ref m_bg, .ref m_en, .ref m_dp, .int (nI no), .ref m_nm, .ref m_sz, .int (nI na), .ref m_aa, .ref m_asz, .int m_elements, .int m_most, .int m_values, .int m_place, .int m_phase, .int m_state, .int (nI t), .int m_begin, .int m_name, .int m_refr, .int m_tag, .int m_tagsz, .int m_quote, .int m_chars, .int m_brackets, .int m_matched, .long m_number, .int m_fault]))] s.heap.size = A at hD hV ⊢
  have hA : ∀ q : Nat, s.heap.size ≤ q → A q := fun q h => by rw [← hAe]; exact Or.inr h
  have hS : va_S A s.heap s.heap [] := va_S.rf
  have hP : va_P D classes [(mh, .inr (4, [.ref m_te, .int m_size, .ref m_re, .int m_len, .int (nI np), .ref m_kn, .ref m_bg, .ref m_en, .ref m_dp, .int (nI no), .ref m_nm, .ref m_sz, .int (nI na), .ref m_aa, .ref m_asz, .int m_elements, .int m_most, .int m_values, .int m_place, .int m_phase, .int m_state, .int (nI t), .int m_begin, .int m_name, .int m_refr, .int m_tag, .int m_tagsz, .int m_quote, .int m_chars, .int m_brackets, .int m_matched, .long m_number, .int m_fault]))] s.heap := hP
  have hl := lv_entry ([.ref mh, .int p1, .int p2, .int p3]) (n := 4) (Nat.le_of_ble_eq_true rfl)
  rw [lg_entry_eq]
  generalize (lg_sl ([.ref mh, .int p1, .int p2, .int p3]) ++ List.replicate (4 - (lg_sl ([.ref mh, .int p1, .int p2, .int p3])).length) Slot.unset).toArray = ls at hl ⊢
  have hl : lv_has ls 4 [(0, .ref mh), (1, .int p1), (2, .int p2), (3, .int p3)] := hl
  refine lv_iload_n hx hb dX4_text_0 rfl (lv_at hl 1 rfl) ?_
  refine gcall_i (va_runS (As := [.int p1]) (rest := []) ⟨hx, hb, hml, hown, hts⟩ (c_X4_isSign l D cI V  s.heap.size p1) (va_cwS 1 hts (tb_goodS kk_3_115 kk_3_116 kk_1_6 kk_3_117) rfl rfl rfl (hdS_X4_isSign) ⟨Nat.le_of_ble_eq_true rfl, Nat.le_of_ble_eq_true rfl⟩) (gpreS hK hN hV hS hA hP hD [] rfl rfl (by decide)) rfl rfl hl.1 rfl (lv_room (Nat.le_of_ble_eq_true rfl)) dX4_text_1 ⟨Nat.le_of_ble_eq_true rfl, Nat.le_of_ble_eq_true rfl⟩) hP hD hS hA [] [0] (wr := [(mh, .inr (4, [.ref m_te, .int m_size, .ref m_re, .int m_len, .int (nI np), .ref m_kn, .ref m_bg, .ref m_en, .ref m_dp, .int (nI no), .ref m_nm, .ref m_sz, .int (nI na), .ref m_aa, .ref m_asz, .int m_elements, .int m_most, .int m_values, .int m_place, .int m_phase, .int m_state, .int (nI t), .int m_begin, .int m_name, .int m_refr, .int m_tag, .int m_tagsz, .int m_quote, .int m_chars, .int m_brackets, .int m_matched, .long m_number, .int m_fault]))]) rfl rfl (by decide) (by decide) (fun r_1 u_2 H locs hw_1 hP hD hS => ?_)
  try dsimp only at hw_1
  have hP : va_P D classes [(mh, .inr (4, [.ref m_te, .int m_size, .ref m_re, .int m_len, .int (nI np), .ref m_kn, .ref m_bg, .ref m_en, .ref m_dp, .int (nI no), .ref m_nm, .ref m_sz, .int (nI na), .ref m_aa, .ref m_asz, .int m_elements, .int m_most, .int m_values, .int m_place, .int m_phase, .int m_state, .int (nI t), .int m_begin, .int m_name, .int m_refr, .int m_tag, .int m_tagsz, .int m_quote, .int m_chars, .int m_brackets, .int m_matched, .long m_number, .int m_fault]))] H := hP
  have hD : va_D A [(mh, .inr (4, [.ref m_te, .int m_size, .ref m_re, .int m_len, .int (nI np), .ref m_kn, .ref m_bg, .ref m_en, .ref m_dp, .int (nI no), .ref m_nm, .ref m_sz, .int (nI na), .ref m_aa, .ref m_asz, .int m_elements, .int m_most, .int m_values, .int m_place, .int m_phase, .int m_state, .int (nI t), .int m_begin, .int m_name, .int m_refr, .int m_tag, .int m_tagsz, .int m_quote, .int m_chars, .int m_brackets, .int m_matched, .long m_number, .int m_fault]))] := hD
  refine lv_if_ne (tgt := 14) hx hb dX4_text_4 (by decide) (fun c_4 => ?_) (fun c_4 => ?_)
  · skip
    refine lv_iload_n hx hb dX4_text_14 rfl (lv_at hl 1 rfl) ?_
    refine lv_iload_n hx hb dX4_text_15 rfl (lv_at hl 2 rfl) ?_
    refine lv_icmp_ne (tgt := 27) hx hb dX4_text_16 (by decide) (fun c_16 => ?_) (fun c_16 => ?_)
    · skip
      refine lv_iconst (v := 0) hx hb dX4_text_27 (by decide) ?_
      have hP9 := hP.sub (ws' := [(mh, .inr (4, [.ref m_te, .int m_size, .ref m_re, .int m_len, .int (nI np), .ref m_kn, .ref m_bg, .ref m_en, .ref m_dp, .int (nI no), .ref m_nm, .ref m_sz, .int (nI na), .ref m_aa, .ref m_asz, .int m_elements, .int m_most, .int m_values, .int m_place, .int m_phase, .int m_state, .int (nI t), .int m_begin, .int m_name, .int m_refr, .int m_tag, .int m_tagsz, .int m_quote, .int m_chars, .int m_brackets, .int m_matched, .long m_number, .int m_fault]))]) [0] rfl
      have hD9 := hD.sub (ws' := [(mh, .inr (4, [.ref m_te, .int m_size, .ref m_re, .int m_len, .int (nI np), .ref m_kn, .ref m_bg, .ref m_en, .ref m_dp, .int (nI no), .ref m_nm, .ref m_sz, .int (nI na), .ref m_aa, .ref m_asz, .int m_elements, .int m_most, .int m_values, .int m_place, .int m_phase, .int m_state, .int (nI t), .int m_begin, .int m_name, .int m_refr, .int m_tag, .int m_tagsz, .int m_quote, .int m_chars, .int m_brackets, .int m_matched, .long m_number, .int m_fault]))]) [0] (by decide) rfl
      exact W.iret (v := 0) hx hb hr (fun t9 ht9 hW => ⟨⟨0, (m_state, m_place, m_fault), rfl, fun _ => Or.inl (rfl), by rw [ht9]; exact hP9, va_K.moved hW.alike hK, hD9⟩, hS.F ht9⟩) hS.2.2 dX4_text_28
    · skip
      refine lv_aload_n hx hb dX4_text_19 rfl (lv_at hl 0 rfl) ?_
      refine lv_iload_n hx hb dX4_text_20 rfl (lv_at hl 3 rfl) ?_
      refine gcall_i (va_runV (As := [.int p3]) (rest := []) ⟨hx, hb, hml, hown, hts⟩ (c_X4_go l D cI V mh m_te m_size m_re m_len m_kn m_bg m_en m_dp m_nm m_sz m_aa m_asz m_elements m_most m_values m_place m_phase m_state m_begin m_name m_refr m_tag m_tagsz m_quote m_chars m_brackets m_matched m_number m_fault np no na t H.size p3) (cwV 1 hts (tb_goodV kk_3_88 kk_3_90 kk_0_24 kk_1_6 kk_3_91) rfl rfl rfl (hdV_X4_go) ⟨Nat.le_of_ble_eq_true rfl, Nat.le_of_ble_eq_true rfl⟩) (gpreV hK hN hV hS hA hP hD [0] rfl rfl (by decide) (va_recv hK hP (ci := 4) (q0 := 0) rfl rfl)) rfl rfl hl.1 rfl (lv_room (Nat.le_of_ble_eq_true rfl)) dX4_text_21 ⟨Nat.le_of_ble_eq_true rfl, Nat.le_of_ble_eq_true rfl⟩) hP hD hS hA [0] [] (wr := []) rfl rfl (by decide) (by decide) (fun r_3 u_4 H locs hw_21 hP hD hS => ?_)
      try dsimp only at hw_21
      have hP : va_P D classes [(mh, .inr (4, [.ref m_te, .int m_size, .ref m_re, .int m_len, .int (nI np), .ref m_kn, .ref m_bg, .ref m_en, .ref m_dp, .int (nI no), .ref m_nm, .ref m_sz, .int (nI na), .ref m_aa, .ref m_asz, .int m_elements, .int m_most, .int m_values, .int m_place, .int m_phase, .int p3, .int (nI t), .int m_begin, .int m_name, .int m_refr, .int m_tag, .int m_tagsz, .int m_quote, .int m_chars, .int m_brackets, .int m_matched, .long m_number, .int m_fault]))] H := hP
      have hD : va_D A [(mh, .inr (4, [.ref m_te, .int m_size, .ref m_re, .int m_len, .int (nI np), .ref m_kn, .ref m_bg, .ref m_en, .ref m_dp, .int (nI no), .ref m_nm, .ref m_sz, .int (nI na), .ref m_aa, .ref m_asz, .int m_elements, .int m_most, .int m_values, .int m_place, .int m_phase, .int p3, .int (nI t), .int m_begin, .int m_name, .int m_refr, .int m_tag, .int m_tagsz, .int m_quote, .int m_chars, .int m_brackets, .int m_matched, .long m_number, .int m_fault]))] := hD
      refine lv_goto (tgt := 28) hx hb dX4_text_24 (by decide) ?_
      have hP9 := hP.sub (ws' := [(mh, .inr (4, [.ref m_te, .int m_size, .ref m_re, .int m_len, .int (nI np), .ref m_kn, .ref m_bg, .ref m_en, .ref m_dp, .int (nI no), .ref m_nm, .ref m_sz, .int (nI na), .ref m_aa, .ref m_asz, .int m_elements, .int m_most, .int m_values, .int m_place, .int m_phase, .int p3, .int (nI t), .int m_begin, .int m_name, .int m_refr, .int m_tag, .int m_tagsz, .int m_quote, .int m_chars, .int m_brackets, .int m_matched, .long m_number, .int m_fault]))]) [0] rfl
      have hD9 := hD.sub (ws' := [(mh, .inr (4, [.ref m_te, .int m_size, .ref m_re, .int m_len, .int (nI np), .ref m_kn, .ref m_bg, .ref m_en, .ref m_dp, .int (nI no), .ref m_nm, .ref m_sz, .int (nI na), .ref m_aa, .ref m_asz, .int m_elements, .int m_most, .int m_values, .int m_place, .int m_phase, .int p3, .int (nI t), .int m_begin, .int m_name, .int m_refr, .int m_tag, .int m_tagsz, .int m_quote, .int m_chars, .int m_brackets, .int m_matched, .long m_number, .int m_fault]))]) [0] (by decide) rfl
      exact W.iret (v := r_3) hx hb hr (fun t9 ht9 hW => ⟨⟨r_3, (p3, m_place, m_fault), rfl, fun _ => Or.inr (rfl), by rw [ht9]; exact hP9, va_K.moved hW.alike hK, hD9⟩, hS.F ht9⟩) hS.2.2 dX4_text_28
  · skip
    refine lv_aload_n hx hb dX4_text_7 rfl (lv_at hl 0 rfl) ?_
    refine gcall_i (va_runV (As := []) (rest := []) ⟨hx, hb, hml, hown, hts⟩ (c_X4_wrong_w l D cI V mh m_te m_size m_re m_len m_kn m_bg m_en m_dp m_nm m_sz m_aa m_asz m_elements m_most m_values m_place m_phase m_state m_begin m_name m_refr m_tag m_tagsz m_quote m_chars m_brackets m_matched m_number m_fault np no na t H.size ) (cwV 0 hts (tb_goodV kk_3_92 kk_3_94 kk_0_25 kk_1_6 kk_3_95) rfl rfl rfl (hdV_X4_wrong) ⟨Nat.le_of_ble_eq_true rfl, Nat.le_of_ble_eq_true rfl⟩) (gpreV hK hN hV hS hA hP hD [0] rfl rfl (by decide) (va_recv hK hP (ci := 4) (q0 := 0) rfl rfl)) rfl rfl hl.1 rfl (lv_room (Nat.le_of_ble_eq_true rfl)) dX4_text_8 ⟨Nat.le_of_ble_eq_true rfl, Nat.le_of_ble_eq_true rfl⟩) hP hD hS hA [0] [] (wr := []) rfl rfl (by decide) (by decide) (fun r_5 u_6 H locs hw_8 hP hD hS => ?_)
    try dsimp only at hw_8
    have hP : va_P D classes [(mh, .inr (4, [.ref m_te, .int m_size, .ref m_re, .int m_len, .int (nI np), .ref m_kn, .ref m_bg, .ref m_en, .ref m_dp, .int (nI no), .ref m_nm, .ref m_sz, .int (nI na), .ref m_aa, .ref m_asz, .int m_elements, .int m_most, .int m_values, .int (nI t), .int m_phase, .int m_state, .int (nI t), .int m_begin, .int m_name, .int m_refr, .int m_tag, .int m_tagsz, .int m_quote, .int m_chars, .int m_brackets, .int m_matched, .long m_number, .int 2]))] H := hP
    have hD : va_D A [(mh, .inr (4, [.ref m_te, .int m_size, .ref m_re, .int m_len, .int (nI np), .ref m_kn, .ref m_bg, .ref m_en, .ref m_dp, .int (nI no), .ref m_nm, .ref m_sz, .int (nI na), .ref m_aa, .ref m_asz, .int m_elements, .int m_most, .int m_values, .int (nI t), .int m_phase, .int m_state, .int (nI t), .int m_begin, .int m_name, .int m_refr, .int m_tag, .int m_tagsz, .int m_quote, .int m_chars, .int m_brackets, .int m_matched, .long m_number, .int 2]))] := hD
    refine lv_goto (tgt := 28) hx hb dX4_text_11 (by decide) ?_
    have hP9 := hP.sub (ws' := [(mh, .inr (4, [.ref m_te, .int m_size, .ref m_re, .int m_len, .int (nI np), .ref m_kn, .ref m_bg, .ref m_en, .ref m_dp, .int (nI no), .ref m_nm, .ref m_sz, .int (nI na), .ref m_aa, .ref m_asz, .int m_elements, .int m_most, .int m_values, .int (nI t), .int m_phase, .int m_state, .int (nI t), .int m_begin, .int m_name, .int m_refr, .int m_tag, .int m_tagsz, .int m_quote, .int m_chars, .int m_brackets, .int m_matched, .long m_number, .int 2]))]) [0] rfl
    have hD9 := hD.sub (ws' := [(mh, .inr (4, [.ref m_te, .int m_size, .ref m_re, .int m_len, .int (nI np), .ref m_kn, .ref m_bg, .ref m_en, .ref m_dp, .int (nI no), .ref m_nm, .ref m_sz, .int (nI na), .ref m_aa, .ref m_asz, .int m_elements, .int m_most, .int m_values, .int (nI t), .int m_phase, .int m_state, .int (nI t), .int m_begin, .int m_name, .int m_refr, .int m_tag, .int m_tagsz, .int m_quote, .int m_chars, .int m_brackets, .int m_matched, .long m_number, .int 2]))]) [0] (by decide) rfl
    exact W.iret (v := r_5) hx hb hr (fun t9 ht9 hW => ⟨⟨r_5, (m_state, (nI t), 2), rfl, fun q => absurd (hw_8.symm.trans q) (by decide), by rw [ht9]; exact hP9, va_K.moved hW.alike hK, hD9⟩, hS.F ht9⟩) hS.2.2 dX4_text_28

set_option maxHeartbeats 4000000 in
set_option maxRecDepth 100000 in
/-- X4_nameFrom -/
theorem c_X4_nameFrom (l : Launch) (D : va_G) (cI : ClassId) (V : (Nat → Nat) × (Nat → Nat)) (mh : Nat) (m_te : Nat) (m_size : Int32) (m_re : Nat) (m_len : Int32) (m_kn : Nat) (m_bg : Nat) (m_en : Nat) (m_dp : Nat) (m_nm : Nat) (m_sz : Nat) (m_aa : Nat) (m_asz : Nat) (m_elements : Int32) (m_most : Int32) (m_values : Int32) (m_place : Int32) (m_phase : Int32) (m_state : Int32) (m_begin : Int32) (m_name : Int32) (m_refr : Int32) (m_tag : Int32) (m_tagsz : Int32) (m_quote : Int32) (m_chars : Int32) (m_brackets : Int32) (m_matched : Int32) (m_number : Int64) (m_fault : Int32) (np : Nat) (no : Nat) (na : Nat) (t : Nat) (sz : Nat) (p1 : Int32) (p2 : Int32)  : Met l yX4_nameFrom (.code yX4_nameFrom cX4_nameFrom 3 (some .int) :: tbW) ({ frames := 2, cells := 0, slots := 0, locals := 42 }) (va_Pc [.ref mh, .int p1, .int p2] (gP D cI V [(mh, .inr (4, [.ref m_te, .int m_size, .ref m_re, .int m_len, .int (nI np), .ref m_kn, .ref m_bg, .ref m_en, .ref m_dp, .int (nI no), .ref m_nm, .ref m_sz, .int (nI na), .ref m_aa, .ref m_asz, .int m_elements, .int m_most, .int m_values, .int m_place, .int m_phase, .int m_state, .int (nI t), .int m_begin, .int m_name, .int m_refr, .int m_tag, .int m_tagsz, .int m_quote, .int m_chars, .int m_brackets, .int m_matched, .long m_number, .int m_fault]))] sz)) (va_Qi (fun (r : Int32) (u : Int32 × Int32 × Int32 × Int32) => r = 0 → u.1 = p2 ∧ u.2.1 = nI t) (fun u => gB D cI (va_A [(mh, .inr (4, [.ref m_te, .int m_size, .ref m_re, .int m_len, .int (nI np), .ref m_kn, .ref m_bg, .ref m_en, .ref m_dp, .int (nI no), .ref m_nm, .ref m_sz, .int (nI na), .ref m_aa, .ref m_asz, .int m_elements, .int m_most, .int m_values, .int m_place, .int m_phase, .int m_state, .int (nI t), .int m_begin, .int m_name, .int m_refr, .int m_tag, .int m_tagsz, .int m_quote, .int m_chars, .int m_brackets, .int m_matched, .long m_number, .int m_fault]))] sz) [(mh, .inr (4, [.ref m_te, .int m_size, .ref m_re, .int m_len, .int (nI np), .ref m_kn, .ref m_bg, .ref m_en, .ref m_dp, .int (nI no), .ref m_nm, .ref m_sz, .int (nI na), .ref m_aa, .ref m_asz, .int m_elements, .int m_most, .int m_values, .int u.2.2.1, .int m_phase, .int u.1, .int (nI t), .int m_begin, .int u.2.1, .int m_refr, .int m_tag, .int m_tagsz, .int m_quote, .int m_chars, .int m_brackets, .int m_matched, .long m_number, .int u.2.2.2]))]) (va_A [(mh, .inr (4, [.ref m_te, .int m_size, .ref m_re, .int m_len, .int (nI np), .ref m_kn, .ref m_bg, .ref m_en, .ref m_dp, .int (nI no), .ref m_nm, .ref m_sz, .int (nI na), .ref m_aa, .ref m_asz, .int m_elements, .int m_most, .int m_values, .int m_place, .int m_phase, .int m_state, .int (nI t), .int m_begin, .int m_name, .int m_refr, .int m_tag, .int m_tagsz, .int m_quote, .int m_chars, .int m_brackets, .int m_matched, .long m_number, .int m_fault]))] sz)) 0 0 (va_A [(mh, .inr (4, [.ref m_te, .int m_size, .ref m_re, .int m_len, .int (nI np), .ref m_kn, .ref m_bg, .ref m_en, .ref m_dp, .int (nI no), .ref m_nm, .ref m_sz, .int (nI na), .ref m_aa, .ref m_asz, .int m_elements, .int m_most, .int m_values, .int m_place, .int m_phase, .int m_state, .int (nI t), .int m_begin, .int m_name, .int m_refr, .int m_tag, .int m_tagsz, .int m_quote, .int m_chars, .int m_brackets, .int m_matched, .long m_number, .int m_fault]))] sz) := by
  refine Met.ofW (cc := cX4_nameFrom) (maxL := 3) (ret := (some .int)) (by decide) rfl ?_
  intro p e s m args below meth c s₁ B hml hv
  obtain ⟨rfl, hsz, hP, hK, hD0, hN, hV⟩ := hv
  have hx := B.exec
  have hb := B.bytes
  have hr := B.returns
  have hts := tb_hts (atoms_spec (ws := .code yX4_nameFrom cX4_nameFrom 3 (some .int) :: tbW) B.pre)
  have hown : s.vm.findClass RX4 = some m.cls := findClass_of_methodNamed B.named
  have hlocks := B.notSynchronized
  subst hsz
  have hD := hD0.self (sz := s.heap.size)
  generalize hAe : va_A [(mh, .inr (4, [.ref m_te, .int m_size, .ref m_re, .int m_len, .int (nI np), .ref m_kn, .ref m_bg, .ref m_en, .ref m_dp, .int (nI no), .ref m_nm, .ref m_sz, .int (nI na), .ref m_aa, .ref m_asz, .int m_elements, .int m_most, .int m_values, .int m_place, .int m_phase, .int m_state, .int (nI t), .int m_begin, .int m_name, .int m_refr, .int m_tag, .int m_tagsz, .int m_quote, .int m_chars, .int m_brackets, .int m_matched, .long m_number, .int m_fault]))] s.heap.size = A at hD hV ⊢
  have hA : ∀ q : Nat, s.heap.size ≤ q → A q := fun q h => by rw [← hAe]; exact Or.inr h
  have hS : va_S A s.heap s.heap [] := va_S.rf
  have hP : va_P D classes [(mh, .inr (4, [.ref m_te, .int m_size, .ref m_re, .int m_len, .int (nI np), .ref m_kn, .ref m_bg, .ref m_en, .ref m_dp, .int (nI no), .ref m_nm, .ref m_sz, .int (nI na), .ref m_aa, .ref m_asz, .int m_elements, .int m_most, .int m_values, .int m_place, .int m_phase, .int m_state, .int (nI t), .int m_begin, .int m_name, .int m_refr, .int m_tag, .int m_tagsz, .int m_quote, .int m_chars, .int m_brackets, .int m_matched, .long m_number, .int m_fault]))] s.heap := hP
  have hl := lv_entry ([.ref mh, .int p1, .int p2]) (n := 3) (Nat.le_of_ble_eq_true rfl)
  rw [lg_entry_eq]
  generalize (lg_sl ([.ref mh, .int p1, .int p2]) ++ List.replicate (3 - (lg_sl ([.ref mh, .int p1, .int p2])).length) Slot.unset).toArray = ls at hl ⊢
  have hl : lv_has ls 3 [(0, .ref mh), (1, .int p1), (2, .int p2)] := hl
  refine lv_iload_n hx hb dX4_nameFrom_0 rfl (lv_at hl 1 rfl) ?_
  refine gcall_i (va_runS (As := [.int p1]) (rest := []) ⟨hx, hb, hml, hown, hts⟩ (c_X4_isBegin l D cI V  s.heap.size p1) (va_cwS 1 hts (tb_goodS kk_3_104 kk_3_105 kk_1_6 kk_3_106) rfl rfl rfl (hdS_X4_isBegin) ⟨Nat.le_of_ble_eq_true rfl, Nat.le_of_ble_eq_true rfl⟩) (gpreS hK hN hV hS hA hP hD [] rfl rfl (by decide)) rfl rfl hl.1 rfl (lv_room (Nat.le_of_ble_eq_true rfl)) dX4_nameFrom_1 ⟨Nat.le_of_ble_eq_true rfl, Nat.le_of_ble_eq_true rfl⟩) hP hD hS hA [] [0] (wr := [(mh, .inr (4, [.ref m_te, .int m_size, .ref m_re, .int m_len, .int (nI np), .ref m_kn, .ref m_bg, .ref m_en, .ref m_dp, .int (nI no), .ref m_nm, .ref m_sz, .int (nI na), .ref m_aa, .ref m_asz, .int m_elements, .int m_most, .int m_values, .int m_place, .int m_phase, .int m_state, .int (nI t), .int m_begin, .int m_name, .int m_refr, .int m_tag, .int m_tagsz, .int m_quote, .int m_chars, .int m_brackets, .int m_matched, .long m_number, .int m_fault]))]) rfl rfl (by decide) (by decide) (fun r_1 u_2 H locs hw_1 hP hD hS => ?_)
  try dsimp only at hw_1
  have hP : va_P D classes [(mh, .inr (4, [.ref m_te, .int m_size, .ref m_re, .int m_len, .int (nI np), .ref m_kn, .ref m_bg, .ref m_en, .ref m_dp, .int (nI no), .ref m_nm, .ref m_sz, .int (nI na), .ref m_aa, .ref m_asz, .int m_elements, .int m_most, .int m_values, .int m_place, .int m_phase, .int m_state, .int (nI t), .int m_begin, .int m_name, .int m_refr, .int m_tag, .int m_tagsz, .int m_quote, .int m_chars, .int m_brackets, .int m_matched, .long m_number, .int m_fault]))] H := hP
  have hD : va_D A [(mh, .inr (4, [.ref m_te, .int m_size, .ref m_re, .int m_len, .int (nI np), .ref m_kn, .ref m_bg, .ref m_en, .ref m_dp, .int (nI no), .ref m_nm, .ref m_sz, .int (nI na), .ref m_aa, .ref m_asz, .int m_elements, .int m_most, .int m_values, .int m_place, .int m_phase, .int m_state, .int (nI t), .int m_begin, .int m_name, .int m_refr, .int m_tag, .int m_tagsz, .int m_quote, .int m_chars, .int m_brackets, .int m_matched, .long m_number, .int m_fault]))] := hD
  refine lv_if_ne (tgt := 12) hx hb dX4_nameFrom_4 (by decide) (fun c_4 => ?_) (fun c_4 => ?_)
  · skip
    refine lv_aload_n hx hb dX4_nameFrom_12 rfl (lv_at hl 0 rfl) ?_
    refine lv_aload_n hx hb dX4_nameFrom_13 rfl (lv_at hl 0 rfl) ?_
    refine va_get (D := D) (ci := 4) (v := .int (nI t)) (C := RX4) (T := TX4) (N := 33) hx hb hts inX4 hown hK hP 0 rfl rfl 21 (by decide) (hts (Cond.fieldLink "NestedTagsModel" 59 "NestedTagsModel" "at" "I") kk_2_233) (fun _ h9 => h9) rfl dX4_nameFrom_14 ?_
    refine va_put (D := D) (ci := 4) (v := .int (nI t)) (ty := .int) (C := RX4) (T := TX4) (N := 33) hx hb hts inX4 tyX4 tyX4_ok nmX4 hown hK hP hD hS 0 rfl rfl 23 (by decide) (hts (Cond.fieldLink "NestedTagsModel" 86 "NestedTagsModel" "name" "I") kk_2_235) (fun _ h9 => h9) rfl (tyX4_ok 23 (by decide)) rfl rfl (Nat.le_of_ble_eq_true rfl) dX4_nameFrom_17 (fun H locs hP hD hS => ?_)
    have hP : va_P D classes [(mh, .inr (4, [.ref m_te, .int m_size, .ref m_re, .int m_len, .int (nI np), .ref m_kn, .ref m_bg, .ref m_en, .ref m_dp, .int (nI no), .ref m_nm, .ref m_sz, .int (nI na), .ref m_aa, .ref m_asz, .int m_elements, .int m_most, .int m_values, .int m_place, .int m_phase, .int m_state, .int (nI t), .int m_begin, .int (nI t), .int m_refr, .int m_tag, .int m_tagsz, .int m_quote, .int m_chars, .int m_brackets, .int m_matched, .long m_number, .int m_fault]))] H := hP
    have hD : va_D A [(mh, .inr (4, [.ref m_te, .int m_size, .ref m_re, .int m_len, .int (nI np), .ref m_kn, .ref m_bg, .ref m_en, .ref m_dp, .int (nI no), .ref m_nm, .ref m_sz, .int (nI na), .ref m_aa, .ref m_asz, .int m_elements, .int m_most, .int m_values, .int m_place, .int m_phase, .int m_state, .int (nI t), .int m_begin, .int (nI t), .int m_refr, .int m_tag, .int m_tagsz, .int m_quote, .int m_chars, .int m_brackets, .int m_matched, .long m_number, .int m_fault]))] := hD
    refine lv_aload_n hx hb dX4_nameFrom_20 rfl (lv_at hl 0 rfl) ?_
    refine lv_iload_n hx hb dX4_nameFrom_21 rfl (lv_at hl 2 rfl) ?_
    refine gcall_i (va_runV (As := [.int p2]) (rest := []) ⟨hx, hb, hml, hown, hts⟩ (c_X4_go l D cI V mh m_te m_size m_re m_len m_kn m_bg m_en m_dp m_nm m_sz m_aa m_asz m_elements m_most m_values m_place m_phase m_state m_begin (nI t) m_refr m_tag m_tagsz m_quote m_chars m_brackets m_matched m_number m_fault np no na t H.size p2) (cwV 1 hts (tb_goodV kk_3_88 kk_3_90 kk_0_24 kk_1_6 kk_3_91) rfl rfl rfl (hdV_X4_go) ⟨Nat.le_of_ble_eq_true rfl, Nat.le_of_ble_eq_true rfl⟩) (gpreV hK hN hV hS hA hP hD [0] rfl rfl (by decide) (va_recv hK hP (ci := 4) (q0 := 0) rfl rfl)) rfl rfl hl.1 rfl (lv_room (Nat.le_of_ble_eq_true rfl)) dX4_nameFrom_22 ⟨Nat.le_of_ble_eq_true rfl, Nat.le_of_ble_eq_true rfl⟩) hP hD hS hA [0] [] (wr := []) rfl rfl (by decide) (by decide) (fun r_3 u_4 H locs hw_22 hP hD hS => ?_)
    try dsimp only at hw_22
    have hP : va_P D classes [(mh, .inr (4, [.ref m_te, .int m_size, .ref m_re, .int m_len, .int (nI np), .ref m_kn, .ref m_bg, .ref m_en, .ref m_dp, .int (nI no), .ref m_nm, .ref m_sz, .int (nI na), .ref m_aa, .ref m_asz, .int m_elements, .int m_most, .int m_values, .int m_place, .int m_phase, .int p2, .int (nI t), .int m_begin, .int (nI t), .int m_refr, .int m_tag, .int m_tagsz, .int m_quote, .int m_chars, .int m_brackets, .int m_matched, .long m_number, .int m_fault]))] H := hP
    have hD : va_D A [(mh, .inr (4, [.ref m_te, .int m_size, .ref m_re, .int m_len, .int (nI np), .ref m_kn, .ref m_bg, .ref m_en, .ref m_dp, .int (nI no), .ref m_nm, .ref m_sz, .int (nI na), .ref m_aa, .ref m_asz, .int m_elements, .int m_most, .int m_values, .int m_place, .int m_phase, .int p2, .int (nI t), .int m_begin, .int (nI t), .int m_refr, .int m_tag, .int m_tagsz, .int m_quote, .int m_chars, .int m_brackets, .int m_matched, .long m_number, .int m_fault]))] := hD
    have hP9 := hP.sub (ws' := [(mh, .inr (4, [.ref m_te, .int m_size, .ref m_re, .int m_len, .int (nI np), .ref m_kn, .ref m_bg, .ref m_en, .ref m_dp, .int (nI no), .ref m_nm, .ref m_sz, .int (nI na), .ref m_aa, .ref m_asz, .int m_elements, .int m_most, .int m_values, .int m_place, .int m_phase, .int p2, .int (nI t), .int m_begin, .int (nI t), .int m_refr, .int m_tag, .int m_tagsz, .int m_quote, .int m_chars, .int m_brackets, .int m_matched, .long m_number, .int m_fault]))]) [0] rfl
    have hD9 := hD.sub (ws' := [(mh, .inr (4, [.ref m_te, .int m_size, .ref m_re, .int m_len, .int (nI np), .ref m_kn, .ref m_bg, .ref m_en, .ref m_dp, .int (nI no), .ref m_nm, .ref m_sz, .int (nI na), .ref m_aa, .ref m_asz, .int m_elements, .int m_most, .int m_values, .int m_place, .int m_phase, .int p2, .int (nI t), .int m_begin, .int (nI t), .int m_refr, .int m_tag, .int m_tagsz, .int m_quote, .int m_chars, .int m_brackets, .int m_matched, .long m_number, .int m_fault]))]) [0] (by decide) rfl
    exact W.iret (v := r_3) hx hb hr (fun t9 ht9 hW => ⟨⟨r_3, (p2, (nI t), m_place, m_fault), rfl, fun _ => ⟨rfl, rfl⟩, by rw [ht9]; exact hP9, va_K.moved hW.alike hK, hD9⟩, hS.F ht9⟩) hS.2.2 dX4_nameFrom_25
  · skip
    refine lv_aload_n hx hb dX4_nameFrom_7 rfl (lv_at hl 0 rfl) ?_
    refine gcall_i (va_runV (As := []) (rest := []) ⟨hx, hb, hml, hown, hts⟩ (c_X4_wrong_w l D cI V mh m_te m_size m_re m_len m_kn m_bg m_en m_dp m_nm m_sz m_aa m_asz m_elements m_most m_values m_place m_phase m_state m_begin m_name m_refr m_tag m_tagsz m_quote m_chars m_brackets m_matched m_number m_fault np no na t H.size ) (cwV 0 hts (tb_goodV kk_3_92 kk_3_94 kk_0_25 kk_1_6 kk_3_95) rfl rfl rfl (hdV_X4_wrong) ⟨Nat.le_of_ble_eq_true rfl, Nat.le_of_ble_eq_true rfl⟩) (gpreV hK hN hV hS hA hP hD [0] rfl rfl (by decide) (va_recv hK hP (ci := 4) (q0 := 0) rfl rfl)) rfl rfl hl.1 rfl (lv_room (Nat.le_of_ble_eq_true rfl)) dX4_nameFrom_8 ⟨Nat.le_of_ble_eq_true rfl, Nat.le_of_ble_eq_true rfl⟩) hP hD hS hA [0] [] (wr := []) rfl rfl (by decide) (by decide) (fun r_5 u_6 H locs hw_8 hP hD hS => ?_)
    try dsimp only at hw_8
    have hP : va_P D classes [(mh, .inr (4, [.ref m_te, .int m_size, .ref m_re, .int m_len, .int (nI np), .ref m_kn, .ref m_bg, .ref m_en, .ref m_dp, .int (nI no), .ref m_nm, .ref m_sz, .int (nI na), .ref m_aa, .ref m_asz, .int m_elements, .int m_most, .int m_values, .int (nI t), .int m_phase, .int m_state, .int (nI t), .int m_begin, .int m_name, .int m_refr, .int m_tag, .int m_tagsz, .int m_quote, .int m_chars, .int m_brackets, .int m_matched, .long m_number, .int 2]))] H := hP
    have hD : va_D A [(mh, .inr (4, [.ref m_te, .int m_size, .ref m_re, .int m_len, .int (nI np), .ref m_kn, .ref m_bg, .ref m_en, .ref m_dp, .int (nI no), .ref m_nm, .ref m_sz, .int (nI na), .ref m_aa, .ref m_asz, .int m_elements, .int m_most, .int m_values, .int (nI t), .int m_phase, .int m_state, .int (nI t), .int m_begin, .int m_name, .int m_refr, .int m_tag, .int m_tagsz, .int m_quote, .int m_chars, .int m_brackets, .int m_matched, .long m_number, .int 2]))] := hD
    have hP9 := hP.sub (ws' := [(mh, .inr (4, [.ref m_te, .int m_size, .ref m_re, .int m_len, .int (nI np), .ref m_kn, .ref m_bg, .ref m_en, .ref m_dp, .int (nI no), .ref m_nm, .ref m_sz, .int (nI na), .ref m_aa, .ref m_asz, .int m_elements, .int m_most, .int m_values, .int (nI t), .int m_phase, .int m_state, .int (nI t), .int m_begin, .int m_name, .int m_refr, .int m_tag, .int m_tagsz, .int m_quote, .int m_chars, .int m_brackets, .int m_matched, .long m_number, .int 2]))]) [0] rfl
    have hD9 := hD.sub (ws' := [(mh, .inr (4, [.ref m_te, .int m_size, .ref m_re, .int m_len, .int (nI np), .ref m_kn, .ref m_bg, .ref m_en, .ref m_dp, .int (nI no), .ref m_nm, .ref m_sz, .int (nI na), .ref m_aa, .ref m_asz, .int m_elements, .int m_most, .int m_values, .int (nI t), .int m_phase, .int m_state, .int (nI t), .int m_begin, .int m_name, .int m_refr, .int m_tag, .int m_tagsz, .int m_quote, .int m_chars, .int m_brackets, .int m_matched, .long m_number, .int 2]))]) [0] (by decide) rfl
    exact W.iret (v := r_5) hx hb hr (fun t9 ht9 hW => ⟨⟨r_5, (m_state, m_name, (nI t), 2), rfl, fun q => absurd (hw_8.symm.trans q) (by decide), by rw [ht9]; exact hP9, va_K.moved hW.alike hK, hD9⟩, hS.F ht9⟩) hS.2.2 dX4_nameFrom_11

set_option maxHeartbeats 4000000 in
set_option maxRecDepth 100000 in
/-- X4_refer -/
theorem c_X4_refer (l : Launch) (D : va_G) (cI : ClassId) (V : (Nat → Nat) × (Nat → Nat)) (mh : Nat) (m_te : Nat) (m_size : Int32) (m_re : Nat) (m_len : Int32) (m_kn : Nat) (m_bg : Nat) (m_en : Nat) (m_dp : Nat) (m_nm : Nat) (m_sz : Nat) (m_aa : Nat) (m_asz : Nat) (m_elements : Int32) (m_most : Int32) (m_values : Int32) (m_place : Int32) (m_phase : Int32) (m_state : Int32) (m_begin : Int32) (m_name : Int32) (m_refr : Int32) (m_tag : Int32) (m_tagsz : Int32) (m_quote : Int32) (m_chars : Int32) (m_brackets : Int32) (m_matched : Int32) (m_number : Int64) (m_fault : Int32) (np : Nat) (no : Nat) (na : Nat) (t : Nat) (sz : Nat) (p1 : Int32)  : Met l yX4_refer (.code yX4_refer cX4_refer 2 (some .int) :: tbW) ({ frames := 3, cells := 0, slots := 0, locals := 64 }) (va_Pc [.ref mh, .int p1] (gP D cI V [(mh, .inr (4, [.ref m_te, .int m_size, .ref m_re, .int m_len, .int (nI np), .ref m_kn, .ref m_bg, .ref m_en, .ref m_dp, .int (nI no), .ref m_nm, .ref m_sz, .int (nI na), .ref m_aa, .ref m_asz, .int m_elements, .int m_most, .int m_values, .int m_place, .int m_phase, .int m_state, .int (nI t), .int m_begin, .int m_name, .int m_refr, .int m_tag, .int m_tagsz, .int m_quote, .int m_chars, .int m_brackets, .int m_matched, .long m_number, .int m_fault]))] sz)) (va_Qi (fun (r : Int32) (u : Int32 × Int32 × Int32 × Int32 × Int64) => r = 0 → u.1 = 62 ∨ (u.1 = 61 ∧ u.2.1 = nI t)) (fun u => gB D cI (va_A [(mh, .inr (4, [.ref m_te, .int m_size, .ref m_re, .int m_len, .int (nI np), .ref m_kn, .ref m_bg, .ref m_en, .ref m_dp, .int (nI no), .ref m_nm, .ref m_sz, .int (nI na), .ref m_aa, .ref m_asz, .int m_elements, .int m_most, .int m_values, .int m_place, .int m_phase, .int m_state, .int (nI t), .int m_begin, .int m_name, .int m_refr, .int m_tag, .int m_tagsz, .int m_quote, .int m_chars, .int m_brackets, .int m_matched, .long m_number, .int m_fault]))] sz) [(mh, .inr (4, [.ref m_te, .int m_size, .ref m_re, .int m_len, .int (nI np), .ref m_kn, .ref m_bg, .ref m_en, .ref m_dp, .int (nI no), .ref m_nm, .ref m_sz, .int (nI na), .ref m_aa, .ref m_asz, .int m_elements, .int m_most, .int m_values, .int u.2.2.1, .int m_phase, .int u.1, .int (nI t), .int m_begin, .int u.2.1, .int m_refr, .int m_tag, .int m_tagsz, .int m_quote, .int m_chars, .int m_brackets, .int m_matched, .long u.2.2.2.2, .int u.2.2.2.1]))]) (va_A [(mh, .inr (4, [.ref m_te, .int m_size, .ref m_re, .int m_len, .int (nI np), .ref m_kn, .ref m_bg, .ref m_en, .ref m_dp, .int (nI no), .ref m_nm, .ref m_sz, .int (nI na), .ref m_aa, .ref m_asz, .int m_elements, .int m_most, .int m_values, .int m_place, .int m_phase, .int m_state, .int (nI t), .int m_begin, .int m_name, .int m_refr, .int m_tag, .int m_tagsz, .int m_quote, .int m_chars, .int m_brackets, .int m_matched, .long m_number, .int m_fault]))] sz)) 0 0 (va_A [(mh, .inr (4, [.ref m_te, .int m_size, .ref m_re, .int m_len, .int (nI np), .ref m_kn, .ref m_bg, .ref m_en, .ref m_dp, .int (nI no), .ref m_nm, .ref m_sz, .int (nI na), .ref m_aa, .ref m_asz, .int m_elements, .int m_most, .int m_values, .int m_place, .int m_phase, .int m_state, .int (nI t), .int m_begin, .int m_name, .int m_refr, .int m_tag, .int m_tagsz, .int m_quote, .int m_chars, .int m_brackets, .int m_matched, .long m_number, .int m_fault]))] sz) := by
  refine Met.ofW (cc := cX4_refer) (maxL := 2) (ret := (some .int)) (by decide) rfl ?_
  intro p e s m args below meth c s₁ B hml hv
  obtain ⟨rfl, hsz, hP, hK, hD0, hN, hV⟩ := hv
  have hx := B.exec
  have hb := B.bytes
  have hr := B.returns
  have hts := tb_hts (atoms_spec (ws := .code yX4_refer cX4_refer 2 (some .int) :: tbW) B.pre)
  have hown : s.vm.findClass RX4 = some m.cls := findClass_of_methodNamed B.named
  have hlocks := B.notSynchronized
  subst hsz
  have hD := hD0.self (sz := s.heap.size)
  generalize hAe : va_A [(mh, .inr (4, [.ref m_te, .int m_size, .ref m_re, .int m_len, .int (nI np), .ref m_kn, .ref m_bg, .ref m_en, .ref m_dp, .int (nI no), .ref m_nm, .ref m_sz, .int (nI na), .ref m_aa, .ref m_asz, .int m_elements, .int m_most, .int m_values, .int m_place, .int m_phase, .int m_state, .int (nI t), .int m_begin, .int m_name, .int m_refr, .int m_tag, .int m_tagsz, .int m_quote, .int m_chars, .int m_brackets, .int m_matched, .long m_number, .int m_fault]))] s.heap.size = A at hD hV ⊢
  have hA : ∀ q : Nat, s.heap.size ≤ q → A q := fun q h => by rw [← hAe]; exact Or.inr h
  have hS : va_S A s.heap s.heap [] := va_S.rf
  have hP : va_P D classes [(mh, .inr (4, [.ref m_te, .int m_size, .ref m_re, .int m_len, .int (nI np), .ref m_kn, .ref m_bg, .ref m_en, .ref m_dp, .int (nI no), .ref m_nm, .ref m_sz, .int (nI na), .ref m_aa, .ref m_asz, .int m_elements, .int m_most, .int m_values, .int m_place, .int m_phase, .int m_state, .int (nI t), .int m_begin, .int m_name, .int m_refr, .int m_tag, .int m_tagsz, .int m_quote, .int m_chars, .int m_brackets, .int m_matched, .long m_number, .int m_fault]))] s.heap := hP
  have hl := lv_entry ([.ref mh, .int p1]) (n := 2) (Nat.le_of_ble_eq_true rfl)
  rw [lg_entry_eq]
  generalize (lg_sl ([.ref mh, .int p1]) ++ List.replicate (2 - (lg_sl ([.ref mh, .int p1])).length) Slot.unset).toArray = ls at hl ⊢
  have hl : lv_has ls 2 [(0, .ref mh), (1, .int p1)] := hl
  refine lv_aload_n hx hb dX4_refer_0 rfl (lv_at hl 0 rfl) ?_
  refine lv_lconst (v := 0) hx hb dX4_refer_1 (by decide) ?_
  refine va_put (D := D) (ci := 4) (v := .long 0) (ty := .long) (C := RX4) (T := TX4) (N := 33) hx hb hts inX4 tyX4 tyX4_ok nmX4 hown hK hP hD hS 0 rfl rfl 31 (by decide) (hts (Cond.fieldLink "NestedTagsModel" 175 "NestedTagsModel" "number" "J") kk_3_3) (fun _ h9 => h9) rfl (tyX4_ok 31 (by decide)) rfl rfl (Nat.le_of_ble_eq_true rfl) dX4_refer_2 (fun H locs hP hD hS => ?_)
  have hP : va_P D classes [(mh, .inr (4, [.ref m_te, .int m_size, .ref m_re, .int m_len, .int (nI np), .ref m_kn, .ref m_bg, .ref m_en, .ref m_dp, .int (nI no), .ref m_nm, .ref m_sz, .int (nI na), .ref m_aa, .ref m_asz, .int m_elements, .int m_most, .int m_values, .int m_place, .int m_phase, .int m_state, .int (nI t), .int m_begin, .int m_name, .int m_refr, .int m_tag, .int m_tagsz, .int m_quote, .int m_chars, .int m_brackets, .int m_matched, .long 0, .int m_fault]))] H := hP
  have hD : va_D A [(mh, .inr (4, [.ref m_te, .int m_size, .ref m_re, .int m_len, .int (nI np), .ref m_kn, .ref m_bg, .ref m_en, .ref m_dp, .int (nI no), .ref m_nm, .ref m_sz, .int (nI na), .ref m_aa, .ref m_asz, .int m_elements, .int m_most, .int m_values, .int m_place, .int m_phase, .int m_state, .int (nI t), .int m_begin, .int m_name, .int m_refr, .int m_tag, .int m_tagsz, .int m_quote, .int m_chars, .int m_brackets, .int m_matched, .long 0, .int m_fault]))] := hD
  refine lv_iload_n hx hb dX4_refer_5 rfl (lv_at hl 1 rfl) ?_
  refine lv_bipush (v := 35) hx hb dX4_refer_6 (by decide) ?_
  refine lv_icmp_ne (tgt := 18) hx hb dX4_refer_8 (by decide) (fun c_8 => ?_) (fun c_8 => ?_)
  · skip
    refine lv_aload_n hx hb dX4_refer_18 rfl (lv_at hl 0 rfl) ?_
    refine lv_iload_n hx hb dX4_refer_19 rfl (lv_at hl 1 rfl) ?_
    refine lv_bipush (v := 61) hx hb dX4_refer_20 (by decide) ?_
    refine gcall_i (va_runV (As := [.int p1, .int 61]) (rest := []) ⟨hx, hb, hml, hown, hts⟩ (c_X4_nameFrom l D cI V mh m_te m_size m_re m_len m_kn m_bg m_en m_dp m_nm m_sz m_aa m_asz m_elements m_most m_values m_place m_phase m_state m_begin m_name m_refr m_tag m_tagsz m_quote m_chars m_brackets m_matched 0 m_fault np no na t H.size p1 61) (cwV 2 hts (tb_goodV kk_3_126 kk_3_128 kk_0_32 kk_1_6 kk_3_129) rfl rfl rfl (hdV_X4_nameFrom) ⟨Nat.le_of_ble_eq_true rfl, Nat.le_of_ble_eq_true rfl⟩) (gpreV hK hN hV hS hA hP hD [0] rfl rfl (by decide) (va_recv hK hP (ci := 4) (q0 := 0) rfl rfl)) rfl rfl hl.1 rfl (lv_room (Nat.le_of_ble_eq_true rfl)) dX4_refer_22 ⟨Nat.le_of_ble_eq_true rfl, Nat.le_of_ble_eq_true rfl⟩) hP hD hS hA [0] [] (wr := []) rfl rfl (by decide) (by decide) (fun r_1 u_2 H locs hw_22 hP hD hS => ?_)
    try dsimp only at hw_22
    have hP : va_P D classes [(mh, .inr (4, [.ref m_te, .int m_size, .ref m_re, .int m_len, .int (nI np), .ref m_kn, .ref m_bg, .ref m_en, .ref m_dp, .int (nI no), .ref m_nm, .ref m_sz, .int (nI na), .ref m_aa, .ref m_asz, .int m_elements, .int m_most, .int m_values, .int u_2.2.2.1, .int m_phase, .int u_2.1, .int (nI t), .int m_begin, .int u_2.2.1, .int m_refr, .int m_tag, .int m_tagsz, .int m_quote, .int m_chars, .int m_brackets, .int m_matched, .long 0, .int u_2.2.2.2]))] H := hP
    have hD : va_D A [(mh, .inr (4, [.ref m_te, .int m_size, .ref m_re, .int m_len, .int (nI np), .ref m_kn, .ref m_bg, .ref m_en, .ref m_dp, .int (nI no), .ref m_nm, .ref m_sz, .int (nI na), .ref m_aa, .ref m_asz, .int m_elements, .int m_most, .int m_values, .int u_2.2.2.1, .int m_phase, .int u_2.1, .int (nI t), .int m_begin, .int u_2.2.1, .int m_refr, .int m_tag, .int m_tagsz, .int m_quote, .int m_chars, .int m_brackets, .int m_matched, .long 0, .int u_2.2.2.2]))] := hD
    have hP9 := hP.sub (ws' := [(mh, .inr (4, [.ref m_te, .int m_size, .ref m_re, .int m_len, .int (nI np), .ref m_kn, .ref m_bg, .ref m_en, .ref m_dp, .int (nI no), .ref m_nm, .ref m_sz, .int (nI na), .ref m_aa, .ref m_asz, .int m_elements, .int m_most, .int m_values, .int u_2.2.2.1, .int m_phase, .int u_2.1, .int (nI t), .int m_begin, .int u_2.2.1, .int m_refr, .int m_tag, .int m_tagsz, .int m_quote, .int m_chars, .int m_brackets, .int m_matched, .long 0, .int u_2.2.2.2]))]) [0] rfl
    have hD9 := hD.sub (ws' := [(mh, .inr (4, [.ref m_te, .int m_size, .ref m_re, .int m_len, .int (nI np), .ref m_kn, .ref m_bg, .ref m_en, .ref m_dp, .int (nI no), .ref m_nm, .ref m_sz, .int (nI na), .ref m_aa, .ref m_asz, .int m_elements, .int m_most, .int m_values, .int u_2.2.2.1, .int m_phase, .int u_2.1, .int (nI t), .int m_begin, .int u_2.2.1, .int m_refr, .int m_tag, .int m_tagsz, .int m_quote, .int m_chars, .int m_brackets, .int m_matched, .long 0, .int u_2.2.2.2]))]) [0] (by decide) rfl
    exact W.iret (v := r_1) hx hb hr (fun t9 ht9 hW => ⟨⟨r_1, (u_2.1, u_2.2.1, u_2.2.2.1, u_2.2.2.2, 0), rfl, fun q => Or.inr (hw_22 q), by rw [ht9]; exact hP9, va_K.moved hW.alike hK, hD9⟩, hS.F ht9⟩) hS.2.2 dX4_refer_25
  · skip
    refine lv_aload_n hx hb dX4_refer_11 rfl (lv_at hl 0 rfl) ?_
    refine lv_bipush (v := 62) hx hb dX4_refer_12 (by decide) ?_
    refine gcall_i (va_runV (As := [.int 62]) (rest := []) ⟨hx, hb, hml, hown, hts⟩ (c_X4_go l D cI V mh m_te m_size m_re m_len m_kn m_bg m_en m_dp m_nm m_sz m_aa m_asz m_elements m_most m_values m_place m_phase m_state m_begin m_name m_refr m_tag m_tagsz m_quote m_chars m_brackets m_matched 0 m_fault np no na t H.size 62) (cwV 1 hts (tb_goodV kk_3_88 kk_3_90 kk_0_24 kk_1_6 kk_3_91) rfl rfl rfl (hdV_X4_go) ⟨Nat.le_of_ble_eq_true rfl, Nat.le_of_ble_eq_true rfl⟩) (gpreV hK hN hV hS hA hP hD [0] rfl rfl (by decide) (va_recv hK hP (ci := 4) (q0 := 0) rfl rfl)) rfl rfl hl.1 rfl (lv_room (Nat.le_of_ble_eq_true rfl)) dX4_refer_14 ⟨Nat.le_of_ble_eq_true rfl, Nat.le_of_ble_eq_true rfl⟩) hP hD hS hA [0] [] (wr := []) rfl rfl (by decide) (by decide) (fun r_3 u_4 H locs hw_14 hP hD hS => ?_)
    try dsimp only at hw_14
    have hP : va_P D classes [(mh, .inr (4, [.ref m_te, .int m_size, .ref m_re, .int m_len, .int (nI np), .ref m_kn, .ref m_bg, .ref m_en, .ref m_dp, .int (nI no), .ref m_nm, .ref m_sz, .int (nI na), .ref m_aa, .ref m_asz, .int m_elements, .int m_most, .int m_values, .int m_place, .int m_phase, .int 62, .int (nI t), .int m_begin, .int m_name, .int m_refr, .int m_tag, .int m_tagsz, .int m_quote, .int m_chars, .int m_brackets, .int m_matched, .long 0, .int m_fault]))] H := hP
    have hD : va_D A [(mh, .inr (4, [.ref m_te, .int m_size, .ref m_re, .int m_len, .int (nI np), .ref m_kn, .ref m_bg, .ref m_en, .ref m_dp, .int (nI no), .ref m_nm, .ref m_sz, .int (nI na), .ref m_aa, .ref m_asz, .int m_elements, .int m_most, .int m_values, .int m_place, .int m_phase, .int 62, .int (nI t), .int m_begin, .int m_name, .int m_refr, .int m_tag, .int m_tagsz, .int m_quote, .int m_chars, .int m_brackets, .int m_matched, .long 0, .int m_fault]))] := hD
    have hP9 := hP.sub (ws' := [(mh, .inr (4, [.ref m_te, .int m_size, .ref m_re, .int m_len, .int (nI np), .ref m_kn, .ref m_bg, .ref m_en, .ref m_dp, .int (nI no), .ref m_nm, .ref m_sz, .int (nI na), .ref m_aa, .ref m_asz, .int m_elements, .int m_most, .int m_values, .int m_place, .int m_phase, .int 62, .int (nI t), .int m_begin, .int m_name, .int m_refr, .int m_tag, .int m_tagsz, .int m_quote, .int m_chars, .int m_brackets, .int m_matched, .long 0, .int m_fault]))]) [0] rfl
    have hD9 := hD.sub (ws' := [(mh, .inr (4, [.ref m_te, .int m_size, .ref m_re, .int m_len, .int (nI np), .ref m_kn, .ref m_bg, .ref m_en, .ref m_dp, .int (nI no), .ref m_nm, .ref m_sz, .int (nI na), .ref m_aa, .ref m_asz, .int m_elements, .int m_most, .int m_values, .int m_place, .int m_phase, .int 62, .int (nI t), .int m_begin, .int m_name, .int m_refr, .int m_tag, .int m_tagsz, .int m_quote, .int m_chars, .int m_brackets, .int m_matched, .long 0, .int m_fault]))]) [0] (by decide) rfl
    exact W.iret (v := r_3) hx hb hr (fun t9 ht9 hW => ⟨⟨r_3, (62, m_name, m_place, m_fault, 0), rfl, fun _ => Or.inl (rfl), by rw [ht9]; exact hP9, va_K.moved hW.alike hK, hD9⟩, hS.F ht9⟩) hS.2.2 dX4_refer_17

set_option maxHeartbeats 4000000 in
set_option maxRecDepth 100000 in
/-- X4_equal -/
theorem c_X4_equal (l : Launch) (D : va_G) (cI : ClassId) (V : (Nat → Nat) × (Nat → Nat)) (mh : Nat) (m_te : Nat) (m_size : Int32) (m_re : Nat) (m_len : Int32) (m_kn : Nat) (m_bg : Nat) (m_en : Nat) (m_dp : Nat) (m_nm : Nat) (m_sz : Nat) (m_aa : Nat) (m_asz : Nat) (m_elements : Int32) (m_most : Int32) (m_values : Int32) (m_place : Int32) (m_phase : Int32) (m_state : Int32) (m_begin : Int32) (m_name : Int32) (m_refr : Int32) (m_tag : Int32) (m_tagsz : Int32) (m_quote : Int32) (m_chars : Int32) (m_brackets : Int32) (m_matched : Int32) (m_number : Int64) (m_fault : Int32) (np : Nat) (no : Nat) (na : Nat) (t : Nat) (sz : Nat) (p1 : Int32)  : Met l yX4_equal (.code yX4_equal cX4_equal 2 (some .int) :: tbW) ({ frames := 2, cells := 0, slots := 0, locals := 42 }) (va_Pc [.ref mh, .int p1] (gP D cI V [(mh, .inr (4, [.ref m_te, .int m_size, .ref m_re, .int m_len, .int (nI np), .ref m_kn, .ref m_bg, .ref m_en, .ref m_dp, .int (nI no), .ref m_nm, .ref m_sz, .int (nI na), .ref m_aa, .ref m_asz, .int m_elements, .int m_most, .int m_values, .int m_place, .int m_phase, .int m_state, .int (nI t), .int m_begin, .int m_name, .int m_refr, .int m_tag, .int m_tagsz, .int m_quote, .int m_chars, .int m_brackets, .int m_matched, .long m_number, .int m_fault]))] sz)) (va_Qi (fun (r : Int32) (u : Int32 × Int32 × Int32) => r = 0 → u.1 = 34 ∨ u.1 = 35) (fun u => gB D cI (va_A [(mh, .inr (4, [.ref m_te, .int m_size, .ref m_re, .int m_len, .int (nI np), .ref m_kn, .ref m_bg, .ref m_en, .ref m_dp, .int (nI no), .ref m_nm, .ref m_sz, .int (nI na), .ref m_aa, .ref m_asz, .int m_elements, .int m_most, .int m_values, .int m_place, .int m_phase, .int m_state, .int (nI t), .int m_begin, .int m_name, .int m_refr, .int m_tag, .int m_tagsz, .int m_quote, .int m_chars, .int m_brackets, .int m_matched, .long m_number, .int m_fault]))] sz) [(mh, .inr (4, [.ref m_te, .int m_size, .ref m_re, .int m_len, .int (nI np), .ref m_kn, .ref m_bg, .ref m_en, .ref m_dp, .int (nI no), .ref m_nm, .ref m_sz, .int (nI na), .ref m_aa, .ref m_asz, .int m_elements, .int m_most, .int m_values, .int u.2.1, .int m_phase, .int u.1, .int (nI t), .int m_begin, .int m_name, .int m_refr, .int m_tag, .int m_tagsz, .int m_quote, .int m_chars, .int m_brackets, .int m_matched, .long m_number, .int u.2.2]))]) (va_A [(mh, .inr (4, [.ref m_te, .int m_size, .ref m_re, .int m_len, .int (nI np), .ref m_kn, .ref m_bg, .ref m_en, .ref m_dp, .int (nI no), .ref m_nm, .ref m_sz, .int (nI na), .ref m_aa, .ref m_asz, .int m_elements, .int m_most, .int m_values, .int m_place, .int m_phase, .int m_state, .int (nI t), .int m_begin, .int m_name, .int m_refr, .int m_tag, .int m_tagsz, .int m_quote, .int m_chars, .int m_brackets, .int m_matched, .long m_number, .int m_fault]))] sz)) 0 0 (va_A [(mh, .inr (4, [.ref m_te, .int m_size, .ref m_re, .int m_len, .int (nI np), .ref m_kn, .ref m_bg, .ref m_en, .ref m_dp, .int (nI no), .ref m_nm, .ref m_sz, .int (nI na), .ref m_aa, .ref m_asz, .int m_elements, .int m_most, .int m_values, .int m_place, .int m_phase, .int m_state, .int (nI t), .int m_begin, .int m_name, .int m_refr, .int m_tag, .int m_tagsz, .int m_quote, .int m_chars, .int m_brackets, .int m_matched, .long m_number, .int m_fault]))] sz) := by
  refine Met.ofW (cc := cX4_equal) (maxL := 2) (ret := (some .int)) (by decide) rfl ?_
  intro p e s m args below meth c s₁ B hml hv
  obtain ⟨rfl, hsz, hP, hK, hD0, hN, hV⟩ := hv
  have hx := B.exec
  have hb := B.bytes
  have hr := B.returns
  have hts := tb_hts (atoms_spec (ws := .code yX4_equal cX4_equal 2 (some .int) :: tbW) B.pre)
  have hown : s.vm.findClass RX4 = some m.cls := findClass_of_methodNamed B.named
  have hlocks := B.notSynchronized
  subst hsz
  have hD := hD0.self (sz := s.heap.size)
  generalize hAe : va_A [(mh, .inr (4, [.ref m_te, .int m_size, .ref m_re, .int m_len, .int (nI np), .ref m_kn, .ref m_bg, .ref m_en, .ref m_dp, .int (nI no), .ref m_nm, .ref m_sz, .int (nI na), .ref m_aa, .ref m_asz, .int m_elements, .int m_most, .int m_values, .int m_place, .int m_phase, .int m_state, .int (nI t), .int m_begin, .int m_name, .int m_refr, .int m_tag, .int m_tagsz, .int m_quote, .int m_chars, .int m_brackets, .int m_matched, .long m_number, .int m_fault]))] s.heap.size = A at hD hV ⊢
  have hA : ∀ q : Nat, s.heap.size ≤ q → A q := fun q h => by rw [← hAe]; exact Or.inr h
  have hS : va_S A s.heap s.heap [] := va_S.rf
  have hP : va_P D classes [(mh, .inr (4, [.ref m_te, .int m_size, .ref m_re, .int m_len, .int (nI np), .ref m_kn, .ref m_bg, .ref m_en, .ref m_dp, .int (nI no), .ref m_nm, .ref m_sz, .int (nI na), .ref m_aa, .ref m_asz, .int m_elements, .int m_most, .int m_values, .int m_place, .int m_phase, .int m_state, .int (nI t), .int m_begin, .int m_name, .int m_refr, .int m_tag, .int m_tagsz, .int m_quote, .int m_chars, .int m_brackets, .int m_matched, .long m_number, .int m_fault]))] s.heap := hP
  have hl := lv_entry ([.ref mh, .int p1]) (n := 2) (Nat.le_of_ble_eq_true rfl)
  rw [lg_entry_eq]
  generalize (lg_sl ([.ref mh, .int p1]) ++ List.replicate (2 - (lg_sl ([.ref mh, .int p1])).length) Slot.unset).toArray = ls at hl ⊢
  have hl : lv_has ls 2 [(0, .ref mh), (1, .int p1)] := hl
  refine lv_iload_n hx hb dX4_equal_0 rfl (lv_at hl 1 rfl) ?_
  refine gcall_i (va_runS (As := [.int p1]) (rest := []) ⟨hx, hb, hml, hown, hts⟩ (c_X4_isBlank l D cI V  s.heap.size p1) (va_cwS 1 hts (tb_goodS kk_3_85 kk_3_86 kk_1_6 kk_3_87) rfl rfl rfl (hdS_X4_isBlank) ⟨Nat.le_of_ble_eq_true rfl, Nat.le_of_ble_eq_true rfl⟩) (gpreS hK hN hV hS hA hP hD [] rfl rfl (by decide)) rfl rfl hl.1 rfl (lv_room (Nat.le_of_ble_eq_true rfl)) dX4_equal_1 ⟨Nat.le_of_ble_eq_true rfl, Nat.le_of_ble_eq_true rfl⟩) hP hD hS hA [] [0] (wr := [(mh, .inr (4, [.ref m_te, .int m_size, .ref m_re, .int m_len, .int (nI np), .ref m_kn, .ref m_bg, .ref m_en, .ref m_dp, .int (nI no), .ref m_nm, .ref m_sz, .int (nI na), .ref m_aa, .ref m_asz, .int m_elements, .int m_most, .int m_values, .int m_place, .int m_phase, .int m_state, .int (nI t), .int m_begin, .int m_name, .int m_refr, .int m_tag, .int m_tagsz, .int m_quote, .int m_chars, .int m_brackets, .int m_matched, .long m_number, .int m_fault]))]) rfl rfl (by decide) (by decide) (fun r_1 u_2 H locs hw_1 hP hD hS => ?_)
  try dsimp only at hw_1
  have hP : va_P D classes [(mh, .inr (4, [.ref m_te, .int m_size, .ref m_re, .int m_len, .int (nI np), .ref m_kn, .ref m_bg, .ref m_en, .ref m_dp, .int (nI no), .ref m_nm, .ref m_sz, .int (nI na), .ref m_aa, .ref m_asz, .int m_elements, .int m_most, .int m_values, .int m_place, .int m_phase, .int m_state, .int (nI t), .int m_begin, .int m_name, .int m_refr, .int m_tag, .int m_tagsz, .int m_quote, .int m_chars, .int m_brackets, .int m_matched, .long m_number, .int m_fault]))] H := hP
  have hD : va_D A [(mh, .inr (4, [.ref m_te, .int m_size, .ref m_re, .int m_len, .int (nI np), .ref m_kn, .ref m_bg, .ref m_en, .ref m_dp, .int (nI no), .ref m_nm, .ref m_sz, .int (nI na), .ref m_aa, .ref m_asz, .int m_elements, .int m_most, .int m_values, .int m_place, .int m_phase, .int m_state, .int (nI t), .int m_begin, .int m_name, .int m_refr, .int m_tag, .int m_tagsz, .int m_quote, .int m_chars, .int m_brackets, .int m_matched, .long m_number, .int m_fault]))] := hD
  refine lv_if_eq (tgt := 16) hx hb dX4_equal_4 (by decide) (fun c_4 => ?_) (fun c_4 => ?_)
  · skip
    refine lv_iload_n hx hb dX4_equal_16 rfl (lv_at hl 1 rfl) ?_
    refine lv_bipush (v := 61) hx hb dX4_equal_17 (by decide) ?_
    refine lv_icmp_ne (tgt := 31) hx hb dX4_equal_19 (by decide) (fun c_19 => ?_) (fun c_19 => ?_)
    · skip
      refine lv_aload_n hx hb dX4_equal_31 rfl (lv_at hl 0 rfl) ?_
      refine gcall_i (va_runV (As := []) (rest := []) ⟨hx, hb, hml, hown, hts⟩ (c_X4_wrong_w l D cI V mh m_te m_size m_re m_len m_kn m_bg m_en m_dp m_nm m_sz m_aa m_asz m_elements m_most m_values m_place m_phase m_state m_begin m_name m_refr m_tag m_tagsz m_quote m_chars m_brackets m_matched m_number m_fault np no na t H.size ) (cwV 0 hts (tb_goodV kk_3_92 kk_3_94 kk_0_25 kk_1_6 kk_3_95) rfl rfl rfl (hdV_X4_wrong) ⟨Nat.le_of_ble_eq_true rfl, Nat.le_of_ble_eq_true rfl⟩) (gpreV hK hN hV hS hA hP hD [0] rfl rfl (by decide) (va_recv hK hP (ci := 4) (q0 := 0) rfl rfl)) rfl rfl hl.1 rfl (lv_room (Nat.le_of_ble_eq_true rfl)) dX4_equal_32 ⟨Nat.le_of_ble_eq_true rfl, Nat.le_of_ble_eq_true rfl⟩) hP hD hS hA [0] [] (wr := []) rfl rfl (by decide) (by decide) (fun r_3 u_4 H locs hw_32 hP hD hS => ?_)
      try dsimp only at hw_32
      have hP : va_P D classes [(mh, .inr (4, [.ref m_te, .int m_size, .ref m_re, .int m_len, .int (nI np), .ref m_kn, .ref m_bg, .ref m_en, .ref m_dp, .int (nI no), .ref m_nm, .ref m_sz, .int (nI na), .ref m_aa, .ref m_asz, .int m_elements, .int m_most, .int m_values, .int (nI t), .int m_phase, .int m_state, .int (nI t), .int m_begin, .int m_name, .int m_refr, .int m_tag, .int m_tagsz, .int m_quote, .int m_chars, .int m_brackets, .int m_matched, .long m_number, .int 2]))] H := hP
      have hD : va_D A [(mh, .inr (4, [.ref m_te, .int m_size, .ref m_re, .int m_len, .int (nI np), .ref m_kn, .ref m_bg, .ref m_en, .ref m_dp, .int (nI no), .ref m_nm, .ref m_sz, .int (nI na), .ref m_aa, .ref m_asz, .int m_elements, .int m_most, .int m_values, .int (nI t), .int m_phase, .int m_state, .int (nI t), .int m_begin, .int m_name, .int m_refr, .int m_tag, .int m_tagsz, .int m_quote, .int m_chars, .int m_brackets, .int m_matched, .long m_number, .int 2]))] := hD
      have hP9 := hP.sub (ws' := [(mh, .inr (4, [.ref m_te, .int m_size, .ref m_re, .int m_len, .int (nI np), .ref m_kn, .ref m_bg, .ref m_en, .ref m_dp, .int (nI no), .ref m_nm, .ref m_sz, .int (nI na), .ref m_aa, .ref m_asz, .int m_elements, .int m_most, .int m_values, .int (nI t), .int m_phase, .int m_state, .int (nI t), .int m_begin, .int m_name, .int m_refr, .int m_tag, .int m_tagsz, .int m_quote, .int m_chars, .int m_brackets, .int m_matched, .long m_number, .int 2]))]) [0] rfl
      have hD9 := hD.sub (ws' := [(mh, .inr (4, [.ref m_te, .int m_size, .ref m_re, .int m_len, .int (nI np), .ref m_kn, .ref m_bg, .ref m_en, .ref m_dp, .int (nI no), .ref m_nm, .ref m_sz, .int (nI na), .ref m_aa, .ref m_asz, .int m_elements, .int m_most, .int m_values, .int (nI t), .int m_phase, .int m_state, .int (nI t), .int m_begin, .int m_name, .int m_refr, .int m_tag, .int m_tagsz, .int m_quote, .int m_chars, .int m_brackets, .int m_matched, .long m_number, .int 2]))]) [0] (by decide) rfl
      exact W.iret (v := r_3) hx hb hr (fun t9 ht9 hW => ⟨⟨r_3, (m_state, (nI t), 2), rfl, fun q => absurd (hw_32.symm.trans q) (by decide), by rw [ht9]; exact hP9, va_K.moved hW.alike hK, hD9⟩, hS.F ht9⟩) hS.2.2 dX4_equal_35
    · skip
      refine lv_aload_n hx hb dX4_equal_22 rfl (lv_at hl 0 rfl) ?_
      refine lv_bipush (v := 35) hx hb dX4_equal_23 (by decide) ?_
      refine gcall_i (va_runV (As := [.int 35]) (rest := []) ⟨hx, hb, hml, hown, hts⟩ (c_X4_go l D cI V mh m_te m_size m_re m_len m_kn m_bg m_en m_dp m_nm m_sz m_aa m_asz m_elements m_most m_values m_place m_phase m_state m_begin m_name m_refr m_tag m_tagsz m_quote m_chars m_brackets m_matched m_number m_fault np no na t H.size 35) (cwV 1 hts (tb_goodV kk_3_88 kk_3_90 kk_0_24 kk_1_6 kk_3_91) rfl rfl rfl (hdV_X4_go) ⟨Nat.le_of_ble_eq_true rfl, Nat.le_of_ble_eq_true rfl⟩) (gpreV hK hN hV hS hA hP hD [0] rfl rfl (by decide) (va_recv hK hP (ci := 4) (q0 := 0) rfl rfl)) rfl rfl hl.1 rfl (lv_room (Nat.le_of_ble_eq_true rfl)) dX4_equal_25 ⟨Nat.le_of_ble_eq_true rfl, Nat.le_of_ble_eq_true rfl⟩) hP hD hS hA [0] [] (wr := []) rfl rfl (by decide) (by decide) (fun r_5 u_6 H locs hw_25 hP hD hS => ?_)
      try dsimp only at hw_25
      have hP : va_P D classes [(mh, .inr (4, [.ref m_te, .int m_size, .ref m_re, .int m_len, .int (nI np), .ref m_kn, .ref m_bg, .ref m_en, .ref m_dp, .int (nI no), .ref m_nm, .ref m_sz, .int (nI na), .ref m_aa, .ref m_asz, .int m_elements, .int m_most, .int m_values, .int m_place, .int m_phase, .int 35, .int (nI t), .int m_begin, .int m_name, .int m_refr, .int m_tag, .int m_tagsz, .int m_quote, .int m_chars, .int m_brackets, .int m_matched, .long m_number, .int m_fault]))] H := hP
      have hD : va_D A [(mh, .inr (4, [.ref m_te, .int m_size, .ref m_re, .int m_len, .int (nI np), .ref m_kn, .ref m_bg, .ref m_en, .ref m_dp, .int (nI no), .ref m_nm, .ref m_sz, .int (nI na), .ref m_aa, .ref m_asz, .int m_elements, .int m_most, .int m_values, .int m_place, .int m_phase, .int 35, .int (nI t), .int m_begin, .int m_name, .int m_refr, .int m_tag, .int m_tagsz, .int m_quote, .int m_chars, .int m_brackets, .int m_matched, .long m_number, .int m_fault]))] := hD
      refine lv_goto (tgt := 35) hx hb dX4_equal_28 (by decide) ?_
      have hP9 := hP.sub (ws' := [(mh, .inr (4, [.ref m_te, .int m_size, .ref m_re, .int m_len, .int (nI np), .ref m_kn, .ref m_bg, .ref m_en, .ref m_dp, .int (nI no), .ref m_nm, .ref m_sz, .int (nI na), .ref m_aa, .ref m_asz, .int m_elements, .int m_most, .int m_values, .int m_place, .int m_phase, .int 35, .int (nI t), .int m_begin, .int m_name, .int m_refr, .int m_tag, .int m_tagsz, .int m_quote, .int m_chars, .int m_brackets, .int m_matched, .long m_number, .int m_fault]))]) [0] rfl
      have hD9 := hD.sub (ws' := [(mh, .inr (4, [.ref m_te, .int m_size, .ref m_re, .int m_len, .int (nI np), .ref m_kn, .ref m_bg, .ref m_en, .ref m_dp, .int (nI no), .ref m_nm, .ref m_sz, .int (nI na), .ref m_aa, .ref m_asz, .int m_elements, .int m_most, .int m_values, .int m_place, .int m_phase, .int 35, .int (nI t), .int m_begin, .int m_name, .int m_refr, .int m_tag, .int m_tagsz, .int m_quote, .int m_chars, .int m_brackets, .int m_matched, .long m_number, .int m_fault]))]) [0] (by decide) rfl
      exact W.iret (v := r_5) hx hb hr (fun t9 ht9 hW => ⟨⟨r_5, (35, m_place, m_fault), rfl, fun _ => Or.inr (rfl), by rw [ht9]; exact hP9, va_K.moved hW.alike hK, hD9⟩, hS.F ht9⟩) hS.2.2 dX4_equal_35
  · skip
    refine lv_aload_n hx hb dX4_equal_7 rfl (lv_at hl 0 rfl) ?_
    refine lv_bipush (v := 34) hx hb dX4_equal_8 (by decide) ?_
    refine gcall_i (va_runV (As := [.int 34]) (rest := []) ⟨hx, hb, hml, hown, hts⟩ (c_X4_go l D cI V mh m_te m_size m_re m_len m_kn m_bg m_en m_dp m_nm m_sz m_aa m_asz m_elements m_most m_values m_place m_phase m_state m_begin m_name m_refr m_tag m_tagsz m_quote m_chars m_brackets m_matched m_number m_fault np no na t H.size 34) (cwV 1 hts (tb_goodV kk_3_88 kk_3_90 kk_0_24 kk_1_6 kk_3_91) rfl rfl rfl (hdV_X4_go) ⟨Nat.le_of_ble_eq_true rfl, Nat.le_of_ble_eq_true rfl⟩) (gpreV hK hN hV hS hA hP hD [0] rfl rfl (by decide) (va_recv hK hP (ci := 4) (q0 := 0) rfl rfl)) rfl rfl hl.1 rfl (lv_room (Nat.le_of_ble_eq_true rfl)) dX4_equal_10 ⟨Nat.le_of_ble_eq_true rfl, Nat.le_of_ble_eq_true rfl⟩) hP hD hS hA [0] [] (wr := []) rfl rfl (by decide) (by decide) (fun r_7 u_8 H locs hw_10 hP hD hS => ?_)
    try dsimp only at hw_10
    have hP : va_P D classes [(mh, .inr (4, [.ref m_te, .int m_size, .ref m_re, .int m_len, .int (nI np), .ref m_kn, .ref m_bg, .ref m_en, .ref m_dp, .int (nI no), .ref m_nm, .ref m_sz, .int (nI na), .ref m_aa, .ref m_asz, .int m_elements, .int m_most, .int m_values, .int m_place, .int m_phase, .int 34, .int (nI t), .int m_begin, .int m_name, .int m_refr, .int m_tag, .int m_tagsz, .int m_quote, .int m_chars, .int m_brackets, .int m_matched, .long m_number, .int m_fault]))] H := hP
    have hD : va_D A [(mh, .inr (4, [.ref m_te, .int m_size, .ref m_re, .int m_len, .int (nI np), .ref m_kn, .ref m_bg, .ref m_en, .ref m_dp, .int (nI no), .ref m_nm, .ref m_sz, .int (nI na), .ref m_aa, .ref m_asz, .int m_elements, .int m_most, .int m_values, .int m_place, .int m_phase, .int 34, .int (nI t), .int m_begin, .int m_name, .int m_refr, .int m_tag, .int m_tagsz, .int m_quote, .int m_chars, .int m_brackets, .int m_matched, .long m_number, .int m_fault]))] := hD
    refine lv_goto (tgt := 35) hx hb dX4_equal_13 (by decide) ?_
    have hP9 := hP.sub (ws' := [(mh, .inr (4, [.ref m_te, .int m_size, .ref m_re, .int m_len, .int (nI np), .ref m_kn, .ref m_bg, .ref m_en, .ref m_dp, .int (nI no), .ref m_nm, .ref m_sz, .int (nI na), .ref m_aa, .ref m_asz, .int m_elements, .int m_most, .int m_values, .int m_place, .int m_phase, .int 34, .int (nI t), .int m_begin, .int m_name, .int m_refr, .int m_tag, .int m_tagsz, .int m_quote, .int m_chars, .int m_brackets, .int m_matched, .long m_number, .int m_fault]))]) [0] rfl
    have hD9 := hD.sub (ws' := [(mh, .inr (4, [.ref m_te, .int m_size, .ref m_re, .int m_len, .int (nI np), .ref m_kn, .ref m_bg, .ref m_en, .ref m_dp, .int (nI no), .ref m_nm, .ref m_sz, .int (nI na), .ref m_aa, .ref m_asz, .int m_elements, .int m_most, .int m_values, .int m_place, .int m_phase, .int 34, .int (nI t), .int m_begin, .int m_name, .int m_refr, .int m_tag, .int m_tagsz, .int m_quote, .int m_chars, .int m_brackets, .int m_matched, .long m_number, .int m_fault]))]) [0] (by decide) rfl
    exact W.iret (v := r_7) hx hb hr (fun t9 ht9 hW => ⟨⟨r_7, (34, m_place, m_fault), rfl, fun _ => Or.inl (rfl), by rw [ht9]; exact hP9, va_K.moved hW.alike hK, hD9⟩, hS.F ht9⟩) hS.2.2 dX4_equal_35

set_option maxHeartbeats 4000000 in
set_option maxRecDepth 100000 in
/-- X4_bang -/
theorem c_X4_bang (l : Launch) (D : va_G) (cI : ClassId) (V : (Nat → Nat) × (Nat → Nat)) (mh : Nat) (m_te : Nat) (m_size : Int32) (m_re : Nat) (m_len : Int32) (m_kn : Nat) (m_bg : Nat) (m_en : Nat) (m_dp : Nat) (m_nm : Nat) (m_sz : Nat) (m_aa : Nat) (m_asz : Nat) (m_elements : Int32) (m_most : Int32) (m_values : Int32) (m_place : Int32) (m_phase : Int32) (m_state : Int32) (m_begin : Int32) (m_name : Int32) (m_refr : Int32) (m_tag : Int32) (m_tagsz : Int32) (m_quote : Int32) (m_chars : Int32) (m_brackets : Int32) (m_matched : Int32) (m_number : Int64) (m_fault : Int32) (np : Nat) (no : Nat) (na : Nat) (t : Nat) (sz : Nat) (p1 : Int32)  : Met l yX4_bang (.code yX4_bang cX4_bang 2 (some .int) :: tbW) ({ frames := 2, cells := 0, slots := 0, locals := 42 }) (va_Pc [.ref mh, .int p1] (gP D cI V [(mh, .inr (4, [.ref m_te, .int m_size, .ref m_re, .int m_len, .int (nI np), .ref m_kn, .ref m_bg, .ref m_en, .ref m_dp, .int (nI no), .ref m_nm, .ref m_sz, .int (nI na), .ref m_aa, .ref m_asz, .int m_elements, .int m_most, .int m_values, .int m_place, .int m_phase, .int m_state, .int (nI t), .int m_begin, .int m_name, .int m_refr, .int m_tag, .int m_tagsz, .int m_quote, .int m_chars, .int m_brackets, .int m_matched, .long m_number, .int m_fault]))] sz)) (va_Qi (fun (r : Int32) (u : Int32 × Int32 × Int32 × Int32) => r = 0 → u.1 = 3 ∨ u.1 = 40) (fun u => gB D cI (va_A [(mh, .inr (4, [.ref m_te, .int m_size, .ref m_re, .int m_len, .int (nI np), .ref m_kn, .ref m_bg, .ref m_en, .ref m_dp, .int (nI no), .ref m_nm, .ref m_sz, .int (nI na), .ref m_aa, .ref m_asz, .int m_elements, .int m_most, .int m_values, .int m_place, .int m_phase, .int m_state, .int (nI t), .int m_begin, .int m_name, .int m_refr, .int m_tag, .int m_tagsz, .int m_quote, .int m_chars, .int m_brackets, .int m_matched, .long m_number, .int m_fault]))] sz) [(mh, .inr (4, [.ref m_te, .int m_size, .ref m_re, .int m_len, .int (nI np), .ref m_kn, .ref m_bg, .ref m_en, .ref m_dp, .int (nI no), .ref m_nm, .ref m_sz, .int (nI na), .ref m_aa, .ref m_asz, .int m_elements, .int m_most, .int m_values, .int u.2.1, .int m_phase, .int u.1, .int (nI t), .int m_begin, .int m_name, .int m_refr, .int m_tag, .int m_tagsz, .int m_quote, .int m_chars, .int m_brackets, .int u.2.2.2, .long m_number, .int u.2.2.1]))]) (va_A [(mh, .inr (4, [.ref m_te, .int m_size, .ref m_re, .int m_len, .int (nI np), .ref m_kn, .ref m_bg, .ref m_en, .ref m_dp, .int (nI no), .ref m_nm, .ref m_sz, .int (nI na), .ref m_aa, .ref m_asz, .int m_elements, .int m_most, .int m_values, .int m_place, .int m_phase, .int m_state, .int (nI t), .int m_begin, .int m_name, .int m_refr, .int m_tag, .int m_tagsz, .int m_quote, .int m_chars, .int m_brackets, .int m_matched, .long m_number, .int m_fault]))] sz)) 0 0 (va_A [(mh, .inr (4, [.ref m_te, .int m_size, .ref m_re, .int m_len, .int (nI np), .ref m_kn, .ref m_bg, .ref m_en, .ref m_dp, .int (nI no), .ref m_nm, .ref m_sz, .int (nI na), .ref m_aa, .ref m_asz, .int m_elements, .int m_most, .int m_values, .int m_place, .int m_phase, .int m_state, .int (nI t), .int m_begin, .int m_name, .int m_refr, .int m_tag, .int m_tagsz, .int m_quote, .int m_chars, .int m_brackets, .int m_matched, .long m_number, .int m_fault]))] sz) := by
  refine Met.ofW (cc := cX4_bang) (maxL := 2) (ret := (some .int)) (by decide) rfl ?_
  intro p e s m args below meth c s₁ B hml hv
  obtain ⟨rfl, hsz, hP, hK, hD0, hN, hV⟩ := hv
  have hx := B.exec
  have hb := B.bytes
  have hr := B.returns
  have hts := tb_hts (atoms_spec (ws := .code yX4_bang cX4_bang 2 (some .int) :: tbW) B.pre)
  have hown : s.vm.findClass RX4 = some m.cls := findClass_of_methodNamed B.named
  have hlocks := B.notSynchronized
  subst hsz
  have hD := hD0.self (sz := s.heap.size)
  generalize hAe : va_A [(mh, .inr (4, [.ref m_te, .int m_size, .ref m_re, .int m_len, .int (nI np), .ref m_kn, .ref m_bg, .ref m_en, .ref m_dp, .int (nI no), .ref m_nm, .ref m_sz, .int (nI na), .ref m_aa, .ref m_asz, .int m_elements, .int m_most, .int m_values, .int m_place, .int m_phase, .int m_state, .int (nI t), .int m_begin, .int m_name, .int m_refr, .int m_tag, .int m_tagsz, .int m_quote, .int m_chars, .int m_brackets, .int m_matched, .long m_number, .int m_fault]))] s.heap.size = A at hD hV ⊢
  have hA : ∀ q : Nat, s.heap.size ≤ q → A q := fun q h => by rw [← hAe]; exact Or.inr h
  have hS : va_S A s.heap s.heap [] := va_S.rf
  have hP : va_P D classes [(mh, .inr (4, [.ref m_te, .int m_size, .ref m_re, .int m_len, .int (nI np), .ref m_kn, .ref m_bg, .ref m_en, .ref m_dp, .int (nI no), .ref m_nm, .ref m_sz, .int (nI na), .ref m_aa, .ref m_asz, .int m_elements, .int m_most, .int m_values, .int m_place, .int m_phase, .int m_state, .int (nI t), .int m_begin, .int m_name, .int m_refr, .int m_tag, .int m_tagsz, .int m_quote, .int m_chars, .int m_brackets, .int m_matched, .long m_number, .int m_fault]))] s.heap := hP
  have hl := lv_entry ([.ref mh, .int p1]) (n := 2) (Nat.le_of_ble_eq_true rfl)
  rw [lg_entry_eq]
  generalize (lg_sl ([.ref mh, .int p1]) ++ List.replicate (2 - (lg_sl ([.ref mh, .int p1])).length) Slot.unset).toArray = ls at hl ⊢
  have hl : lv_has ls 2 [(0, .ref mh), (1, .int p1)] := hl
  refine lv_aload_n hx hb dX4_bang_0 rfl (lv_at hl 0 rfl) ?_
  refine lv_iconst (v := 0) hx hb dX4_bang_1 (by decide) ?_
  refine va_put (D := D) (ci := 4) (v := .int 0) (ty := .int) (C := RX4) (T := TX4) (N := 33) hx hb hts inX4 tyX4 tyX4_ok nmX4 hown hK hP hD hS 0 rfl rfl 30 (by decide) (hts (Cond.fieldLink "NestedTagsModel" 142 "NestedTagsModel" "matched" "I") kk_3_2) (fun _ h9 => h9) rfl (tyX4_ok 30 (by decide)) rfl rfl (Nat.le_of_ble_eq_true rfl) dX4_bang_2 (fun H locs hP hD hS => ?_)
  have hP : va_P D classes [(mh, .inr (4, [.ref m_te, .int m_size, .ref m_re, .int m_len, .int (nI np), .ref m_kn, .ref m_bg, .ref m_en, .ref m_dp, .int (nI no), .ref m_nm, .ref m_sz, .int (nI na), .ref m_aa, .ref m_asz, .int m_elements, .int m_most, .int m_values, .int m_place, .int m_phase, .int m_state, .int (nI t), .int m_begin, .int m_name, .int m_refr, .int m_tag, .int m_tagsz, .int m_quote, .int m_chars, .int m_brackets, .int 0, .long m_number, .int m_fault]))] H := hP
  have hD : va_D A [(mh, .inr (4, [.ref m_te, .int m_size, .ref m_re, .int m_len, .int (nI np), .ref m_kn, .ref m_bg, .ref m_en, .ref m_dp, .int (nI no), .ref m_nm, .ref m_sz, .int (nI na), .ref m_aa, .ref m_asz, .int m_elements, .int m_most, .int m_values, .int m_place, .int m_phase, .int m_state, .int (nI t), .int m_begin, .int m_name, .int m_refr, .int m_tag, .int m_tagsz, .int m_quote, .int m_chars, .int m_brackets, .int 0, .long m_number, .int m_fault]))] := hD
  refine lv_iload_n hx hb dX4_bang_5 rfl (lv_at hl 1 rfl) ?_
  refine lv_bipush (v := 45) hx hb dX4_bang_6 (by decide) ?_
  refine lv_icmp_ne (tgt := 19) hx hb dX4_bang_8 (by decide) (fun c_8 => ?_) (fun c_8 => ?_)
  · skip
    refine lv_iload_n hx hb dX4_bang_19 rfl (lv_at hl 1 rfl) ?_
    refine lv_bipush (v := 91) hx hb dX4_bang_20 (by decide) ?_
    refine lv_icmp_ne (tgt := 42) hx hb dX4_bang_22 (by decide) (fun c_22 => ?_) (fun c_22 => ?_)
    · skip
      refine lv_aload_n hx hb dX4_bang_42 rfl (lv_at hl 0 rfl) ?_
      refine gcall_i (va_runV (As := []) (rest := []) ⟨hx, hb, hml, hown, hts⟩ (c_X4_wrong_w l D cI V mh m_te m_size m_re m_len m_kn m_bg m_en m_dp m_nm m_sz m_aa m_asz m_elements m_most m_values m_place m_phase m_state m_begin m_name m_refr m_tag m_tagsz m_quote m_chars m_brackets 0 m_number m_fault np no na t H.size ) (cwV 0 hts (tb_goodV kk_3_92 kk_3_94 kk_0_25 kk_1_6 kk_3_95) rfl rfl rfl (hdV_X4_wrong) ⟨Nat.le_of_ble_eq_true rfl, Nat.le_of_ble_eq_true rfl⟩) (gpreV hK hN hV hS hA hP hD [0] rfl rfl (by decide) (va_recv hK hP (ci := 4) (q0 := 0) rfl rfl)) rfl rfl hl.1 rfl (lv_room (Nat.le_of_ble_eq_true rfl)) dX4_bang_43 ⟨Nat.le_of_ble_eq_true rfl, Nat.le_of_ble_eq_true rfl⟩) hP hD hS hA [0] [] (wr := []) rfl rfl (by decide) (by decide) (fun r_1 u_2 H locs hw_43 hP hD hS => ?_)
      try dsimp only at hw_43
      have hP : va_P D classes [(mh, .inr (4, [.ref m_te, .int m_size, .ref m_re, .int m_len, .int (nI np), .ref m_kn, .ref m_bg, .ref m_en, .ref m_dp, .int (nI no), .ref m_nm, .ref m_sz, .int (nI na), .ref m_aa, .ref m_asz, .int m_elements, .int m_most, .int m_values, .int (nI t), .int m_phase, .int m_state, .int (nI t), .int m_begin, .int m_name, .int m_refr, .int m_tag, .int m_tagsz, .int m_quote, .int m_chars, .int m_brackets, .int 0, .long m_number, .int 2]))] H := hP
      have hD : va_D A [(mh, .inr (4, [.ref m_te, .int m_size, .ref m_re, .int m_len, .int (nI np), .ref m_kn, .ref m_bg, .ref m_en, .ref m_dp, .int (nI no), .ref m_nm, .ref m_sz, .int (nI na), .ref m_aa, .ref m_asz, .int m_elements, .int m_most, .int m_values, .int (nI t), .int m_phase, .int m_state, .int (nI t), .int m_begin, .int m_name, .int m_refr, .int m_tag, .int m_tagsz, .int m_quote, .int m_chars, .int m_brackets, .int 0, .long m_number, .int 2]))] := hD
      have hP9 := hP.sub (ws' := [(mh, .inr (4, [.ref m_te, .int m_size, .ref m_re, .int m_len, .int (nI np), .ref m_kn, .ref m_bg, .ref m_en, .ref m_dp, .int (nI no), .ref m_nm, .ref m_sz, .int (nI na), .ref m_aa, .ref m_asz, .int m_elements, .int m_most, .int m_values, .int (nI t), .int m_phase, .int m_state, .int (nI t), .int m_begin, .int m_name, .int m_refr, .int m_tag, .int m_tagsz, .int m_quote, .int m_chars, .int m_brackets, .int 0, .long m_number, .int 2]))]) [0] rfl
      have hD9 := hD.sub (ws' := [(mh, .inr (4, [.ref m_te, .int m_size, .ref m_re, .int m_len, .int (nI np), .ref m_kn, .ref m_bg, .ref m_en, .ref m_dp, .int (nI no), .ref m_nm, .ref m_sz, .int (nI na), .ref m_aa, .ref m_asz, .int m_elements, .int m_most, .int m_values, .int (nI t), .int m_phase, .int m_state, .int (nI t), .int m_begin, .int m_name, .int m_refr, .int m_tag, .int m_tagsz, .int m_quote, .int m_chars, .int m_brackets, .int 0, .long m_number, .int 2]))]) [0] (by decide) rfl
      exact W.iret (v := r_1) hx hb hr (fun t9 ht9 hW => ⟨⟨r_1, (m_state, (nI t), 2, 0), rfl, fun q => absurd (hw_43.symm.trans q) (by decide), by rw [ht9]; exact hP9, va_K.moved hW.alike hK, hD9⟩, hS.F ht9⟩) hS.2.2 dX4_bang_46
    · skip
      refine lv_aload_n hx hb dX4_bang_25 rfl (lv_at hl 0 rfl) ?_
      refine va_get (D := D) (ci := 4) (v := .int m_phase) (C := RX4) (T := TX4) (N := 33) hx hb hts inX4 hown hK hP 0 rfl rfl 19 (by decide) (hts (Cond.fieldLink "NestedTagsModel" 79 "NestedTagsModel" "phase" "I") kk_2_231) (fun _ h9 => h9) rfl dX4_bang_26 ?_
      refine lv_iconst (v := 1) hx hb dX4_bang_29 (by decide) ?_
      refine lv_icmp_ne (tgt := 42) hx hb dX4_bang_30 (by decide) (fun c_30 => ?_) (fun c_30 => ?_)
      · skip
        refine lv_aload_n hx hb dX4_bang_42 rfl (lv_at hl 0 rfl) ?_
        refine gcall_i (va_runV (As := []) (rest := []) ⟨hx, hb, hml, hown, hts⟩ (c_X4_wrong_w l D cI V mh m_te m_size m_re m_len m_kn m_bg m_en m_dp m_nm m_sz m_aa m_asz m_elements m_most m_values m_place m_phase m_state m_begin m_name m_refr m_tag m_tagsz m_quote m_chars m_brackets 0 m_number m_fault np no na t H.size ) (cwV 0 hts (tb_goodV kk_3_92 kk_3_94 kk_0_25 kk_1_6 kk_3_95) rfl rfl rfl (hdV_X4_wrong) ⟨Nat.le_of_ble_eq_true rfl, Nat.le_of_ble_eq_true rfl⟩) (gpreV hK hN hV hS hA hP hD [0] rfl rfl (by decide) (va_recv hK hP (ci := 4) (q0 := 0) rfl rfl)) rfl rfl hl.1 rfl (lv_room (Nat.le_of_ble_eq_true rfl)) dX4_bang_43 ⟨Nat.le_of_ble_eq_true rfl, Nat.le_of_ble_eq_true rfl⟩) hP hD hS hA [0] [] (wr := []) rfl rfl (by decide) (by decide) (fun r_3 u_4 H locs hw_43 hP hD hS => ?_)
        try dsimp only at hw_43
        have hP : va_P D classes [(mh, .inr (4, [.ref m_te, .int m_size, .ref m_re, .int m_len, .int (nI np), .ref m_kn, .ref m_bg, .ref m_en, .ref m_dp, .int (nI no), .ref m_nm, .ref m_sz, .int (nI na), .ref m_aa, .ref m_asz, .int m_elements, .int m_most, .int m_values, .int (nI t), .int m_phase, .int m_state, .int (nI t), .int m_begin, .int m_name, .int m_refr, .int m_tag, .int m_tagsz, .int m_quote, .int m_chars, .int m_brackets, .int 0, .long m_number, .int 2]))] H := hP
        have hD : va_D A [(mh, .inr (4, [.ref m_te, .int m_size, .ref m_re, .int m_len, .int (nI np), .ref m_kn, .ref m_bg, .ref m_en, .ref m_dp, .int (nI no), .ref m_nm, .ref m_sz, .int (nI na), .ref m_aa, .ref m_asz, .int m_elements, .int m_most, .int m_values, .int (nI t), .int m_phase, .int m_state, .int (nI t), .int m_begin, .int m_name, .int m_refr, .int m_tag, .int m_tagsz, .int m_quote, .int m_chars, .int m_brackets, .int 0, .long m_number, .int 2]))] := hD
        have hP9 := hP.sub (ws' := [(mh, .inr (4, [.ref m_te, .int m_size, .ref m_re, .int m_len, .int (nI np), .ref m_kn, .ref m_bg, .ref m_en, .ref m_dp, .int (nI no), .ref m_nm, .ref m_sz, .int (nI na), .ref m_aa, .ref m_asz, .int m_elements, .int m_most, .int m_values, .int (nI t), .int m_phase, .int m_state, .int (nI t), .int m_begin, .int m_name, .int m_refr, .int m_tag, .int m_tagsz, .int m_quote, .int m_chars, .int m_brackets, .int 0, .long m_number, .int 2]))]) [0] rfl
        have hD9 := hD.sub (ws' := [(mh, .inr (4, [.ref m_te, .int m_size, .ref m_re, .int m_len, .int (nI np), .ref m_kn, .ref m_bg, .ref m_en, .ref m_dp, .int (nI no), .ref m_nm, .ref m_sz, .int (nI na), .ref m_aa, .ref m_asz, .int m_elements, .int m_most, .int m_values, .int (nI t), .int m_phase, .int m_state, .int (nI t), .int m_begin, .int m_name, .int m_refr, .int m_tag, .int m_tagsz, .int m_quote, .int m_chars, .int m_brackets, .int 0, .long m_number, .int 2]))]) [0] (by decide) rfl
        exact W.iret (v := r_3) hx hb hr (fun t9 ht9 hW => ⟨⟨r_3, (m_state, (nI t), 2, 0), rfl, fun q => absurd (hw_43.symm.trans q) (by decide), by rw [ht9]; exact hP9, va_K.moved hW.alike hK, hD9⟩, hS.F ht9⟩) hS.2.2 dX4_bang_46
      · skip
        refine lv_aload_n hx hb dX4_bang_33 rfl (lv_at hl 0 rfl) ?_
        refine lv_bipush (v := 40) hx hb dX4_bang_34 (by decide) ?_
        refine gcall_i (va_runV (As := [.int 40]) (rest := []) ⟨hx, hb, hml, hown, hts⟩ (c_X4_go l D cI V mh m_te m_size m_re m_len m_kn m_bg m_en m_dp m_nm m_sz m_aa m_asz m_elements m_most m_values m_place m_phase m_state m_begin m_name m_refr m_tag m_tagsz m_quote m_chars m_brackets 0 m_number m_fault np no na t H.size 40) (cwV 1 hts (tb_goodV kk_3_88 kk_3_90 kk_0_24 kk_1_6 kk_3_91) rfl rfl rfl (hdV_X4_go) ⟨Nat.le_of_ble_eq_true rfl, Nat.le_of_ble_eq_true rfl⟩) (gpreV hK hN hV hS hA hP hD [0] rfl rfl (by decide) (va_recv hK hP (ci := 4) (q0 := 0) rfl rfl)) rfl rfl hl.1 rfl (lv_room (Nat.le_of_ble_eq_true rfl)) dX4_bang_36 ⟨Nat.le_of_ble_eq_true rfl, Nat.le_of_ble_eq_true rfl⟩) hP hD hS hA [0] [] (wr := []) rfl rfl (by decide) (by decide) (fun r_5 u_6 H locs hw_36 hP hD hS => ?_)
        try dsimp only at hw_36
        have hP : va_P D classes [(mh, .inr (4, [.ref m_te, .int m_size, .ref m_re, .int m_len, .int (nI np), .ref m_kn, .ref m_bg, .ref m_en, .ref m_dp, .int (nI no), .ref m_nm, .ref m_sz, .int (nI na), .ref m_aa, .ref m_asz, .int m_elements, .int m_most, .int m_values, .int m_place, .int m_phase, .int 40, .int (nI t), .int m_begin, .int m_name, .int m_refr, .int m_tag, .int m_tagsz, .int m_quote, .int m_chars, .int m_brackets, .int 0, .long m_number, .int m_fault]))] H := hP
        have hD : va_D A [(mh, .inr (4, [.ref m_te, .int m_size, .ref m_re, .int m_len, .int (nI np), .ref m_kn, .ref m_bg, .ref m_en, .ref m_dp, .int (nI no), .ref m_nm, .ref m_sz, .int (nI na), .ref m_aa, .ref m_asz, .int m_elements, .int m_most, .int m_values, .int m_place, .int m_phase, .int 40, .int (nI t), .int m_begin, .int m_name, .int m_refr, .int m_tag, .int m_tagsz, .int m_quote, .int m_chars, .int m_brackets, .int 0, .long m_number, .int m_fault]))] := hD
        refine lv_goto (tgt := 46) hx hb dX4_bang_39 (by decide) ?_
        have hP9 := hP.sub (ws' := [(mh, .inr (4, [.ref m_te, .int m_size, .ref m_re, .int m_len, .int (nI np), .ref m_kn, .ref m_bg, .ref m_en, .ref m_dp, .int (nI no), .ref m_nm, .ref m_sz, .int (nI na), .ref m_aa, .ref m_asz, .int m_elements, .int m_most, .int m_values, .int m_place, .int m_phase, .int 40, .int (nI t), .int m_begin, .int m_name, .int m_refr, .int m_tag, .int m_tagsz, .int m_quote, .int m_chars, .int m_brackets, .int 0, .long m_number, .int m_fault]))]) [0] rfl
        have hD9 := hD.sub (ws' := [(mh, .inr (4, [.ref m_te, .int m_size, .ref m_re, .int m_len, .int (nI np), .ref m_kn, .ref m_bg, .ref m_en, .ref m_dp, .int (nI no), .ref m_nm, .ref m_sz, .int (nI na), .ref m_aa, .ref m_asz, .int m_elements, .int m_most, .int m_values, .int m_place, .int m_phase, .int 40, .int (nI t), .int m_begin, .int m_name, .int m_refr, .int m_tag, .int m_tagsz, .int m_quote, .int m_chars, .int m_brackets, .int 0, .long m_number, .int m_fault]))]) [0] (by decide) rfl
        exact W.iret (v := r_5) hx hb hr (fun t9 ht9 hW => ⟨⟨r_5, (40, m_place, m_fault, 0), rfl, fun _ => Or.inr (rfl), by rw [ht9]; exact hP9, va_K.moved hW.alike hK, hD9⟩, hS.F ht9⟩) hS.2.2 dX4_bang_46
  · skip
    refine lv_aload_n hx hb dX4_bang_11 rfl (lv_at hl 0 rfl) ?_
    refine lv_iconst (v := 3) hx hb dX4_bang_12 (by decide) ?_
    refine gcall_i (va_runV (As := [.int 3]) (rest := []) ⟨hx, hb, hml, hown, hts⟩ (c_X4_go l D cI V mh m_te m_size m_re m_len m_kn m_bg m_en m_dp m_nm m_sz m_aa m_asz m_elements m_most m_values m_place m_phase m_state m_begin m_name m_refr m_tag m_tagsz m_quote m_chars m_brackets 0 m_number m_fault np no na t H.size 3) (cwV 1 hts (tb_goodV kk_3_88 kk_3_90 kk_0_24 kk_1_6 kk_3_91) rfl rfl rfl (hdV_X4_go) ⟨Nat.le_of_ble_eq_true rfl, Nat.le_of_ble_eq_true rfl⟩) (gpreV hK hN hV hS hA hP hD [0] rfl rfl (by decide) (va_recv hK hP (ci := 4) (q0 := 0) rfl rfl)) rfl rfl hl.1 rfl (lv_room (Nat.le_of_ble_eq_true rfl)) dX4_bang_13 ⟨Nat.le_of_ble_eq_true rfl, Nat.le_of_ble_eq_true rfl⟩) hP hD hS hA [0] [] (wr := []) rfl rfl (by decide) (by decide) (fun r_7 u_8 H locs hw_13 hP hD hS => ?_)
    try dsimp only at hw_13
    have hP : va_P D classes [(mh, .inr (4, [.ref m_te, .int m_size, .ref m_re, .int m_len, .int (nI np), .ref m_kn, .ref m_bg, .ref m_en, .ref m_dp, .int (nI no), .ref m_nm, .ref m_sz, .int (nI na), .ref m_aa, .ref m_asz, .int m_elements, .int m_most, .int m_values, .int m_place, .int m_phase, .int 3, .int (nI t), .int m_begin, .int m_name, .int m_refr, .int m_tag, .int m_tagsz, .int m_quote, .int m_chars, .int m_brackets, .int 0, .long m_number, .int m_fault]))] H := hP
    have hD : va_D A [(mh, .inr (4, [.ref m_te, .int m_size, .ref m_re, .int m_len, .int (nI np), .ref m_kn, .ref m_bg, .ref m_en, .ref m_dp, .int (nI no), .ref m_nm, .ref m_sz, .int (nI na), .ref m_aa, .ref m_asz, .int m_elements, .int m_most, .int m_values, .int m_place, .int m_phase, .int 3, .int (nI t), .int m_begin, .int m_name, .int m_refr, .int m_tag, .int m_tagsz, .int m_quote, .int m_chars, .int m_brackets, .int 0, .long m_number, .int m_fault]))] := hD
    refine lv_goto (tgt := 46) hx hb dX4_bang_16 (by decide) ?_
    have hP9 := hP.sub (ws' := [(mh, .inr (4, [.ref m_te, .int m_size, .ref m_re, .int m_len, .int (nI np), .ref m_kn, .ref m_bg, .ref m_en, .ref m_dp, .int (nI no), .ref m_nm, .ref m_sz, .int (nI na), .ref m_aa, .ref m_asz, .int m_elements, .int m_most, .int m_values, .int m_place, .int m_phase, .int 3, .int (nI t), .int m_begin, .int m_name, .int m_refr, .int m_tag, .int m_tagsz, .int m_quote, .int m_chars, .int m_brackets, .int 0, .long m_number, .int m_fault]))]) [0] rfl
    have hD9 := hD.sub (ws' := [(mh, .inr (4, [.ref m_te, .int m_size, .ref m_re, .int m_len, .int (nI np), .ref m_kn, .ref m_bg, .ref m_en, .ref m_dp, .int (nI no), .ref m_nm, .ref m_sz, .int (nI na), .ref m_aa, .ref m_asz, .int m_elements, .int m_most, .int m_values, .int m_place, .int m_phase, .int 3, .int (nI t), .int m_begin, .int m_name, .int m_refr, .int m_tag, .int m_tagsz, .int m_quote, .int m_chars, .int m_brackets, .int 0, .long m_number, .int m_fault]))]) [0] (by decide) rfl
    exact W.iret (v := r_7) hx hb hr (fun t9 ht9 hW => ⟨⟨r_7, (3, m_place, m_fault, 0), rfl, fun _ => Or.inl (rfl), by rw [ht9]; exact hP9, va_K.moved hW.alike hK, hD9⟩, hS.F ht9⟩) hS.2.2 dX4_bang_46

set_option maxHeartbeats 4000000 in
set_option maxRecDepth 100000 in
/-- X4_less -/
theorem c_X4_less (l : Launch) (D : va_G) (cI : ClassId) (V : (Nat → Nat) × (Nat → Nat)) (mh : Nat) (m_te : Nat) (m_size : Int32) (m_re : Nat) (m_len : Int32) (m_kn : Nat) (m_bg : Nat) (m_en : Nat) (m_dp : Nat) (m_nm : Nat) (m_sz : Nat) (m_aa : Nat) (m_asz : Nat) (m_elements : Int32) (m_most : Int32) (m_values : Int32) (m_place : Int32) (m_phase : Int32) (m_state : Int32) (m_begin : Int32) (m_name : Int32) (m_refr : Int32) (m_tag : Int32) (m_tagsz : Int32) (m_quote : Int32) (m_chars : Int32) (m_brackets : Int32) (m_matched : Int32) (m_number : Int64) (m_fault : Int32) (np : Nat) (no : Nat) (na : Nat) (t : Nat) (sz : Nat) (p1 : Int32)  : Met l yX4_less (.code yX4_less cX4_less 2 (some .int) :: tbW) ({ frames := 2, cells := 0, slots := 0, locals := 42 }) (va_Pc [.ref mh, .int p1] (gP D cI V [(mh, .inr (4, [.ref m_te, .int m_size, .ref m_re, .int m_len, .int (nI np), .ref m_kn, .ref m_bg, .ref m_en, .ref m_dp, .int (nI no), .ref m_nm, .ref m_sz, .int (nI na), .ref m_aa, .ref m_asz, .int m_elements, .int m_most, .int m_values, .int m_place, .int m_phase, .int m_state, .int (nI t), .int m_begin, .int m_name, .int m_refr, .int m_tag, .int m_tagsz, .int m_quote, .int m_chars, .int m_brackets, .int m_matched, .long m_number, .int m_fault]))] sz)) (va_Qi (fun (r : Int32) (u : Int32 × Int32 × Int32 × Int32) => r = 0 → u.1 = 2 ∨ u.1 = 10 ∨ (u.1 = 20 ∧ m_phase = 1) ∨ (u.1 = 30 ∧ u.2.1 = nI t)) (fun u => gB D cI (va_A [(mh, .inr (4, [.ref m_te, .int m_size, .ref m_re, .int m_len, .int (nI np), .ref m_kn, .ref m_bg, .ref m_en, .ref m_dp, .int (nI no), .ref m_nm, .ref m_sz, .int (nI na), .ref m_aa, .ref m_asz, .int m_elements, .int m_most, .int m_values, .int m_place, .int m_phase, .int m_state, .int (nI t), .int m_begin, .int m_name, .int m_refr, .int m_tag, .int m_tagsz, .int m_quote, .int m_chars, .int m_brackets, .int m_matched, .long m_number, .int m_fault]))] sz) [(mh, .inr (4, [.ref m_te, .int m_size, .ref m_re, .int m_len, .int (nI np), .ref m_kn, .ref m_bg, .ref m_en, .ref m_dp, .int (nI no), .ref m_nm, .ref m_sz, .int (nI na), .ref m_aa, .ref m_asz, .int m_elements, .int m_most, .int m_values, .int u.2.2.1, .int m_phase, .int u.1, .int (nI t), .int m_begin, .int u.2.1, .int m_refr, .int m_tag, .int m_tagsz, .int m_quote, .int m_chars, .int m_brackets, .int m_matched, .long m_number, .int u.2.2.2]))]) (va_A [(mh, .inr (4, [.ref m_te, .int m_size, .ref m_re, .int m_len, .int (nI np), .ref m_kn, .ref m_bg, .ref m_en, .ref m_dp, .int (nI no), .ref m_nm, .ref m_sz, .int (nI na), .ref m_aa, .ref m_asz, .int m_elements, .int m_most, .int m_values, .int m_place, .int m_phase, .int m_state, .int (nI t), .int m_begin, .int m_name, .int m_refr, .int m_tag, .int m_tagsz, .int m_quote, .int m_chars, .int m_brackets, .int m_matched, .long m_number, .int m_fault]))] sz)) 0 0 (va_A [(mh, .inr (4, [.ref m_te, .int m_size, .ref m_re, .int m_len, .int (nI np), .ref m_kn, .ref m_bg, .ref m_en, .ref m_dp, .int (nI no), .ref m_nm, .ref m_sz, .int (nI na), .ref m_aa, .ref m_asz, .int m_elements, .int m_most, .int m_values, .int m_place, .int m_phase, .int m_state, .int (nI t), .int m_begin, .int m_name, .int m_refr, .int m_tag, .int m_tagsz, .int m_quote, .int m_chars, .int m_brackets, .int m_matched, .long m_number, .int m_fault]))] sz) := by
  refine Met.ofW (cc := cX4_less) (maxL := 2) (ret := (some .int)) (by decide) rfl ?_
  intro p e s m args below meth c s₁ B hml hv
  obtain ⟨rfl, hsz, hP, hK, hD0, hN, hV⟩ := hv
  have hx := B.exec
  have hb := B.bytes
  have hr := B.returns
  have hts := tb_hts (atoms_spec (ws := .code yX4_less cX4_less 2 (some .int) :: tbW) B.pre)
  have hown : s.vm.findClass RX4 = some m.cls := findClass_of_methodNamed B.named
  have hlocks := B.notSynchronized
  subst hsz
  have hD := hD0.self (sz := s.heap.size)
  generalize hAe : va_A [(mh, .inr (4, [.ref m_te, .int m_size, .ref m_re, .int m_len, .int (nI np), .ref m_kn, .ref m_bg, .ref m_en, .ref m_dp, .int (nI no), .ref m_nm, .ref m_sz, .int (nI na), .ref m_aa, .ref m_asz, .int m_elements, .int m_most, .int m_values, .int m_place, .int m_phase, .int m_state, .int (nI t), .int m_begin, .int m_name, .int m_refr, .int m_tag, .int m_tagsz, .int m_quote, .int m_chars, .int m_brackets, .int m_matched, .long m_number, .int m_fault]))] s.heap.size = A at hD hV ⊢
  have hA : ∀ q : Nat, s.heap.size ≤ q → A q := fun q h => by rw [← hAe]; exact Or.inr h
  have hS : va_S A s.heap s.heap [] := va_S.rf
  have hP : va_P D classes [(mh, .inr (4, [.ref m_te, .int m_size, .ref m_re, .int m_len, .int (nI np), .ref m_kn, .ref m_bg, .ref m_en, .ref m_dp, .int (nI no), .ref m_nm, .ref m_sz, .int (nI na), .ref m_aa, .ref m_asz, .int m_elements, .int m_most, .int m_values, .int m_place, .int m_phase, .int m_state, .int (nI t), .int m_begin, .int m_name, .int m_refr, .int m_tag, .int m_tagsz, .int m_quote, .int m_chars, .int m_brackets, .int m_matched, .long m_number, .int m_fault]))] s.heap := hP
  have hl := lv_entry ([.ref mh, .int p1]) (n := 2) (Nat.le_of_ble_eq_true rfl)
  rw [lg_entry_eq]
  generalize (lg_sl ([.ref mh, .int p1]) ++ List.replicate (2 - (lg_sl ([.ref mh, .int p1])).length) Slot.unset).toArray = ls at hl ⊢
  have hl : lv_has ls 2 [(0, .ref mh), (1, .int p1)] := hl
  refine lv_iload_n hx hb dX4_less_0 rfl (lv_at hl 1 rfl) ?_
  refine lv_bipush (v := 33) hx hb dX4_less_1 (by decide) ?_
  refine lv_icmp_ne (tgt := 12) hx hb dX4_less_3 (by decide) (fun c_3 => ?_) (fun c_3 => ?_)
  · skip
    refine lv_iload_n hx hb dX4_less_12 rfl (lv_at hl 1 rfl) ?_
    refine lv_bipush (v := 63) hx hb dX4_less_13 (by decide) ?_
    refine lv_icmp_ne (tgt := 25) hx hb dX4_less_15 (by decide) (fun c_15 => ?_) (fun c_15 => ?_)
    · skip
      refine lv_iload_n hx hb dX4_less_25 rfl (lv_at hl 1 rfl) ?_
      refine lv_bipush (v := 47) hx hb dX4_less_26 (by decide) ?_
      refine lv_icmp_ne (tgt := 46) hx hb dX4_less_28 (by decide) (fun c_28 => ?_) (fun c_28 => ?_)
      · skip
        refine lv_iload_n hx hb dX4_less_46 rfl (lv_at hl 1 rfl) ?_
        refine gcall_i (va_runS (As := [.int p1]) (rest := []) ⟨hx, hb, hml, hown, hts⟩ (c_X4_isBegin l D cI V  s.heap.size p1) (va_cwS 1 hts (tb_goodS kk_3_104 kk_3_105 kk_1_6 kk_3_106) rfl rfl rfl (hdS_X4_isBegin) ⟨Nat.le_of_ble_eq_true rfl, Nat.le_of_ble_eq_true rfl⟩) (gpreS hK hN hV hS hA hP hD [] rfl rfl (by decide)) rfl rfl hl.1 rfl (lv_room (Nat.le_of_ble_eq_true rfl)) dX4_less_47 ⟨Nat.le_of_ble_eq_true rfl, Nat.le_of_ble_eq_true rfl⟩) hP hD hS hA [] [0] (wr := [(mh, .inr (4, [.ref m_te, .int m_size, .ref m_re, .int m_len, .int (nI np), .ref m_kn, .ref m_bg, .ref m_en, .ref m_dp, .int (nI no), .ref m_nm, .ref m_sz, .int (nI na), .ref m_aa, .ref m_asz, .int m_elements, .int m_most, .int m_values, .int m_place, .int m_phase, .int m_state, .int (nI t), .int m_begin, .int m_name, .int m_refr, .int m_tag, .int m_tagsz, .int m_quote, .int m_chars, .int m_brackets, .int m_matched, .long m_number, .int m_fault]))]) rfl rfl (by decide) (by decide) (fun r_1 u_2 H locs hw_47 hP hD hS => ?_)
        try dsimp only at hw_47
        have hP : va_P D classes [(mh, .inr (4, [.ref m_te, .int m_size, .ref m_re, .int m_len, .int (nI np), .ref m_kn, .ref m_bg, .ref m_en, .ref m_dp, .int (nI no), .ref m_nm, .ref m_sz, .int (nI na), .ref m_aa, .ref m_asz, .int m_elements, .int m_most, .int m_values, .int m_place, .int m_phase, .int m_state, .int (nI t), .int m_begin, .int m_name, .int m_refr, .int m_tag, .int m_tagsz, .int m_quote, .int m_chars, .int m_brackets, .int m_matched, .long m_number, .int m_fault]))] H := hP
        have hD : va_D A [(mh, .inr (4, [.ref m_te, .int m_size, .ref m_re, .int m_len, .int (nI np), .ref m_kn, .ref m_bg, .ref m_en, .ref m_dp, .int (nI no), .ref m_nm, .ref m_sz, .int (nI na), .ref m_aa, .ref m_asz, .int m_elements, .int m_most, .int m_values, .int m_place, .int m_phase, .int m_state, .int (nI t), .int m_begin, .int m_name, .int m_refr, .int m_tag, .int m_tagsz, .int m_quote, .int m_chars, .int m_brackets, .int m_matched, .long m_number, .int m_fault]))] := hD
        refine lv_if_eq (tgt := 61) hx hb dX4_less_50 (by decide) (fun c_50 => ?_) (fun c_50 => ?_)
        · skip
          refine lv_aload_n hx hb dX4_less_61 rfl (lv_at hl 0 rfl) ?_
          refine gcall_i (va_runV (As := []) (rest := []) ⟨hx, hb, hml, hown, hts⟩ (c_X4_wrong_w l D cI V mh m_te m_size m_re m_len m_kn m_bg m_en m_dp m_nm m_sz m_aa m_asz m_elements m_most m_values m_place m_phase m_state m_begin m_name m_refr m_tag m_tagsz m_quote m_chars m_brackets m_matched m_number m_fault np no na t H.size ) (cwV 0 hts (tb_goodV kk_3_92 kk_3_94 kk_0_25 kk_1_6 kk_3_95) rfl rfl rfl (hdV_X4_wrong) ⟨Nat.le_of_ble_eq_true rfl, Nat.le_of_ble_eq_true rfl⟩) (gpreV hK hN hV hS hA hP hD [0] rfl rfl (by decide) (va_recv hK hP (ci := 4) (q0 := 0) rfl rfl)) rfl rfl hl.1 rfl (lv_room (Nat.le_of_ble_eq_true rfl)) dX4_less_62 ⟨Nat.le_of_ble_eq_true rfl, Nat.le_of_ble_eq_true rfl⟩) hP hD hS hA [0] [] (wr := []) rfl rfl (by decide) (by decide) (fun r_3 u_4 H locs hw_62 hP hD hS => ?_)
          try dsimp only at hw_62
          have hP : va_P D classes [(mh, .inr (4, [.ref m_te, .int m_size, .ref m_re, .int m_len, .int (nI np), .ref m_kn, .ref m_bg, .ref m_en, .ref m_dp, .int (nI no), .ref m_nm, .ref m_sz, .int (nI na), .ref m_aa, .ref m_asz, .int m_elements, .int m_most, .int m_values, .int (nI t), .int m_phase, .int m_state, .int (nI t), .int m_begin, .int m_name, .int m_refr, .int m_tag, .int m_tagsz, .int m_quote, .int m_chars, .int m_brackets, .int m_matched, .long m_number, .int 2]))] H := hP
          have hD : va_D A [(mh, .inr (4, [.ref m_te, .int m_size, .ref m_re, .int m_len, .int (nI np), .ref m_kn, .ref m_bg, .ref m_en, .ref m_dp, .int (nI no), .ref m_nm, .ref m_sz, .int (nI na), .ref m_aa, .ref m_asz, .int m_elements, .int m_most, .int m_values, .int (nI t), .int m_phase, .int m_state, .int (nI t), .int m_begin, .int m_name, .int m_refr, .int m_tag, .int m_tagsz, .int m_quote, .int m_chars, .int m_brackets, .int m_matched, .long m_number, .int 2]))] := hD
          have hP9 := hP.sub (ws' := [(mh, .inr (4, [.ref m_te, .int m_size, .ref m_re, .int m_len, .int (nI np), .ref m_kn, .ref m_bg, .ref m_en, .ref m_dp, .int (nI no), .ref m_nm, .ref m_sz, .int (nI na), .ref m_aa, .ref m_asz, .int m_elements, .int m_most, .int m_values, .int (nI t), .int m_phase, .int m_state, .int (nI t), .int m_begin, .int m_name, .int m_refr, .int m_tag, .int m_tagsz, .int m_quote, .int m_chars, .int m_brackets, .int m_matched, .long m_number, .int 2]))]) [0] rfl
          have hD9 := hD.sub (ws' := [(mh, .inr (4, [.ref m_te, .int m_size, .ref m_re, .int m_len, .int (nI np), .ref m_kn, .ref m_bg, .ref m_en, .ref m_dp, .int (nI no), .ref m_nm, .ref m_sz, .int (nI na), .ref m_aa, .ref m_asz, .int m_elements, .int m_most, .int m_values, .int (nI t), .int m_phase, .int m_state, .int (nI t), .int m_begin, .int m_name, .int m_refr, .int m_tag, .int m_tagsz, .int m_quote, .int m_chars, .int m_brackets, .int m_matched, .long m_number, .int 2]))]) [0] (by decide) rfl
          exact W.iret (v := r_3) hx hb hr (fun t9 ht9 hW => ⟨⟨r_3, (m_state, m_name, (nI t), 2), rfl, fun q => absurd (hw_62.symm.trans q) (by decide), by rw [ht9]; exact hP9, va_K.moved hW.alike hK, hD9⟩, hS.F ht9⟩) hS.2.2 dX4_less_65
        · skip
          refine lv_aload_n hx hb dX4_less_53 rfl (lv_at hl 0 rfl) ?_
          refine va_get (D := D) (ci := 4) (v := .int m_phase) (C := RX4) (T := TX4) (N := 33) hx hb hts inX4 hown hK hP 0 rfl rfl 19 (by decide) (hts (Cond.fieldLink "NestedTagsModel" 79 "NestedTagsModel" "phase" "I") kk_2_231) (fun _ h9 => h9) rfl dX4_less_54 ?_
          refine lv_iconst (v := 2) hx hb dX4_less_57 (by decide) ?_
          refine lv_icmp_ne (tgt := 66) hx hb dX4_less_58 (by decide) (fun c_58 => ?_) (fun c_58 => ?_)
          · skip
            refine lv_aload_n hx hb dX4_less_66 rfl (lv_at hl 0 rfl) ?_
            refine lv_aload_n hx hb dX4_less_67 rfl (lv_at hl 0 rfl) ?_
            refine va_get (D := D) (ci := 4) (v := .int (nI t)) (C := RX4) (T := TX4) (N := 33) hx hb hts inX4 hown hK hP 0 rfl rfl 21 (by decide) (hts (Cond.fieldLink "NestedTagsModel" 59 "NestedTagsModel" "at" "I") kk_2_233) (fun _ h9 => h9) rfl dX4_less_68 ?_
            refine va_put (D := D) (ci := 4) (v := .int (nI t)) (ty := .int) (C := RX4) (T := TX4) (N := 33) hx hb hts inX4 tyX4 tyX4_ok nmX4 hown hK hP hD hS 0 rfl rfl 23 (by decide) (hts (Cond.fieldLink "NestedTagsModel" 86 "NestedTagsModel" "name" "I") kk_2_235) (fun _ h9 => h9) rfl (tyX4_ok 23 (by decide)) rfl rfl (Nat.le_of_ble_eq_true rfl) dX4_less_71 (fun H locs hP hD hS => ?_)
            have hP : va_P D classes [(mh, .inr (4, [.ref m_te, .int m_size, .ref m_re, .int m_len, .int (nI np), .ref m_kn, .ref m_bg, .ref m_en, .ref m_dp, .int (nI no), .ref m_nm, .ref m_sz, .int (nI na), .ref m_aa, .ref m_asz, .int m_elements, .int m_most, .int m_values, .int m_place, .int m_phase, .int m_state, .int (nI t), .int m_begin, .int (nI t), .int m_refr, .int m_tag, .int m_tagsz, .int m_quote, .int m_chars, .int m_brackets, .int m_matched, .long m_number, .int m_fault]))] H := hP
            have hD : va_D A [(mh, .inr (4, [.ref m_te, .int m_size, .ref m_re, .int m_len, .int (nI np), .ref m_kn, .ref m_bg, .ref m_en, .ref m_dp, .int (nI no), .ref m_nm, .ref m_sz, .int (nI na), .ref m_aa, .ref m_asz, .int m_elements, .int m_most, .int m_values, .int m_place, .int m_phase, .int m_state, .int (nI t), .int m_begin, .int (nI t), .int m_refr, .int m_tag, .int m_tagsz, .int m_quote, .int m_chars, .int m_brackets, .int m_matched, .long m_number, .int m_fault]))] := hD
            refine lv_aload_n hx hb dX4_less_74 rfl (lv_at hl 0 rfl) ?_
            refine lv_bipush (v := 30) hx hb dX4_less_75 (by decide) ?_
            refine gcall_i (va_runV (As := [.int 30]) (rest := []) ⟨hx, hb, hml, hown, hts⟩ (c_X4_go l D cI V mh m_te m_size m_re m_len m_kn m_bg m_en m_dp m_nm m_sz m_aa m_asz m_elements m_most m_values m_place m_phase m_state m_begin (nI t) m_refr m_tag m_tagsz m_quote m_chars m_brackets m_matched m_number m_fault np no na t H.size 30) (cwV 1 hts (tb_goodV kk_3_88 kk_3_90 kk_0_24 kk_1_6 kk_3_91) rfl rfl rfl (hdV_X4_go) ⟨Nat.le_of_ble_eq_true rfl, Nat.le_of_ble_eq_true rfl⟩) (gpreV hK hN hV hS hA hP hD [0] rfl rfl (by decide) (va_recv hK hP (ci := 4) (q0 := 0) rfl rfl)) rfl rfl hl.1 rfl (lv_room (Nat.le_of_ble_eq_true rfl)) dX4_less_77 ⟨Nat.le_of_ble_eq_true rfl, Nat.le_of_ble_eq_true rfl⟩) hP hD hS hA [0] [] (wr := []) rfl rfl (by decide) (by decide) (fun r_5 u_6 H locs hw_77 hP hD hS => ?_)
            try dsimp only at hw_77
            have hP : va_P D classes [(mh, .inr (4, [.ref m_te, .int m_size, .ref m_re, .int m_len, .int (nI np), .ref m_kn, .ref m_bg, .ref m_en, .ref m_dp, .int (nI no), .ref m_nm, .ref m_sz, .int (nI na), .ref m_aa, .ref m_asz, .int m_elements, .int m_most, .int m_values, .int m_place, .int m_phase, .int 30, .int (nI t), .int m_begin, .int (nI t), .int m_refr, .int m_tag, .int m_tagsz, .int m_quote, .int m_chars, .int m_brackets, .int m_matched, .long m_number, .int m_fault]))] H := hP
            have hD : va_D A [(mh, .inr (4, [.ref m_te, .int m_size, .ref m_re, .int m_len, .int (nI np), .ref m_kn, .ref m_bg, .ref m_en, .ref m_dp, .int (nI no), .ref m_nm, .ref m_sz, .int (nI na), .ref m_aa, .ref m_asz, .int m_elements, .int m_most, .int m_values, .int m_place, .int m_phase, .int 30, .int (nI t), .int m_begin, .int (nI t), .int m_refr, .int m_tag, .int m_tagsz, .int m_quote, .int m_chars, .int m_brackets, .int m_matched, .long m_number, .int m_fault]))] := hD
            have hP9 := hP.sub (ws' := [(mh, .inr (4, [.ref m_te, .int m_size, .ref m_re, .int m_len, .int (nI np), .ref m_kn, .ref m_bg, .ref m_en, .ref m_dp, .int (nI no), .ref m_nm, .ref m_sz, .int (nI na), .ref m_aa, .ref m_asz, .int m_elements, .int m_most, .int m_values, .int m_place, .int m_phase, .int 30, .int (nI t), .int m_begin, .int (nI t), .int m_refr, .int m_tag, .int m_tagsz, .int m_quote, .int m_chars, .int m_brackets, .int m_matched, .long m_number, .int m_fault]))]) [0] rfl
            have hD9 := hD.sub (ws' := [(mh, .inr (4, [.ref m_te, .int m_size, .ref m_re, .int m_len, .int (nI np), .ref m_kn, .ref m_bg, .ref m_en, .ref m_dp, .int (nI no), .ref m_nm, .ref m_sz, .int (nI na), .ref m_aa, .ref m_asz, .int m_elements, .int m_most, .int m_values, .int m_place, .int m_phase, .int 30, .int (nI t), .int m_begin, .int (nI t), .int m_refr, .int m_tag, .int m_tagsz, .int m_quote, .int m_chars, .int m_brackets, .int m_matched, .long m_number, .int m_fault]))]) [0] (by decide) rfl
            exact W.iret (v := r_5) hx hb hr (fun t9 ht9 hW => ⟨⟨r_5, (30, (nI t), m_place, m_fault), rfl, fun _ => Or.inr (Or.inr (Or.inr (⟨rfl, rfl⟩))), by rw [ht9]; exact hP9, va_K.moved hW.alike hK, hD9⟩, hS.F ht9⟩) hS.2.2 dX4_less_80
          · skip
            refine lv_aload_n hx hb dX4_less_61 rfl (lv_at hl 0 rfl) ?_
            refine gcall_i (va_runV (As := []) (rest := []) ⟨hx, hb, hml, hown, hts⟩ (c_X4_wrong_w l D cI V mh m_te m_size m_re m_len m_kn m_bg m_en m_dp m_nm m_sz m_aa m_asz m_elements m_most m_values m_place m_phase m_state m_begin m_name m_refr m_tag m_tagsz m_quote m_chars m_brackets m_matched m_number m_fault np no na t H.size ) (cwV 0 hts (tb_goodV kk_3_92 kk_3_94 kk_0_25 kk_1_6 kk_3_95) rfl rfl rfl (hdV_X4_wrong) ⟨Nat.le_of_ble_eq_true rfl, Nat.le_of_ble_eq_true rfl⟩) (gpreV hK hN hV hS hA hP hD [0] rfl rfl (by decide) (va_recv hK hP (ci := 4) (q0 := 0) rfl rfl)) rfl rfl hl.1 rfl (lv_room (Nat.le_of_ble_eq_true rfl)) dX4_less_62 ⟨Nat.le_of_ble_eq_true rfl, Nat.le_of_ble_eq_true rfl⟩) hP hD hS hA [0] [] (wr := []) rfl rfl (by decide) (by decide) (fun r_7 u_8 H locs hw_62 hP hD hS => ?_)
            try dsimp only at hw_62
            have hP : va_P D classes [(mh, .inr (4, [.ref m_te, .int m_size, .ref m_re, .int m_len, .int (nI np), .ref m_kn, .ref m_bg, .ref m_en, .ref m_dp, .int (nI no), .ref m_nm, .ref m_sz, .int (nI na), .ref m_aa, .ref m_asz, .int m_elements, .int m_most, .int m_values, .int (nI t), .int m_phase, .int m_state, .int (nI t), .int m_begin, .int m_name, .int m_refr, .int m_tag, .int m_tagsz, .int m_quote, .int m_chars, .int m_brackets, .int m_matched, .long m_number, .int 2]))] H := hP
            have hD : va_D A [(mh, .inr (4, [.ref m_te, .int m_size, .ref m_re, .int m_len, .int (nI np), .ref m_kn, .ref m_bg, .ref m_en, .ref m_dp, .int (nI no), .ref m_nm, .ref m_sz, .int (nI na), .ref m_aa, .ref m_asz, .int m_elements, .int m_most, .int m_values, .int (nI t), .int m_phase, .int m_state, .int (nI t), .int m_begin, .int m_name, .int m_refr, .int m_tag, .int m_tagsz, .int m_quote, .int m_chars, .int m_brackets, .int m_matched, .long m_number, .int 2]))] := hD
            have hP9 := hP.sub (ws' := [(mh, .inr (4, [.ref m_te, .int m_size, .ref m_re, .int m_len, .int (nI np), .ref m_kn, .ref m_bg, .ref m_en, .ref m_dp, .int (nI no), .ref m_nm, .ref m_sz, .int (nI na), .ref m_aa, .ref m_asz, .int m_elements, .int m_most, .int m_values, .int (nI t), .int m_phase, .int m_state, .int (nI t), .int m_begin, .int m_name, .int m_refr, .int m_tag, .int m_tagsz, .int m_quote, .int m_chars, .int m_brackets, .int m_matched, .long m_number, .int 2]))]) [0] rfl
            have hD9 := hD.sub (ws' := [(mh, .inr (4, [.ref m_te, .int m_size, .ref m_re, .int m_len, .int (nI np), .ref m_kn, .ref m_bg, .ref m_en, .ref m_dp, .int (nI no), .ref m_nm, .ref m_sz, .int (nI na), .ref m_aa, .ref m_asz, .int m_elements, .int m_most, .int m_values, .int (nI t), .int m_phase, .int m_state, .int (nI t), .int m_begin, .int m_name, .int m_refr, .int m_tag, .int m_tagsz, .int m_quote, .int m_chars, .int m_brackets, .int m_matched, .long m_number, .int 2]))]) [0] (by decide) rfl
            exact W.iret (v := r_7) hx hb hr (fun t9 ht9 hW => ⟨⟨r_7, (m_state, m_name, (nI t), 2), rfl, fun q => absurd (hw_62.symm.trans q) (by decide), by rw [ht9]; exact hP9, va_K.moved hW.alike hK, hD9⟩, hS.F ht9⟩) hS.2.2 dX4_less_65
      · skip
        refine lv_aload_n hx hb dX4_less_31 rfl (lv_at hl 0 rfl) ?_
        refine va_get (D := D) (ci := 4) (v := .int m_phase) (C := RX4) (T := TX4) (N := 33) hx hb hts inX4 hown hK hP 0 rfl rfl 19 (by decide) (hts (Cond.fieldLink "NestedTagsModel" 79 "NestedTagsModel" "phase" "I") kk_2_231) (fun _ h9 => h9) rfl dX4_less_32 ?_
        refine lv_iconst (v := 1) hx hb dX4_less_35 (by decide) ?_
        refine lv_icmp_ne (tgt := 46) hx hb dX4_less_36 (by decide) (fun c_36 => ?_) (fun c_36 => ?_)
        · skip
          refine lv_iload_n hx hb dX4_less_46 rfl (lv_at hl 1 rfl) ?_
          refine gcall_i (va_runS (As := [.int p1]) (rest := []) ⟨hx, hb, hml, hown, hts⟩ (c_X4_isBegin l D cI V  s.heap.size p1) (va_cwS 1 hts (tb_goodS kk_3_104 kk_3_105 kk_1_6 kk_3_106) rfl rfl rfl (hdS_X4_isBegin) ⟨Nat.le_of_ble_eq_true rfl, Nat.le_of_ble_eq_true rfl⟩) (gpreS hK hN hV hS hA hP hD [] rfl rfl (by decide)) rfl rfl hl.1 rfl (lv_room (Nat.le_of_ble_eq_true rfl)) dX4_less_47 ⟨Nat.le_of_ble_eq_true rfl, Nat.le_of_ble_eq_true rfl⟩) hP hD hS hA [] [0] (wr := [(mh, .inr (4, [.ref m_te, .int m_size, .ref m_re, .int m_len, .int (nI np), .ref m_kn, .ref m_bg, .ref m_en, .ref m_dp, .int (nI no), .ref m_nm, .ref m_sz, .int (nI na), .ref m_aa, .ref m_asz, .int m_elements, .int m_most, .int m_values, .int m_place, .int m_phase, .int m_state, .int (nI t), .int m_begin, .int m_name, .int m_refr, .int m_tag, .int m_tagsz, .int m_quote, .int m_chars, .int m_brackets, .int m_matched, .long m_number, .int m_fault]))]) rfl rfl (by decide) (by decide) (fun r_9 u_10 H locs hw_47 hP hD hS => ?_)
          try dsimp only at hw_47
          have hP : va_P D classes [(mh, .inr (4, [.ref m_te, .int m_size, .ref m_re, .int m_len, .int (nI np), .ref m_kn, .ref m_bg, .ref m_en, .ref m_dp, .int (nI no), .ref m_nm, .ref m_sz, .int (nI na), .ref m_aa, .ref m_asz, .int m_elements, .int m_most, .int m_values, .int m_place, .int m_phase, .int m_state, .int (nI t), .int m_begin, .int m_name, .int m_refr, .int m_tag, .int m_tagsz, .int m_quote, .int m_chars, .int m_brackets, .int m_matched, .long m_number, .int m_fault]))] H := hP
          have hD : va_D A [(mh, .inr (4, [.ref m_te, .int m_size, .ref m_re, .int m_len, .int (nI np), .ref m_kn, .ref m_bg, .ref m_en, .ref m_dp, .int (nI no), .ref m_nm, .ref m_sz, .int (nI na), .ref m_aa, .ref m_asz, .int m_elements, .int m_most, .int m_values, .int m_place, .int m_phase, .int m_state, .int (nI t), .int m_begin, .int m_name, .int m_refr, .int m_tag, .int m_tagsz, .int m_quote, .int m_chars, .int m_brackets, .int m_matched, .long m_number, .int m_fault]))] := hD
          refine lv_if_eq (tgt := 61) hx hb dX4_less_50 (by decide) (fun c_50 => ?_) (fun c_50 => ?_)
          · skip
            refine lv_aload_n hx hb dX4_less_61 rfl (lv_at hl 0 rfl) ?_
            refine gcall_i (va_runV (As := []) (rest := []) ⟨hx, hb, hml, hown, hts⟩ (c_X4_wrong_w l D cI V mh m_te m_size m_re m_len m_kn m_bg m_en m_dp m_nm m_sz m_aa m_asz m_elements m_most m_values m_place m_phase m_state m_begin m_name m_refr m_tag m_tagsz m_quote m_chars m_brackets m_matched m_number m_fault np no na t H.size ) (cwV 0 hts (tb_goodV kk_3_92 kk_3_94 kk_0_25 kk_1_6 kk_3_95) rfl rfl rfl (hdV_X4_wrong) ⟨Nat.le_of_ble_eq_true rfl, Nat.le_of_ble_eq_true rfl⟩) (gpreV hK hN hV hS hA hP hD [0] rfl rfl (by decide) (va_recv hK hP (ci := 4) (q0 := 0) rfl rfl)) rfl rfl hl.1 rfl (lv_room (Nat.le_of_ble_eq_true rfl)) dX4_less_62 ⟨Nat.le_of_ble_eq_true rfl, Nat.le_of_ble_eq_true rfl⟩) hP hD hS hA [0] [] (wr := []) rfl rfl (by decide) (by decide) (fun r_11 u_12 H locs hw_62 hP hD hS => ?_)
            try dsimp only at hw_62
            have hP : va_P D classes [(mh, .inr (4, [.ref m_te, .int m_size, .ref m_re, .int m_len, .int (nI np), .ref m_kn, .ref m_bg, .ref m_en, .ref m_dp, .int (nI no), .ref m_nm, .ref m_sz, .int (nI na), .ref m_aa, .ref m_asz, .int m_elements, .int m_most, .int m_values, .int (nI t), .int m_phase, .int m_state, .int (nI t), .int m_begin, .int m_name, .int m_refr, .int m_tag, .int m_tagsz, .int m_quote, .int m_chars, .int m_brackets, .int m_matched, .long m_number, .int 2]))] H := hP
            have hD : va_D A [(mh, .inr (4, [.ref m_te, .int m_size, .ref m_re, .int m_len, .int (nI np), .ref m_kn, .ref m_bg, .ref m_en, .ref m_dp, .int (nI no), .ref m_nm, .ref m_sz, .int (nI na), .ref m_aa, .ref m_asz, .int m_elements, .int m_most, .int m_values, .int (nI t), .int m_phase, .int m_state, .int (nI t), .int m_begin, .int m_name, .int m_refr, .int m_tag, .int m_tagsz, .int m_quote, .int m_chars, .int m_brackets, .int m_matched, .long m_number, .int 2]))] := hD
            have hP9 := hP.sub (ws' := [(mh, .inr (4, [.ref m_te, .int m_size, .ref m_re, .int m_len, .int (nI np), .ref m_kn, .ref m_bg, .ref m_en, .ref m_dp, .int (nI no), .ref m_nm, .ref m_sz, .int (nI na), .ref m_aa, .ref m_asz, .int m_elements, .int m_most, .int m_values, .int (nI t), .int m_phase, .int m_state, .int (nI t), .int m_begin, .int m_name, .int m_refr, .int m_tag, .int m_tagsz, .int m_quote, .int m_chars, .int m_brackets, .int m_matched, .long m_number, .int 2]))]) [0] rfl
            have hD9 := hD.sub (ws' := [(mh, .inr (4, [.ref m_te, .int m_size, .ref m_re, .int m_len, .int (nI np), .ref m_kn, .ref m_bg, .ref m_en, .ref m_dp, .int (nI no), .ref m_nm, .ref m_sz, .int (nI na), .ref m_aa, .ref m_asz, .int m_elements, .int m_most, .int m_values, .int (nI t), .int m_phase, .int m_state, .int (nI t), .int m_begin, .int m_name, .int m_refr, .int m_tag, .int m_tagsz, .int m_quote, .int m_chars, .int m_brackets, .int m_matched, .long m_number, .int 2]))]) [0] (by decide) rfl
            exact W.iret (v := r_11) hx hb hr (fun t9 ht9 hW => ⟨⟨r_11, (m_state, m_name, (nI t), 2), rfl, fun q => absurd (hw_62.symm.trans q) (by decide), by rw [ht9]; exact hP9, va_K.moved hW.alike hK, hD9⟩, hS.F ht9⟩) hS.2.2 dX4_less_65
          · skip
            refine lv_aload_n hx hb dX4_less_53 rfl (lv_at hl 0 rfl) ?_
            refine va_get (D := D) (ci := 4) (v := .int m_phase) (C := RX4) (T := TX4) (N := 33) hx hb hts inX4 hown hK hP 0 rfl rfl 19 (by decide) (hts (Cond.fieldLink "NestedTagsModel" 79 "NestedTagsModel" "phase" "I") kk_2_231) (fun _ h9 => h9) rfl dX4_less_54 ?_
            refine lv_iconst (v := 2) hx hb dX4_less_57 (by decide) ?_
            refine lv_icmp_ne (tgt := 66) hx hb dX4_less_58 (by decide) (fun c_58 => ?_) (fun c_58 => ?_)
            · skip
              refine lv_aload_n hx hb dX4_less_66 rfl (lv_at hl 0 rfl) ?_
              refine lv_aload_n hx hb dX4_less_67 rfl (lv_at hl 0 rfl) ?_
              refine va_get (D := D) (ci := 4) (v := .int (nI t)) (C := RX4) (T := TX4) (N := 33) hx hb hts inX4 hown hK hP 0 rfl rfl 21 (by decide) (hts (Cond.fieldLink "NestedTagsModel" 59 "NestedTagsModel" "at" "I") kk_2_233) (fun _ h9 => h9) rfl dX4_less_68 ?_
              refine va_put (D := D) (ci := 4) (v := .int (nI t)) (ty := .int) (C := RX4) (T := TX4) (N := 33) hx hb hts inX4 tyX4 tyX4_ok nmX4 hown hK hP hD hS 0 rfl rfl 23 (by decide) (hts (Cond.fieldLink "NestedTagsModel" 86 "NestedTagsModel" "name" "I") kk_2_235) (fun _ h9 => h9) rfl (tyX4_ok 23 (by decide)) rfl rfl (Nat.le_of_ble_eq_true rfl) dX4_less_71 (fun H locs hP hD hS => ?_)
              have hP : va_P D classes [(mh, .inr (4, [.ref m_te, .int m_size, .ref m_re, .int m_len, .int (nI np), .ref m_kn, .ref m_bg, .ref m_en, .ref m_dp, .int (nI no), .ref m_nm, .ref m_sz, .int (nI na), .ref m_aa, .ref m_asz, .int m_elements, .int m_most, .int m_values, .int m_place, .int m_phase, .int m_state, .int (nI t), .int m_begin, .int (nI t), .int m_refr, .int m_tag, .int m_tagsz, .int m_quote, .int m_chars, .int m_brackets, .int m_matched, .long m_number, .int m_fault]))] H := hP
              have hD : va_D A [(mh, .inr (4, [.ref m_te, .int m_size, .ref m_re, .int m_len, .int (nI np), .ref m_kn, .ref m_bg, .ref m_en, .ref m_dp, .int (nI no), .ref m_nm, .ref m_sz, .int (nI na), .ref m_aa, .ref m_asz, .int m_elements, .int m_most, .int m_values, .int m_place, .int m_phase, .int m_state, .int (nI t), .int m_begin, .int (nI t), .int m_refr, .int m_tag, .int m_tagsz, .int m_quote, .int m_chars, .int m_brackets, .int m_matched, .long m_number, .int m_fault]))] := hD
              refine lv_aload_n hx hb dX4_less_74 rfl (lv_at hl 0 rfl) ?_
              refine lv_bipush (v := 30) hx hb dX4_less_75 (by decide) ?_
              refine gcall_i (va_runV (As := [.int 30]) (rest := []) ⟨hx, hb, hml, hown, hts⟩ (c_X4_go l D cI V mh m_te m_size m_re m_len m_kn m_bg m_en m_dp m_nm m_sz m_aa m_asz m_elements m_most m_values m_place m_phase m_state m_begin (nI t) m_refr m_tag m_tagsz m_quote m_chars m_brackets m_matched m_number m_fault np no na t H.size 30) (cwV 1 hts (tb_goodV kk_3_88 kk_3_90 kk_0_24 kk_1_6 kk_3_91) rfl rfl rfl (hdV_X4_go) ⟨Nat.le_of_ble_eq_true rfl, Nat.le_of_ble_eq_true rfl⟩) (gpreV hK hN hV hS hA hP hD [0] rfl rfl (by decide) (va_recv hK hP (ci := 4) (q0 := 0) rfl rfl)) rfl rfl hl.1 rfl (lv_room (Nat.le_of_ble_eq_true rfl)) dX4_less_77 ⟨Nat.le_of_ble_eq_true rfl, Nat.le_of_ble_eq_true rfl⟩) hP hD hS hA [0] [] (wr := []) rfl rfl (by decide) (by decide) (fun r_13 u_14 H locs hw_77 hP hD hS => ?_)
              try dsimp only at hw_77
              have hP : va_P D classes [(mh, .inr (4, [.ref m_te, .int m_size, .ref m_re, .int m_len, .int (nI np), .ref m_kn, .ref m_bg, .ref m_en, .ref m_dp, .int (nI no), .ref m_nm, .ref m_sz, .int (nI na), .ref m_aa, .ref m_asz, .int m_elements, .int m_most, .int m_values, .int m_place, .int m_phase, .int 30, .int (nI t), .int m_begin, .int (nI t), .int m_refr, .int m_tag, .int m_tagsz, .int m_quote, .int m_chars, .int m_brackets, .int m_matched, .long m_number, .int m_fault]))] H := hP
              have hD : va_D A [(mh, .inr (4, [.ref m_te, .int m_size, .ref m_re, .int m_len, .int (nI np), .ref m_kn, .ref m_bg, .ref m_en, .ref m_dp, .int (nI no), .ref m_nm, .ref m_sz, .int (nI na), .ref m_aa, .ref m_asz, .int m_elements, .int m_most, .int m_values, .int m_place, .int m_phase, .int 30, .int (nI t), .int m_begin, .int (nI t), .int m_refr, .int m_tag, .int m_tagsz, .int m_quote, .int m_chars, .int m_brackets, .int m_matched, .long m_number, .int m_fault]))] := hD
              have hP9 := hP.sub (ws' := [(mh, .inr (4, [.ref m_te, .int m_size, .ref m_re, .int m_len, .int (nI np), .ref m_kn, .ref m_bg, .ref m_en, .ref m_dp, .int (nI no), .ref m_nm, .ref m_sz, .int (nI na), .ref m_aa, .ref m_asz, .int m_elements, .int m_most, .int m_values, .int m_place, .int m_phase, .int 30, .int (nI t), .int m_begin, .int (nI t), .int m_refr, .int m_tag, .int m_tagsz, .int m_quote, .int m_chars, .int m_brackets, .int m_matched, .long m_number, .int m_fault]))]) [0] rfl
              have hD9 := hD.sub (ws' := [(mh, .inr (4, [.ref m_te, .int m_size, .ref m_re, .int m_len, .int (nI np), .ref m_kn, .ref m_bg, .ref m_en, .ref m_dp, .int (nI no), .ref m_nm, .ref m_sz, .int (nI na), .ref m_aa, .ref m_asz, .int m_elements, .int m_most, .int m_values, .int m_place, .int m_phase, .int 30, .int (nI t), .int m_begin, .int (nI t), .int m_refr, .int m_tag, .int m_tagsz, .int m_quote, .int m_chars, .int m_brackets, .int m_matched, .long m_number, .int m_fault]))]) [0] (by decide) rfl
              exact W.iret (v := r_13) hx hb hr (fun t9 ht9 hW => ⟨⟨r_13, (30, (nI t), m_place, m_fault), rfl, fun _ => Or.inr (Or.inr (Or.inr (⟨rfl, rfl⟩))), by rw [ht9]; exact hP9, va_K.moved hW.alike hK, hD9⟩, hS.F ht9⟩) hS.2.2 dX4_less_80
            · skip
              refine lv_aload_n hx hb dX4_less_61 rfl (lv_at hl 0 rfl) ?_
              refine gcall_i (va_runV (As := []) (rest := []) ⟨hx, hb, hml, hown, hts⟩ (c_X4_wrong_w l D cI V mh m_te m_size m_re m_len m_kn m_bg m_en m_dp m_nm m_sz m_aa m_asz m_elements m_most m_values m_place m_phase m_state m_begin m_name m_refr m_tag m_tagsz m_quote m_chars m_brackets m_matched m_number m_fault np no na t H.size ) (cwV 0 hts (tb_goodV kk_3_92 kk_3_94 kk_0_25 kk_1_6 kk_3_95) rfl rfl rfl (hdV_X4_wrong) ⟨Nat.le_of_ble_eq_true rfl, Nat.le_of_ble_eq_true rfl⟩) (gpreV hK hN hV hS hA hP hD [0] rfl rfl (by decide) (va_recv hK hP (ci := 4) (q0 := 0) rfl rfl)) rfl rfl hl.1 rfl (lv_room (Nat.le_of_ble_eq_true rfl)) dX4_less_62 ⟨Nat.le_of_ble_eq_true rfl, Nat.le_of_ble_eq_true rfl⟩) hP hD hS hA [0] [] (wr := []) rfl rfl (by decide) (by decide) (fun r_15 u_16 H locs hw_62 hP hD hS => ?_)
              try dsimp only at hw_62
              have hP : va_P D classes [(mh, .inr (4, [.ref m_te, .int m_size, .ref m_re, .int m_len, .int (nI np), .ref m_kn, .ref m_bg, .ref m_en, .ref m_dp, .int (nI no), .ref m_nm, .ref m_sz, .int (nI na), .ref m_aa, .ref m_asz, .int m_elements, .int m_most, .int m_values, .int (nI t), .int m_phase, .int m_state, .int (nI t), .int m_begin, .int m_name, .int m_refr, .int m_tag, .int m_tagsz, .int m_quote, .int m_chars, .int m_brackets, .int m_matched, .long m_number, .int 2]))] H := hP
              have hD : va_D A [(mh, .inr (4, [.ref m_te, .int m_size, .ref m_re, .int m_len, .int (nI np), .ref m_kn, .ref m_bg, .ref m_en, .ref m_dp, .int (nI no), .ref m_nm, .ref m_sz, .int (nI na), .ref m_aa, .ref m_asz, .int m_elements, .int m_most, .int m_values, .int (nI t), .int m_phase, .int m_state, .int (nI t), .int m_begin, .int m_name, .int m_refr, .int m_tag, .int m_tagsz, .int m_quote, .int m_chars, .int m_brackets, .int m_matched, .long m_number, .int 2]))] := hD
              have hP9 := hP.sub (ws' := [(mh, .inr (4, [.ref m_te, .int m_size, .ref m_re, .int m_len, .int (nI np), .ref m_kn, .ref m_bg, .ref m_en, .ref m_dp, .int (nI no), .ref m_nm, .ref m_sz, .int (nI na), .ref m_aa, .ref m_asz, .int m_elements, .int m_most, .int m_values, .int (nI t), .int m_phase, .int m_state, .int (nI t), .int m_begin, .int m_name, .int m_refr, .int m_tag, .int m_tagsz, .int m_quote, .int m_chars, .int m_brackets, .int m_matched, .long m_number, .int 2]))]) [0] rfl
              have hD9 := hD.sub (ws' := [(mh, .inr (4, [.ref m_te, .int m_size, .ref m_re, .int m_len, .int (nI np), .ref m_kn, .ref m_bg, .ref m_en, .ref m_dp, .int (nI no), .ref m_nm, .ref m_sz, .int (nI na), .ref m_aa, .ref m_asz, .int m_elements, .int m_most, .int m_values, .int (nI t), .int m_phase, .int m_state, .int (nI t), .int m_begin, .int m_name, .int m_refr, .int m_tag, .int m_tagsz, .int m_quote, .int m_chars, .int m_brackets, .int m_matched, .long m_number, .int 2]))]) [0] (by decide) rfl
              exact W.iret (v := r_15) hx hb hr (fun t9 ht9 hW => ⟨⟨r_15, (m_state, m_name, (nI t), 2), rfl, fun q => absurd (hw_62.symm.trans q) (by decide), by rw [ht9]; exact hP9, va_K.moved hW.alike hK, hD9⟩, hS.F ht9⟩) hS.2.2 dX4_less_65
        · skip
          refine lv_aload_n hx hb dX4_less_39 rfl (lv_at hl 0 rfl) ?_
          refine lv_bipush (v := 20) hx hb dX4_less_40 (by decide) ?_
          refine gcall_i (va_runV (As := [.int 20]) (rest := []) ⟨hx, hb, hml, hown, hts⟩ (c_X4_go l D cI V mh m_te m_size m_re m_len m_kn m_bg m_en m_dp m_nm m_sz m_aa m_asz m_elements m_most m_values m_place m_phase m_state m_begin m_name m_refr m_tag m_tagsz m_quote m_chars m_brackets m_matched m_number m_fault np no na t s.heap.size 20) (cwV 1 hts (tb_goodV kk_3_88 kk_3_90 kk_0_24 kk_1_6 kk_3_91) rfl rfl rfl (hdV_X4_go) ⟨Nat.le_of_ble_eq_true rfl, Nat.le_of_ble_eq_true rfl⟩) (gpreV hK hN hV hS hA hP hD [0] rfl rfl (by decide) (va_recv hK hP (ci := 4) (q0 := 0) rfl rfl)) rfl rfl hl.1 rfl (lv_room (Nat.le_of_ble_eq_true rfl)) dX4_less_42 ⟨Nat.le_of_ble_eq_true rfl, Nat.le_of_ble_eq_true rfl⟩) hP hD hS hA [0] [] (wr := []) rfl rfl (by decide) (by decide) (fun r_17 u_18 H locs hw_42 hP hD hS => ?_)
          try dsimp only at hw_42
          have hP : va_P D classes [(mh, .inr (4, [.ref m_te, .int m_size, .ref m_re, .int m_len, .int (nI np), .ref m_kn, .ref m_bg, .ref m_en, .ref m_dp, .int (nI no), .ref m_nm, .ref m_sz, .int (nI na), .ref m_aa, .ref m_asz, .int m_elements, .int m_most, .int m_values, .int m_place, .int m_phase, .int 20, .int (nI t), .int m_begin, .int m_name, .int m_refr, .int m_tag, .int m_tagsz, .int m_quote, .int m_chars, .int m_brackets, .int m_matched, .long m_number, .int m_fault]))] H := hP
          have hD : va_D A [(mh, .inr (4, [.ref m_te, .int m_size, .ref m_re, .int m_len, .int (nI np), .ref m_kn, .ref m_bg, .ref m_en, .ref m_dp, .int (nI no), .ref m_nm, .ref m_sz, .int (nI na), .ref m_aa, .ref m_asz, .int m_elements, .int m_most, .int m_values, .int m_place, .int m_phase, .int 20, .int (nI t), .int m_begin, .int m_name, .int m_refr, .int m_tag, .int m_tagsz, .int m_quote, .int m_chars, .int m_brackets, .int m_matched, .long m_number, .int m_fault]))] := hD
          have hP9 := hP.sub (ws' := [(mh, .inr (4, [.ref m_te, .int m_size, .ref m_re, .int m_len, .int (nI np), .ref m_kn, .ref m_bg, .ref m_en, .ref m_dp, .int (nI no), .ref m_nm, .ref m_sz, .int (nI na), .ref m_aa, .ref m_asz, .int m_elements, .int m_most, .int m_values, .int m_place, .int m_phase, .int 20, .int (nI t), .int m_begin, .int m_name, .int m_refr, .int m_tag, .int m_tagsz, .int m_quote, .int m_chars, .int m_brackets, .int m_matched, .long m_number, .int m_fault]))]) [0] rfl
          have hD9 := hD.sub (ws' := [(mh, .inr (4, [.ref m_te, .int m_size, .ref m_re, .int m_len, .int (nI np), .ref m_kn, .ref m_bg, .ref m_en, .ref m_dp, .int (nI no), .ref m_nm, .ref m_sz, .int (nI na), .ref m_aa, .ref m_asz, .int m_elements, .int m_most, .int m_values, .int m_place, .int m_phase, .int 20, .int (nI t), .int m_begin, .int m_name, .int m_refr, .int m_tag, .int m_tagsz, .int m_quote, .int m_chars, .int m_brackets, .int m_matched, .long m_number, .int m_fault]))]) [0] (by decide) rfl
          exact W.iret (v := r_17) hx hb hr (fun t9 ht9 hW => ⟨⟨r_17, (20, m_name, m_place, m_fault), rfl, fun _ => Or.inr (Or.inr (Or.inl (⟨rfl, c_36⟩))), by rw [ht9]; exact hP9, va_K.moved hW.alike hK, hD9⟩, hS.F ht9⟩) hS.2.2 dX4_less_45
    · skip
      refine lv_aload_n hx hb dX4_less_18 rfl (lv_at hl 0 rfl) ?_
      refine lv_bipush (v := 10) hx hb dX4_less_19 (by decide) ?_
      refine gcall_i (va_runV (As := [.int 10]) (rest := []) ⟨hx, hb, hml, hown, hts⟩ (c_X4_go l D cI V mh m_te m_size m_re m_len m_kn m_bg m_en m_dp m_nm m_sz m_aa m_asz m_elements m_most m_values m_place m_phase m_state m_begin m_name m_refr m_tag m_tagsz m_quote m_chars m_brackets m_matched m_number m_fault np no na t s.heap.size 10) (cwV 1 hts (tb_goodV kk_3_88 kk_3_90 kk_0_24 kk_1_6 kk_3_91) rfl rfl rfl (hdV_X4_go) ⟨Nat.le_of_ble_eq_true rfl, Nat.le_of_ble_eq_true rfl⟩) (gpreV hK hN hV hS hA hP hD [0] rfl rfl (by decide) (va_recv hK hP (ci := 4) (q0 := 0) rfl rfl)) rfl rfl hl.1 rfl (lv_room (Nat.le_of_ble_eq_true rfl)) dX4_less_21 ⟨Nat.le_of_ble_eq_true rfl, Nat.le_of_ble_eq_true rfl⟩) hP hD hS hA [0] [] (wr := []) rfl rfl (by decide) (by decide) (fun r_19 u_20 H locs hw_21 hP hD hS => ?_)
      try dsimp only at hw_21
      have hP : va_P D classes [(mh, .inr (4, [.ref m_te, .int m_size, .ref m_re, .int m_len, .int (nI np), .ref m_kn, .ref m_bg, .ref m_en, .ref m_dp, .int (nI no), .ref m_nm, .ref m_sz, .int (nI na), .ref m_aa, .ref m_asz, .int m_elements, .int m_most, .int m_values, .int m_place, .int m_phase, .int 10, .int (nI t), .int m_begin, .int m_name, .int m_refr, .int m_tag, .int m_tagsz, .int m_quote, .int m_chars, .int m_brackets, .int m_matched, .long m_number, .int m_fault]))] H := hP
      have hD : va_D A [(mh, .inr (4, [.ref m_te, .int m_size, .ref m_re, .int m_len, .int (nI np), .ref m_kn, .ref m_bg, .ref m_en, .ref m_dp, .int (nI no), .ref m_nm, .ref m_sz, .int (nI na), .ref m_aa, .ref m_asz, .int m_elements, .int m_most, .int m_values, .int m_place, .int m_phase, .int 10, .int (nI t), .int m_begin, .int m_name, .int m_refr, .int m_tag, .int m_tagsz, .int m_quote, .int m_chars, .int m_brackets, .int m_matched, .long m_number, .int m_fault]))] := hD
      have hP9 := hP.sub (ws' := [(mh, .inr (4, [.ref m_te, .int m_size, .ref m_re, .int m_len, .int (nI np), .ref m_kn, .ref m_bg, .ref m_en, .ref m_dp, .int (nI no), .ref m_nm, .ref m_sz, .int (nI na), .ref m_aa, .ref m_asz, .int m_elements, .int m_most, .int m_values, .int m_place, .int m_phase, .int 10, .int (nI t), .int m_begin, .int m_name, .int m_refr, .int m_tag, .int m_tagsz, .int m_quote, .int m_chars, .int m_brackets, .int m_matched, .long m_number, .int m_fault]))]) [0] rfl
      have hD9 := hD.sub (ws' := [(mh, .inr (4, [.ref m_te, .int m_size, .ref m_re, .int m_len, .int (nI np), .ref m_kn, .ref m_bg, .ref m_en, .ref m_dp, .int (nI no), .ref m_nm, .ref m_sz, .int (nI na), .ref m_aa, .ref m_asz, .int m_elements, .int m_most, .int m_values, .int m_place, .int m_phase, .int 10, .int (nI t), .int m_begin, .int m_name, .int m_refr, .int m_tag, .int m_tagsz, .int m_quote, .int m_chars, .int m_brackets, .int m_matched, .long m_number, .int m_fault]))]) [0] (by decide) rfl
      exact W.iret (v := r_19) hx hb hr (fun t9 ht9 hW => ⟨⟨r_19, (10, m_name, m_place, m_fault), rfl, fun _ => Or.inr (Or.inl (rfl)), by rw [ht9]; exact hP9, va_K.moved hW.alike hK, hD9⟩, hS.F ht9⟩) hS.2.2 dX4_less_24
  · skip
    refine lv_aload_n hx hb dX4_less_6 rfl (lv_at hl 0 rfl) ?_
    refine lv_iconst (v := 2) hx hb dX4_less_7 (by decide) ?_
    refine gcall_i (va_runV (As := [.int 2]) (rest := []) ⟨hx, hb, hml, hown, hts⟩ (c_X4_go l D cI V mh m_te m_size m_re m_len m_kn m_bg m_en m_dp m_nm m_sz m_aa m_asz m_elements m_most m_values m_place m_phase m_state m_begin m_name m_refr m_tag m_tagsz m_quote m_chars m_brackets m_matched m_number m_fault np no na t s.heap.size 2) (cwV 1 hts (tb_goodV kk_3_88 kk_3_90 kk_0_24 kk_1_6 kk_3_91) rfl rfl rfl (hdV_X4_go) ⟨Nat.le_of_ble_eq_true rfl, Nat.le_of_ble_eq_true rfl⟩) (gpreV hK hN hV hS hA hP hD [0] rfl rfl (by decide) (va_recv hK hP (ci := 4) (q0 := 0) rfl rfl)) rfl rfl hl.1 rfl (lv_room (Nat.le_of_ble_eq_true rfl)) dX4_less_8 ⟨Nat.le_of_ble_eq_true rfl, Nat.le_of_ble_eq_true rfl⟩) hP hD hS hA [0] [] (wr := []) rfl rfl (by decide) (by decide) (fun r_21 u_22 H locs hw_8 hP hD hS => ?_)
    try dsimp only at hw_8
    have hP : va_P D classes [(mh, .inr (4, [.ref m_te, .int m_size, .ref m_re, .int m_len, .int (nI np), .ref m_kn, .ref m_bg, .ref m_en, .ref m_dp, .int (nI no), .ref m_nm, .ref m_sz, .int (nI na), .ref m_aa, .ref m_asz, .int m_elements, .int m_most, .int m_values, .int m_place, .int m_phase, .int 2, .int (nI t), .int m_begin, .int m_name, .int m_refr, .int m_tag, .int m_tagsz, .int m_quote, .int m_chars, .int m_brackets, .int m_matched, .long m_number, .int m_fault]))] H := hP
    have hD : va_D A [(mh, .inr (4, [.ref m_te, .int m_size, .ref m_re, .int m_len, .int (nI np), .ref m_kn, .ref m_bg, .ref m_en, .ref m_dp, .int (nI no), .ref m_nm, .ref m_sz, .int (nI na), .ref m_aa, .ref m_asz, .int m_elements, .int m_most, .int m_values, .int m_place, .int m_phase, .int 2, .int (nI t), .int m_begin, .int m_name, .int m_refr, .int m_tag, .int m_tagsz, .int m_quote, .int m_chars, .int m_brackets, .int m_matched, .long m_number, .int m_fault]))] := hD
    have hP9 := hP.sub (ws' := [(mh, .inr (4, [.ref m_te, .int m_size, .ref m_re, .int m_len, .int (nI np), .ref m_kn, .ref m_bg, .ref m_en, .ref m_dp, .int (nI no), .ref m_nm, .ref m_sz, .int (nI na), .ref m_aa, .ref m_asz, .int m_elements, .int m_most, .int m_values, .int m_place, .int m_phase, .int 2, .int (nI t), .int m_begin, .int m_name, .int m_refr, .int m_tag, .int m_tagsz, .int m_quote, .int m_chars, .int m_brackets, .int m_matched, .long m_number, .int m_fault]))]) [0] rfl
    have hD9 := hD.sub (ws' := [(mh, .inr (4, [.ref m_te, .int m_size, .ref m_re, .int m_len, .int (nI np), .ref m_kn, .ref m_bg, .ref m_en, .ref m_dp, .int (nI no), .ref m_nm, .ref m_sz, .int (nI na), .ref m_aa, .ref m_asz, .int m_elements, .int m_most, .int m_values, .int m_place, .int m_phase, .int 2, .int (nI t), .int m_begin, .int m_name, .int m_refr, .int m_tag, .int m_tagsz, .int m_quote, .int m_chars, .int m_brackets, .int m_matched, .long m_number, .int m_fault]))]) [0] (by decide) rfl
    exact W.iret (v := r_21) hx hb hr (fun t9 ht9 hW => ⟨⟨r_21, (2, m_name, m_place, m_fault), rfl, fun _ => Or.inl (rfl), by rw [ht9]; exact hP9, va_K.moved hW.alike hK, hD9⟩, hS.F ht9⟩) hS.2.2 dX4_less_11
