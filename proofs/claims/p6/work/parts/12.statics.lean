set_option maxHeartbeats 4000000 in
set_option maxRecDepth 100000 in
/-- X3_isBlank -/
theorem c_X3_isBlank (l : Launch) (D : va_G) (cI : ClassId) (V : (Nat → Nat) × (Nat → Nat))  (sz : Nat) (p1 : Int32)  : Met l yX3_isBlank (.code yX3_isBlank cX3_isBlank 1 (some .boolean) :: tbW) ({ frames := 0, cells := 0, slots := 0, locals := 0 }) (va_Pc [.int p1] (gP D cI V [] sz)) (va_Qi (fun (r : Int32) (u : Unit) => r = 0 ∨ r = 1) (fun u => gB D cI (va_A [] sz) []) (va_A [] sz)) 0 0 (va_A [] sz) := by
  refine Met.ofW (cc := cX3_isBlank) (maxL := 1) (ret := (some .boolean)) (by decide) rfl ?_
  intro p e s m args below meth c s₁ B hml hv
  obtain ⟨rfl, hsz, hP, hK, hD0, hN, hV⟩ := hv
  have hx := B.exec
  have hb := B.bytes
  have hr := B.returns
  have hts := tb_hts (atoms_spec (ws := .code yX3_isBlank cX3_isBlank 1 (some .boolean) :: tbW) B.pre)
  have hown : s.vm.findClass RX3 = some m.cls := findClass_of_methodNamed B.named
  have hlocks := B.notSynchronized
  subst hsz
  have hD := hD0.self (sz := s.heap.size)
  generalize hAe : va_A [] s.heap.size = A at hD hV ⊢
  have hA : ∀ q : Nat, s.heap.size ≤ q → A q := fun q h => by rw [← hAe]; exact Or.inr h
  have hS : va_S A s.heap s.heap [] := va_S.rf
  have hP : va_P D classes [] s.heap := hP
  have hl := lv_entry ([.int p1]) (n := 1) (Nat.le_of_ble_eq_true rfl)
  rw [lg_entry_eq]
  generalize (lg_sl ([.int p1]) ++ List.replicate (1 - (lg_sl ([.int p1])).length) Slot.unset).toArray = ls at hl ⊢
  have hl : lv_has ls 1 [(0, .int p1)] := hl
  refine lv_iload_n hx hb dX3_isBlank_0 rfl (lv_at hl 0 rfl) ?_
  refine lv_bipush (v := 9) hx hb dX3_isBlank_1 (by decide) ?_
  refine lv_icmp_eq (tgt := 24) hx hb dX3_isBlank_3 (by decide) (fun c_3 => ?_) (fun c_3 => ?_)
  · skip
    refine lv_iconst (v := 1) hx hb dX3_isBlank_24 (by decide) ?_
    refine lv_goto (tgt := 29) hx hb dX3_isBlank_25 (by decide) ?_
    have hP9 := hP.sub (ws' := []) [] rfl
    have hD9 := hD.sub (ws' := []) [] (by decide) rfl
    exact W.zret (v := 1) (ty := .boolean) hx hb hr rfl (fun t ht hW => ⟨⟨1, (), rfl, Or.inr rfl, by rw [ht]; exact hP9, va_K.moved hW.alike hK, hD9⟩, hS.F ht⟩) hS.2.2 dX3_isBlank_29
  · skip
    refine lv_iload_n hx hb dX3_isBlank_6 rfl (lv_at hl 0 rfl) ?_
    refine lv_bipush (v := 10) hx hb dX3_isBlank_7 (by decide) ?_
    refine lv_icmp_eq (tgt := 24) hx hb dX3_isBlank_9 (by decide) (fun c_9 => ?_) (fun c_9 => ?_)
    · skip
      refine lv_iconst (v := 1) hx hb dX3_isBlank_24 (by decide) ?_
      refine lv_goto (tgt := 29) hx hb dX3_isBlank_25 (by decide) ?_
      have hP9 := hP.sub (ws' := []) [] rfl
      have hD9 := hD.sub (ws' := []) [] (by decide) rfl
      exact W.zret (v := 1) (ty := .boolean) hx hb hr rfl (fun t ht hW => ⟨⟨1, (), rfl, Or.inr rfl, by rw [ht]; exact hP9, va_K.moved hW.alike hK, hD9⟩, hS.F ht⟩) hS.2.2 dX3_isBlank_29
    · skip
      refine lv_iload_n hx hb dX3_isBlank_12 rfl (lv_at hl 0 rfl) ?_
      refine lv_bipush (v := 13) hx hb dX3_isBlank_13 (by decide) ?_
      refine lv_icmp_eq (tgt := 24) hx hb dX3_isBlank_15 (by decide) (fun c_15 => ?_) (fun c_15 => ?_)
      · skip
        refine lv_iconst (v := 1) hx hb dX3_isBlank_24 (by decide) ?_
        refine lv_goto (tgt := 29) hx hb dX3_isBlank_25 (by decide) ?_
        have hP9 := hP.sub (ws' := []) [] rfl
        have hD9 := hD.sub (ws' := []) [] (by decide) rfl
        exact W.zret (v := 1) (ty := .boolean) hx hb hr rfl (fun t ht hW => ⟨⟨1, (), rfl, Or.inr rfl, by rw [ht]; exact hP9, va_K.moved hW.alike hK, hD9⟩, hS.F ht⟩) hS.2.2 dX3_isBlank_29
      · skip
        refine lv_iload_n hx hb dX3_isBlank_18 rfl (lv_at hl 0 rfl) ?_
        refine lv_bipush (v := 32) hx hb dX3_isBlank_19 (by decide) ?_
        refine lv_icmp_ne (tgt := 28) hx hb dX3_isBlank_21 (by decide) (fun c_21 => ?_) (fun c_21 => ?_)
        · skip
          refine lv_iconst (v := 0) hx hb dX3_isBlank_28 (by decide) ?_
          have hP9 := hP.sub (ws' := []) [] rfl
          have hD9 := hD.sub (ws' := []) [] (by decide) rfl
          exact W.zret (v := 0) (ty := .boolean) hx hb hr rfl (fun t ht hW => ⟨⟨0, (), rfl, Or.inl rfl, by rw [ht]; exact hP9, va_K.moved hW.alike hK, hD9⟩, hS.F ht⟩) hS.2.2 dX3_isBlank_29
        · skip
          refine lv_iconst (v := 1) hx hb dX3_isBlank_24 (by decide) ?_
          refine lv_goto (tgt := 29) hx hb dX3_isBlank_25 (by decide) ?_
          have hP9 := hP.sub (ws' := []) [] rfl
          have hD9 := hD.sub (ws' := []) [] (by decide) rfl
          exact W.zret (v := 1) (ty := .boolean) hx hb hr rfl (fun t ht hW => ⟨⟨1, (), rfl, Or.inr rfl, by rw [ht]; exact hP9, va_K.moved hW.alike hK, hD9⟩, hS.F ht⟩) hS.2.2 dX3_isBlank_29

set_option maxHeartbeats 4000000 in
set_option maxRecDepth 100000 in
/-- X3_isCharacter -/
theorem c_X3_isCharacter (l : Launch) (D : va_G) (cI : ClassId) (V : (Nat → Nat) × (Nat → Nat))  (sz : Nat) (p1 : Int32)  : Met l yX3_isCharacter (.code yX3_isCharacter cX3_isCharacter 1 (some .boolean) :: tbW) ({ frames := 1, cells := 0, slots := 0, locals := 20 }) (va_Pc [.int p1] (gP D cI V [] sz)) (va_Qi (fun (r : Int32) (u : Unit) => r = 0 ∨ r = 1) (fun u => gB D cI (va_A [] sz) []) (va_A [] sz)) 0 0 (va_A [] sz) := by
  refine Met.ofW (cc := cX3_isCharacter) (maxL := 1) (ret := (some .boolean)) (by decide) rfl ?_
  intro p e s m args below meth c s₁ B hml hv
  obtain ⟨rfl, hsz, hP, hK, hD0, hN, hV⟩ := hv
  have hx := B.exec
  have hb := B.bytes
  have hr := B.returns
  have hts := tb_hts (atoms_spec (ws := .code yX3_isCharacter cX3_isCharacter 1 (some .boolean) :: tbW) B.pre)
  have hown : s.vm.findClass RX3 = some m.cls := findClass_of_methodNamed B.named
  have hlocks := B.notSynchronized
  subst hsz
  have hD := hD0.self (sz := s.heap.size)
  generalize hAe : va_A [] s.heap.size = A at hD hV ⊢
  have hA : ∀ q : Nat, s.heap.size ≤ q → A q := fun q h => by rw [← hAe]; exact Or.inr h
  have hS : va_S A s.heap s.heap [] := va_S.rf
  have hP : va_P D classes [] s.heap := hP
  have hl := lv_entry ([.int p1]) (n := 1) (Nat.le_of_ble_eq_true rfl)
  rw [lg_entry_eq]
  generalize (lg_sl ([.int p1]) ++ List.replicate (1 - (lg_sl ([.int p1])).length) Slot.unset).toArray = ls at hl ⊢
  have hl : lv_has ls 1 [(0, .int p1)] := hl
  refine lv_iload_n hx hb dX3_isCharacter_0 rfl (lv_at hl 0 rfl) ?_
  refine gcall_i (va_runS (As := [.int p1]) (rest := []) ⟨hx, hb, hml, hown, hts⟩ (c_X3_isBlank l D cI V  s.heap.size p1) (va_cwS 1 hts (tb_goodS kk_2_33 kk_2_34 kk_1_1 kk_2_35) rfl rfl rfl (hdS_X3_isBlank) ⟨Nat.le_of_ble_eq_true rfl, Nat.le_of_ble_eq_true rfl⟩) (gpreS hK hN hV hS hA hP hD [] rfl rfl (by decide)) rfl rfl hl.1 rfl (lv_room (Nat.le_of_ble_eq_true rfl)) dX3_isCharacter_1 ⟨Nat.le_of_ble_eq_true rfl, Nat.le_of_ble_eq_true rfl⟩) hP hD hS hA [] [] (wr := []) rfl rfl (by decide) (by decide) (fun r_1 u_2 H locs hw_1 hP hD hS => ?_)
  try dsimp only at hw_1
  have hP : va_P D classes [] H := hP
  have hD : va_D A [] := hD
  refine lv_if_ne (tgt := 19) hx hb dX3_isCharacter_4 (by decide) (fun c_4 => ?_) (fun c_4 => ?_)
  · skip
    refine lv_iconst (v := 1) hx hb dX3_isCharacter_19 (by decide) ?_
    refine lv_goto (tgt := 24) hx hb dX3_isCharacter_20 (by decide) ?_
    have hP9 := hP.sub (ws' := []) [] rfl
    have hD9 := hD.sub (ws' := []) [] (by decide) rfl
    exact W.zret (v := 1) (ty := .boolean) hx hb hr rfl (fun t ht hW => ⟨⟨1, (), rfl, Or.inr rfl, by rw [ht]; exact hP9, va_K.moved hW.alike hK, hD9⟩, hS.F ht⟩) hS.2.2 dX3_isCharacter_24
  · skip
    refine lv_iload_n hx hb dX3_isCharacter_7 rfl (lv_at hl 0 rfl) ?_
    refine lv_bipush (v := 32) hx hb dX3_isCharacter_8 (by decide) ?_
    refine lv_icmp_le (tgt := 23) hx hb dX3_isCharacter_10 (by decide) (fun c_10 => ?_) (fun c_10 => ?_)
    · skip
      refine lv_iconst (v := 0) hx hb dX3_isCharacter_23 (by decide) ?_
      have hP9 := hP.sub (ws' := []) [] rfl
      have hD9 := hD.sub (ws' := []) [] (by decide) rfl
      exact W.zret (v := 0) (ty := .boolean) hx hb hr rfl (fun t ht hW => ⟨⟨0, (), rfl, Or.inl rfl, by rw [ht]; exact hP9, va_K.moved hW.alike hK, hD9⟩, hS.F ht⟩) hS.2.2 dX3_isCharacter_24
    · skip
      refine lv_iload_n hx hb dX3_isCharacter_13 rfl (lv_at hl 0 rfl) ?_
      refine lv_bipush (v := 126) hx hb dX3_isCharacter_14 (by decide) ?_
      refine lv_icmp_gt (tgt := 23) hx hb dX3_isCharacter_16 (by decide) (fun c_16 => ?_) (fun c_16 => ?_)
      · skip
        refine lv_iconst (v := 0) hx hb dX3_isCharacter_23 (by decide) ?_
        have hP9 := hP.sub (ws' := []) [] rfl
        have hD9 := hD.sub (ws' := []) [] (by decide) rfl
        exact W.zret (v := 0) (ty := .boolean) hx hb hr rfl (fun t ht hW => ⟨⟨0, (), rfl, Or.inl rfl, by rw [ht]; exact hP9, va_K.moved hW.alike hK, hD9⟩, hS.F ht⟩) hS.2.2 dX3_isCharacter_24
      · skip
        refine lv_iconst (v := 1) hx hb dX3_isCharacter_19 (by decide) ?_
        refine lv_goto (tgt := 24) hx hb dX3_isCharacter_20 (by decide) ?_
        have hP9 := hP.sub (ws' := []) [] rfl
        have hD9 := hD.sub (ws' := []) [] (by decide) rfl
        exact W.zret (v := 1) (ty := .boolean) hx hb hr rfl (fun t ht hW => ⟨⟨1, (), rfl, Or.inr rfl, by rw [ht]; exact hP9, va_K.moved hW.alike hK, hD9⟩, hS.F ht⟩) hS.2.2 dX3_isCharacter_24

set_option maxHeartbeats 4000000 in
set_option maxRecDepth 100000 in
/-- X3_isContentCharacter -/
theorem c_X3_isContentCharacter (l : Launch) (D : va_G) (cI : ClassId) (V : (Nat → Nat) × (Nat → Nat))  (sz : Nat) (p1 : Int32)  : Met l yX3_isContentCharacter (.code yX3_isContentCharacter cX3_isContentCharacter 1 (some .boolean) :: tbW) ({ frames := 2, cells := 0, slots := 0, locals := 40 }) (va_Pc [.int p1] (gP D cI V [] sz)) (va_Qi (fun (r : Int32) (u : Unit) => r = 0 ∨ r = 1) (fun u => gB D cI (va_A [] sz) []) (va_A [] sz)) 0 0 (va_A [] sz) := by
  refine Met.ofW (cc := cX3_isContentCharacter) (maxL := 1) (ret := (some .boolean)) (by decide) rfl ?_
  intro p e s m args below meth c s₁ B hml hv
  obtain ⟨rfl, hsz, hP, hK, hD0, hN, hV⟩ := hv
  have hx := B.exec
  have hb := B.bytes
  have hr := B.returns
  have hts := tb_hts (atoms_spec (ws := .code yX3_isContentCharacter cX3_isContentCharacter 1 (some .boolean) :: tbW) B.pre)
  have hown : s.vm.findClass RX3 = some m.cls := findClass_of_methodNamed B.named
  have hlocks := B.notSynchronized
  subst hsz
  have hD := hD0.self (sz := s.heap.size)
  generalize hAe : va_A [] s.heap.size = A at hD hV ⊢
  have hA : ∀ q : Nat, s.heap.size ≤ q → A q := fun q h => by rw [← hAe]; exact Or.inr h
  have hS : va_S A s.heap s.heap [] := va_S.rf
  have hP : va_P D classes [] s.heap := hP
  have hl := lv_entry ([.int p1]) (n := 1) (Nat.le_of_ble_eq_true rfl)
  rw [lg_entry_eq]
  generalize (lg_sl ([.int p1]) ++ List.replicate (1 - (lg_sl ([.int p1])).length) Slot.unset).toArray = ls at hl ⊢
  have hl : lv_has ls 1 [(0, .int p1)] := hl
  refine lv_iload_n hx hb dX3_isContentCharacter_0 rfl (lv_at hl 0 rfl) ?_
  refine gcall_i (va_runS (As := [.int p1]) (rest := []) ⟨hx, hb, hml, hown, hts⟩ (c_X3_isCharacter l D cI V  s.heap.size p1) (va_cwS 1 hts (tb_goodS kk_2_30 kk_2_31 kk_1_1 kk_2_32) rfl rfl rfl (hdS_X3_isCharacter) ⟨Nat.le_of_ble_eq_true rfl, Nat.le_of_ble_eq_true rfl⟩) (gpreS hK hN hV hS hA hP hD [] rfl rfl (by decide)) rfl rfl hl.1 rfl (lv_room (Nat.le_of_ble_eq_true rfl)) dX3_isContentCharacter_1 ⟨Nat.le_of_ble_eq_true rfl, Nat.le_of_ble_eq_true rfl⟩) hP hD hS hA [] [] (wr := []) rfl rfl (by decide) (by decide) (fun r_1 u_2 H locs hw_1 hP hD hS => ?_)
  try dsimp only at hw_1
  have hP : va_P D classes [] H := hP
  have hD : va_D A [] := hD
  refine lv_if_eq (tgt := 23) hx hb dX3_isContentCharacter_4 (by decide) (fun c_4 => ?_) (fun c_4 => ?_)
  · skip
    refine lv_iconst (v := 0) hx hb dX3_isContentCharacter_23 (by decide) ?_
    have hP9 := hP.sub (ws' := []) [] rfl
    have hD9 := hD.sub (ws' := []) [] (by decide) rfl
    exact W.zret (v := 0) (ty := .boolean) hx hb hr rfl (fun t ht hW => ⟨⟨0, (), rfl, Or.inl rfl, by rw [ht]; exact hP9, va_K.moved hW.alike hK, hD9⟩, hS.F ht⟩) hS.2.2 dX3_isContentCharacter_24
  · skip
    refine lv_iload_n hx hb dX3_isContentCharacter_7 rfl (lv_at hl 0 rfl) ?_
    refine lv_bipush (v := 60) hx hb dX3_isContentCharacter_8 (by decide) ?_
    refine lv_icmp_eq (tgt := 23) hx hb dX3_isContentCharacter_10 (by decide) (fun c_10 => ?_) (fun c_10 => ?_)
    · skip
      refine lv_iconst (v := 0) hx hb dX3_isContentCharacter_23 (by decide) ?_
      have hP9 := hP.sub (ws' := []) [] rfl
      have hD9 := hD.sub (ws' := []) [] (by decide) rfl
      exact W.zret (v := 0) (ty := .boolean) hx hb hr rfl (fun t ht hW => ⟨⟨0, (), rfl, Or.inl rfl, by rw [ht]; exact hP9, va_K.moved hW.alike hK, hD9⟩, hS.F ht⟩) hS.2.2 dX3_isContentCharacter_24
    · skip
      refine lv_iload_n hx hb dX3_isContentCharacter_13 rfl (lv_at hl 0 rfl) ?_
      refine lv_bipush (v := 38) hx hb dX3_isContentCharacter_14 (by decide) ?_
      refine lv_icmp_eq (tgt := 23) hx hb dX3_isContentCharacter_16 (by decide) (fun c_16 => ?_) (fun c_16 => ?_)
      · skip
        refine lv_iconst (v := 0) hx hb dX3_isContentCharacter_23 (by decide) ?_
        have hP9 := hP.sub (ws' := []) [] rfl
        have hD9 := hD.sub (ws' := []) [] (by decide) rfl
        exact W.zret (v := 0) (ty := .boolean) hx hb hr rfl (fun t ht hW => ⟨⟨0, (), rfl, Or.inl rfl, by rw [ht]; exact hP9, va_K.moved hW.alike hK, hD9⟩, hS.F ht⟩) hS.2.2 dX3_isContentCharacter_24
      · skip
        refine lv_iconst (v := 1) hx hb dX3_isContentCharacter_19 (by decide) ?_
        refine lv_goto (tgt := 24) hx hb dX3_isContentCharacter_20 (by decide) ?_
        have hP9 := hP.sub (ws' := []) [] rfl
        have hD9 := hD.sub (ws' := []) [] (by decide) rfl
        exact W.zret (v := 1) (ty := .boolean) hx hb hr rfl (fun t ht hW => ⟨⟨1, (), rfl, Or.inr rfl, by rw [ht]; exact hP9, va_K.moved hW.alike hK, hD9⟩, hS.F ht⟩) hS.2.2 dX3_isContentCharacter_24

set_option maxHeartbeats 4000000 in
set_option maxRecDepth 100000 in
/-- X3_isNameStart -/
theorem c_X3_isNameStart (l : Launch) (D : va_G) (cI : ClassId) (V : (Nat → Nat) × (Nat → Nat))  (sz : Nat) (p1 : Int32)  : Met l yX3_isNameStart (.code yX3_isNameStart cX3_isNameStart 1 (some .boolean) :: tbW) ({ frames := 0, cells := 0, slots := 0, locals := 0 }) (va_Pc [.int p1] (gP D cI V [] sz)) (va_Qi (fun (r : Int32) (u : Unit) => r = 0 ∨ r = 1) (fun u => gB D cI (va_A [] sz) []) (va_A [] sz)) 0 0 (va_A [] sz) := by
  refine Met.ofW (cc := cX3_isNameStart) (maxL := 1) (ret := (some .boolean)) (by decide) rfl ?_
  intro p e s m args below meth c s₁ B hml hv
  obtain ⟨rfl, hsz, hP, hK, hD0, hN, hV⟩ := hv
  have hx := B.exec
  have hb := B.bytes
  have hr := B.returns
  have hts := tb_hts (atoms_spec (ws := .code yX3_isNameStart cX3_isNameStart 1 (some .boolean) :: tbW) B.pre)
  have hown : s.vm.findClass RX3 = some m.cls := findClass_of_methodNamed B.named
  have hlocks := B.notSynchronized
  subst hsz
  have hD := hD0.self (sz := s.heap.size)
  generalize hAe : va_A [] s.heap.size = A at hD hV ⊢
  have hA : ∀ q : Nat, s.heap.size ≤ q → A q := fun q h => by rw [← hAe]; exact Or.inr h
  have hS : va_S A s.heap s.heap [] := va_S.rf
  have hP : va_P D classes [] s.heap := hP
  have hl := lv_entry ([.int p1]) (n := 1) (Nat.le_of_ble_eq_true rfl)
  rw [lg_entry_eq]
  generalize (lg_sl ([.int p1]) ++ List.replicate (1 - (lg_sl ([.int p1])).length) Slot.unset).toArray = ls at hl ⊢
  have hl : lv_has ls 1 [(0, .int p1)] := hl
  refine lv_iload_n hx hb dX3_isNameStart_0 rfl (lv_at hl 0 rfl) ?_
  refine lv_bipush (v := 65) hx hb dX3_isNameStart_1 (by decide) ?_
  refine lv_icmp_lt (tgt := 12) hx hb dX3_isNameStart_3 (by decide) (fun c_3 => ?_) (fun c_3 => ?_)
  · skip
    refine lv_iload_n hx hb dX3_isNameStart_12 rfl (lv_at hl 0 rfl) ?_
    refine lv_bipush (v := 97) hx hb dX3_isNameStart_13 (by decide) ?_
    refine lv_icmp_lt (tgt := 24) hx hb dX3_isNameStart_15 (by decide) (fun c_15 => ?_) (fun c_15 => ?_)
    · skip
      refine lv_iload_n hx hb dX3_isNameStart_24 rfl (lv_at hl 0 rfl) ?_
      refine lv_bipush (v := 95) hx hb dX3_isNameStart_25 (by decide) ?_
      refine lv_icmp_eq (tgt := 36) hx hb dX3_isNameStart_27 (by decide) (fun c_27 => ?_) (fun c_27 => ?_)
      · skip
        refine lv_iconst (v := 1) hx hb dX3_isNameStart_36 (by decide) ?_
        refine lv_goto (tgt := 41) hx hb dX3_isNameStart_37 (by decide) ?_
        have hP9 := hP.sub (ws' := []) [] rfl
        have hD9 := hD.sub (ws' := []) [] (by decide) rfl
        exact W.zret (v := 1) (ty := .boolean) hx hb hr rfl (fun t ht hW => ⟨⟨1, (), rfl, Or.inr rfl, by rw [ht]; exact hP9, va_K.moved hW.alike hK, hD9⟩, hS.F ht⟩) hS.2.2 dX3_isNameStart_41
      · skip
        refine lv_iload_n hx hb dX3_isNameStart_30 rfl (lv_at hl 0 rfl) ?_
        refine lv_bipush (v := 58) hx hb dX3_isNameStart_31 (by decide) ?_
        refine lv_icmp_ne (tgt := 40) hx hb dX3_isNameStart_33 (by decide) (fun c_33 => ?_) (fun c_33 => ?_)
        · skip
          refine lv_iconst (v := 0) hx hb dX3_isNameStart_40 (by decide) ?_
          have hP9 := hP.sub (ws' := []) [] rfl
          have hD9 := hD.sub (ws' := []) [] (by decide) rfl
          exact W.zret (v := 0) (ty := .boolean) hx hb hr rfl (fun t ht hW => ⟨⟨0, (), rfl, Or.inl rfl, by rw [ht]; exact hP9, va_K.moved hW.alike hK, hD9⟩, hS.F ht⟩) hS.2.2 dX3_isNameStart_41
        · skip
          refine lv_iconst (v := 1) hx hb dX3_isNameStart_36 (by decide) ?_
          refine lv_goto (tgt := 41) hx hb dX3_isNameStart_37 (by decide) ?_
          have hP9 := hP.sub (ws' := []) [] rfl
          have hD9 := hD.sub (ws' := []) [] (by decide) rfl
          exact W.zret (v := 1) (ty := .boolean) hx hb hr rfl (fun t ht hW => ⟨⟨1, (), rfl, Or.inr rfl, by rw [ht]; exact hP9, va_K.moved hW.alike hK, hD9⟩, hS.F ht⟩) hS.2.2 dX3_isNameStart_41
    · skip
      refine lv_iload_n hx hb dX3_isNameStart_18 rfl (lv_at hl 0 rfl) ?_
      refine lv_bipush (v := 122) hx hb dX3_isNameStart_19 (by decide) ?_
      refine lv_icmp_le (tgt := 36) hx hb dX3_isNameStart_21 (by decide) (fun c_21 => ?_) (fun c_21 => ?_)
      · skip
        refine lv_iconst (v := 1) hx hb dX3_isNameStart_36 (by decide) ?_
        refine lv_goto (tgt := 41) hx hb dX3_isNameStart_37 (by decide) ?_
        have hP9 := hP.sub (ws' := []) [] rfl
        have hD9 := hD.sub (ws' := []) [] (by decide) rfl
        exact W.zret (v := 1) (ty := .boolean) hx hb hr rfl (fun t ht hW => ⟨⟨1, (), rfl, Or.inr rfl, by rw [ht]; exact hP9, va_K.moved hW.alike hK, hD9⟩, hS.F ht⟩) hS.2.2 dX3_isNameStart_41
      · skip
        refine lv_iload_n hx hb dX3_isNameStart_24 rfl (lv_at hl 0 rfl) ?_
        refine lv_bipush (v := 95) hx hb dX3_isNameStart_25 (by decide) ?_
        refine lv_icmp_eq (tgt := 36) hx hb dX3_isNameStart_27 (by decide) (fun c_27 => ?_) (fun c_27 => ?_)
        · skip
          refine lv_iconst (v := 1) hx hb dX3_isNameStart_36 (by decide) ?_
          refine lv_goto (tgt := 41) hx hb dX3_isNameStart_37 (by decide) ?_
          have hP9 := hP.sub (ws' := []) [] rfl
          have hD9 := hD.sub (ws' := []) [] (by decide) rfl
          exact W.zret (v := 1) (ty := .boolean) hx hb hr rfl (fun t ht hW => ⟨⟨1, (), rfl, Or.inr rfl, by rw [ht]; exact hP9, va_K.moved hW.alike hK, hD9⟩, hS.F ht⟩) hS.2.2 dX3_isNameStart_41
        · skip
          refine lv_iload_n hx hb dX3_isNameStart_30 rfl (lv_at hl 0 rfl) ?_
          refine lv_bipush (v := 58) hx hb dX3_isNameStart_31 (by decide) ?_
          refine lv_icmp_ne (tgt := 40) hx hb dX3_isNameStart_33 (by decide) (fun c_33 => ?_) (fun c_33 => ?_)
          · skip
            refine lv_iconst (v := 0) hx hb dX3_isNameStart_40 (by decide) ?_
            have hP9 := hP.sub (ws' := []) [] rfl
            have hD9 := hD.sub (ws' := []) [] (by decide) rfl
            exact W.zret (v := 0) (ty := .boolean) hx hb hr rfl (fun t ht hW => ⟨⟨0, (), rfl, Or.inl rfl, by rw [ht]; exact hP9, va_K.moved hW.alike hK, hD9⟩, hS.F ht⟩) hS.2.2 dX3_isNameStart_41
          · skip
            refine lv_iconst (v := 1) hx hb dX3_isNameStart_36 (by decide) ?_
            refine lv_goto (tgt := 41) hx hb dX3_isNameStart_37 (by decide) ?_
            have hP9 := hP.sub (ws' := []) [] rfl
            have hD9 := hD.sub (ws' := []) [] (by decide) rfl
            exact W.zret (v := 1) (ty := .boolean) hx hb hr rfl (fun t ht hW => ⟨⟨1, (), rfl, Or.inr rfl, by rw [ht]; exact hP9, va_K.moved hW.alike hK, hD9⟩, hS.F ht⟩) hS.2.2 dX3_isNameStart_41
  · skip
    refine lv_iload_n hx hb dX3_isNameStart_6 rfl (lv_at hl 0 rfl) ?_
    refine lv_bipush (v := 90) hx hb dX3_isNameStart_7 (by decide) ?_
    refine lv_icmp_le (tgt := 36) hx hb dX3_isNameStart_9 (by decide) (fun c_9 => ?_) (fun c_9 => ?_)
    · skip
      refine lv_iconst (v := 1) hx hb dX3_isNameStart_36 (by decide) ?_
      refine lv_goto (tgt := 41) hx hb dX3_isNameStart_37 (by decide) ?_
      have hP9 := hP.sub (ws' := []) [] rfl
      have hD9 := hD.sub (ws' := []) [] (by decide) rfl
      exact W.zret (v := 1) (ty := .boolean) hx hb hr rfl (fun t ht hW => ⟨⟨1, (), rfl, Or.inr rfl, by rw [ht]; exact hP9, va_K.moved hW.alike hK, hD9⟩, hS.F ht⟩) hS.2.2 dX3_isNameStart_41
    · skip
      refine lv_iload_n hx hb dX3_isNameStart_12 rfl (lv_at hl 0 rfl) ?_
      refine lv_bipush (v := 97) hx hb dX3_isNameStart_13 (by decide) ?_
      refine lv_icmp_lt (tgt := 24) hx hb dX3_isNameStart_15 (by decide) (fun c_15 => ?_) (fun c_15 => ?_)
      · skip
        refine lv_iload_n hx hb dX3_isNameStart_24 rfl (lv_at hl 0 rfl) ?_
        refine lv_bipush (v := 95) hx hb dX3_isNameStart_25 (by decide) ?_
        refine lv_icmp_eq (tgt := 36) hx hb dX3_isNameStart_27 (by decide) (fun c_27 => ?_) (fun c_27 => ?_)
        · skip
          refine lv_iconst (v := 1) hx hb dX3_isNameStart_36 (by decide) ?_
          refine lv_goto (tgt := 41) hx hb dX3_isNameStart_37 (by decide) ?_
          have hP9 := hP.sub (ws' := []) [] rfl
          have hD9 := hD.sub (ws' := []) [] (by decide) rfl
          exact W.zret (v := 1) (ty := .boolean) hx hb hr rfl (fun t ht hW => ⟨⟨1, (), rfl, Or.inr rfl, by rw [ht]; exact hP9, va_K.moved hW.alike hK, hD9⟩, hS.F ht⟩) hS.2.2 dX3_isNameStart_41
        · skip
          refine lv_iload_n hx hb dX3_isNameStart_30 rfl (lv_at hl 0 rfl) ?_
          refine lv_bipush (v := 58) hx hb dX3_isNameStart_31 (by decide) ?_
          refine lv_icmp_ne (tgt := 40) hx hb dX3_isNameStart_33 (by decide) (fun c_33 => ?_) (fun c_33 => ?_)
          · skip
            refine lv_iconst (v := 0) hx hb dX3_isNameStart_40 (by decide) ?_
            have hP9 := hP.sub (ws' := []) [] rfl
            have hD9 := hD.sub (ws' := []) [] (by decide) rfl
            exact W.zret (v := 0) (ty := .boolean) hx hb hr rfl (fun t ht hW => ⟨⟨0, (), rfl, Or.inl rfl, by rw [ht]; exact hP9, va_K.moved hW.alike hK, hD9⟩, hS.F ht⟩) hS.2.2 dX3_isNameStart_41
          · skip
            refine lv_iconst (v := 1) hx hb dX3_isNameStart_36 (by decide) ?_
            refine lv_goto (tgt := 41) hx hb dX3_isNameStart_37 (by decide) ?_
            have hP9 := hP.sub (ws' := []) [] rfl
            have hD9 := hD.sub (ws' := []) [] (by decide) rfl
            exact W.zret (v := 1) (ty := .boolean) hx hb hr rfl (fun t ht hW => ⟨⟨1, (), rfl, Or.inr rfl, by rw [ht]; exact hP9, va_K.moved hW.alike hK, hD9⟩, hS.F ht⟩) hS.2.2 dX3_isNameStart_41
      · skip
        refine lv_iload_n hx hb dX3_isNameStart_18 rfl (lv_at hl 0 rfl) ?_
        refine lv_bipush (v := 122) hx hb dX3_isNameStart_19 (by decide) ?_
        refine lv_icmp_le (tgt := 36) hx hb dX3_isNameStart_21 (by decide) (fun c_21 => ?_) (fun c_21 => ?_)
        · skip
          refine lv_iconst (v := 1) hx hb dX3_isNameStart_36 (by decide) ?_
          refine lv_goto (tgt := 41) hx hb dX3_isNameStart_37 (by decide) ?_
          have hP9 := hP.sub (ws' := []) [] rfl
          have hD9 := hD.sub (ws' := []) [] (by decide) rfl
          exact W.zret (v := 1) (ty := .boolean) hx hb hr rfl (fun t ht hW => ⟨⟨1, (), rfl, Or.inr rfl, by rw [ht]; exact hP9, va_K.moved hW.alike hK, hD9⟩, hS.F ht⟩) hS.2.2 dX3_isNameStart_41
        · skip
          refine lv_iload_n hx hb dX3_isNameStart_24 rfl (lv_at hl 0 rfl) ?_
          refine lv_bipush (v := 95) hx hb dX3_isNameStart_25 (by decide) ?_
          refine lv_icmp_eq (tgt := 36) hx hb dX3_isNameStart_27 (by decide) (fun c_27 => ?_) (fun c_27 => ?_)
          · skip
            refine lv_iconst (v := 1) hx hb dX3_isNameStart_36 (by decide) ?_
            refine lv_goto (tgt := 41) hx hb dX3_isNameStart_37 (by decide) ?_
            have hP9 := hP.sub (ws' := []) [] rfl
            have hD9 := hD.sub (ws' := []) [] (by decide) rfl
            exact W.zret (v := 1) (ty := .boolean) hx hb hr rfl (fun t ht hW => ⟨⟨1, (), rfl, Or.inr rfl, by rw [ht]; exact hP9, va_K.moved hW.alike hK, hD9⟩, hS.F ht⟩) hS.2.2 dX3_isNameStart_41
          · skip
            refine lv_iload_n hx hb dX3_isNameStart_30 rfl (lv_at hl 0 rfl) ?_
            refine lv_bipush (v := 58) hx hb dX3_isNameStart_31 (by decide) ?_
            refine lv_icmp_ne (tgt := 40) hx hb dX3_isNameStart_33 (by decide) (fun c_33 => ?_) (fun c_33 => ?_)
            · skip
              refine lv_iconst (v := 0) hx hb dX3_isNameStart_40 (by decide) ?_
              have hP9 := hP.sub (ws' := []) [] rfl
              have hD9 := hD.sub (ws' := []) [] (by decide) rfl
              exact W.zret (v := 0) (ty := .boolean) hx hb hr rfl (fun t ht hW => ⟨⟨0, (), rfl, Or.inl rfl, by rw [ht]; exact hP9, va_K.moved hW.alike hK, hD9⟩, hS.F ht⟩) hS.2.2 dX3_isNameStart_41
            · skip
              refine lv_iconst (v := 1) hx hb dX3_isNameStart_36 (by decide) ?_
              refine lv_goto (tgt := 41) hx hb dX3_isNameStart_37 (by decide) ?_
              have hP9 := hP.sub (ws' := []) [] rfl
              have hD9 := hD.sub (ws' := []) [] (by decide) rfl
              exact W.zret (v := 1) (ty := .boolean) hx hb hr rfl (fun t ht hW => ⟨⟨1, (), rfl, Or.inr rfl, by rw [ht]; exact hP9, va_K.moved hW.alike hK, hD9⟩, hS.F ht⟩) hS.2.2 dX3_isNameStart_41

set_option maxHeartbeats 4000000 in
set_option maxRecDepth 100000 in
/-- X3_isNamePart -/
theorem c_X3_isNamePart (l : Launch) (D : va_G) (cI : ClassId) (V : (Nat → Nat) × (Nat → Nat))  (sz : Nat) (p1 : Int32)  : Met l yX3_isNamePart (.code yX3_isNamePart cX3_isNamePart 1 (some .boolean) :: tbW) ({ frames := 1, cells := 0, slots := 0, locals := 20 }) (va_Pc [.int p1] (gP D cI V [] sz)) (va_Qi (fun (r : Int32) (u : Unit) => r = 0 ∨ r = 1) (fun u => gB D cI (va_A [] sz) []) (va_A [] sz)) 0 0 (va_A [] sz) := by
  refine Met.ofW (cc := cX3_isNamePart) (maxL := 1) (ret := (some .boolean)) (by decide) rfl ?_
  intro p e s m args below meth c s₁ B hml hv
  obtain ⟨rfl, hsz, hP, hK, hD0, hN, hV⟩ := hv
  have hx := B.exec
  have hb := B.bytes
  have hr := B.returns
  have hts := tb_hts (atoms_spec (ws := .code yX3_isNamePart cX3_isNamePart 1 (some .boolean) :: tbW) B.pre)
  have hown : s.vm.findClass RX3 = some m.cls := findClass_of_methodNamed B.named
  have hlocks := B.notSynchronized
  subst hsz
  have hD := hD0.self (sz := s.heap.size)
  generalize hAe : va_A [] s.heap.size = A at hD hV ⊢
  have hA : ∀ q : Nat, s.heap.size ≤ q → A q := fun q h => by rw [← hAe]; exact Or.inr h
  have hS : va_S A s.heap s.heap [] := va_S.rf
  have hP : va_P D classes [] s.heap := hP
  have hl := lv_entry ([.int p1]) (n := 1) (Nat.le_of_ble_eq_true rfl)
  rw [lg_entry_eq]
  generalize (lg_sl ([.int p1]) ++ List.replicate (1 - (lg_sl ([.int p1])).length) Slot.unset).toArray = ls at hl ⊢
  have hl : lv_has ls 1 [(0, .int p1)] := hl
  refine lv_iload_n hx hb dX3_isNamePart_0 rfl (lv_at hl 0 rfl) ?_
  refine gcall_i (va_runS (As := [.int p1]) (rest := []) ⟨hx, hb, hml, hown, hts⟩ (c_X3_isNameStart l D cI V  s.heap.size p1) (va_cwS 1 hts (tb_goodS kk_2_46 kk_2_41 kk_1_1 kk_2_42) rfl rfl rfl (hdS_X3_isNameStart) ⟨Nat.le_of_ble_eq_true rfl, Nat.le_of_ble_eq_true rfl⟩) (gpreS hK hN hV hS hA hP hD [] rfl rfl (by decide)) rfl rfl hl.1 rfl (lv_room (Nat.le_of_ble_eq_true rfl)) dX3_isNamePart_1 ⟨Nat.le_of_ble_eq_true rfl, Nat.le_of_ble_eq_true rfl⟩) hP hD hS hA [] [] (wr := []) rfl rfl (by decide) (by decide) (fun r_1 u_2 H locs hw_1 hP hD hS => ?_)
  try dsimp only at hw_1
  have hP : va_P D classes [] H := hP
  have hD : va_D A [] := hD
  refine lv_if_ne (tgt := 31) hx hb dX3_isNamePart_4 (by decide) (fun c_4 => ?_) (fun c_4 => ?_)
  · skip
    refine lv_iconst (v := 1) hx hb dX3_isNamePart_31 (by decide) ?_
    refine lv_goto (tgt := 36) hx hb dX3_isNamePart_32 (by decide) ?_
    have hP9 := hP.sub (ws' := []) [] rfl
    have hD9 := hD.sub (ws' := []) [] (by decide) rfl
    exact W.zret (v := 1) (ty := .boolean) hx hb hr rfl (fun t ht hW => ⟨⟨1, (), rfl, Or.inr rfl, by rw [ht]; exact hP9, va_K.moved hW.alike hK, hD9⟩, hS.F ht⟩) hS.2.2 dX3_isNamePart_36
  · skip
    refine lv_iload_n hx hb dX3_isNamePart_7 rfl (lv_at hl 0 rfl) ?_
    refine lv_bipush (v := 48) hx hb dX3_isNamePart_8 (by decide) ?_
    refine lv_icmp_lt (tgt := 19) hx hb dX3_isNamePart_10 (by decide) (fun c_10 => ?_) (fun c_10 => ?_)
    · skip
      refine lv_iload_n hx hb dX3_isNamePart_19 rfl (lv_at hl 0 rfl) ?_
      refine lv_bipush (v := 45) hx hb dX3_isNamePart_20 (by decide) ?_
      refine lv_icmp_eq (tgt := 31) hx hb dX3_isNamePart_22 (by decide) (fun c_22 => ?_) (fun c_22 => ?_)
      · skip
        refine lv_iconst (v := 1) hx hb dX3_isNamePart_31 (by decide) ?_
        refine lv_goto (tgt := 36) hx hb dX3_isNamePart_32 (by decide) ?_
        have hP9 := hP.sub (ws' := []) [] rfl
        have hD9 := hD.sub (ws' := []) [] (by decide) rfl
        exact W.zret (v := 1) (ty := .boolean) hx hb hr rfl (fun t ht hW => ⟨⟨1, (), rfl, Or.inr rfl, by rw [ht]; exact hP9, va_K.moved hW.alike hK, hD9⟩, hS.F ht⟩) hS.2.2 dX3_isNamePart_36
      · skip
        refine lv_iload_n hx hb dX3_isNamePart_25 rfl (lv_at hl 0 rfl) ?_
        refine lv_bipush (v := 46) hx hb dX3_isNamePart_26 (by decide) ?_
        refine lv_icmp_ne (tgt := 35) hx hb dX3_isNamePart_28 (by decide) (fun c_28 => ?_) (fun c_28 => ?_)
        · skip
          refine lv_iconst (v := 0) hx hb dX3_isNamePart_35 (by decide) ?_
          have hP9 := hP.sub (ws' := []) [] rfl
          have hD9 := hD.sub (ws' := []) [] (by decide) rfl
          exact W.zret (v := 0) (ty := .boolean) hx hb hr rfl (fun t ht hW => ⟨⟨0, (), rfl, Or.inl rfl, by rw [ht]; exact hP9, va_K.moved hW.alike hK, hD9⟩, hS.F ht⟩) hS.2.2 dX3_isNamePart_36
        · skip
          refine lv_iconst (v := 1) hx hb dX3_isNamePart_31 (by decide) ?_
          refine lv_goto (tgt := 36) hx hb dX3_isNamePart_32 (by decide) ?_
          have hP9 := hP.sub (ws' := []) [] rfl
          have hD9 := hD.sub (ws' := []) [] (by decide) rfl
          exact W.zret (v := 1) (ty := .boolean) hx hb hr rfl (fun t ht hW => ⟨⟨1, (), rfl, Or.inr rfl, by rw [ht]; exact hP9, va_K.moved hW.alike hK, hD9⟩, hS.F ht⟩) hS.2.2 dX3_isNamePart_36
    · skip
      refine lv_iload_n hx hb dX3_isNamePart_13 rfl (lv_at hl 0 rfl) ?_
      refine lv_bipush (v := 57) hx hb dX3_isNamePart_14 (by decide) ?_
      refine lv_icmp_le (tgt := 31) hx hb dX3_isNamePart_16 (by decide) (fun c_16 => ?_) (fun c_16 => ?_)
      · skip
        refine lv_iconst (v := 1) hx hb dX3_isNamePart_31 (by decide) ?_
        refine lv_goto (tgt := 36) hx hb dX3_isNamePart_32 (by decide) ?_
        have hP9 := hP.sub (ws' := []) [] rfl
        have hD9 := hD.sub (ws' := []) [] (by decide) rfl
        exact W.zret (v := 1) (ty := .boolean) hx hb hr rfl (fun t ht hW => ⟨⟨1, (), rfl, Or.inr rfl, by rw [ht]; exact hP9, va_K.moved hW.alike hK, hD9⟩, hS.F ht⟩) hS.2.2 dX3_isNamePart_36
      · skip
        refine lv_iload_n hx hb dX3_isNamePart_19 rfl (lv_at hl 0 rfl) ?_
        refine lv_bipush (v := 45) hx hb dX3_isNamePart_20 (by decide) ?_
        refine lv_icmp_eq (tgt := 31) hx hb dX3_isNamePart_22 (by decide) (fun c_22 => ?_) (fun c_22 => ?_)
        · skip
          refine lv_iconst (v := 1) hx hb dX3_isNamePart_31 (by decide) ?_
          refine lv_goto (tgt := 36) hx hb dX3_isNamePart_32 (by decide) ?_
          have hP9 := hP.sub (ws' := []) [] rfl
          have hD9 := hD.sub (ws' := []) [] (by decide) rfl
          exact W.zret (v := 1) (ty := .boolean) hx hb hr rfl (fun t ht hW => ⟨⟨1, (), rfl, Or.inr rfl, by rw [ht]; exact hP9, va_K.moved hW.alike hK, hD9⟩, hS.F ht⟩) hS.2.2 dX3_isNamePart_36
        · skip
          refine lv_iload_n hx hb dX3_isNamePart_25 rfl (lv_at hl 0 rfl) ?_
          refine lv_bipush (v := 46) hx hb dX3_isNamePart_26 (by decide) ?_
          refine lv_icmp_ne (tgt := 35) hx hb dX3_isNamePart_28 (by decide) (fun c_28 => ?_) (fun c_28 => ?_)
          · skip
            refine lv_iconst (v := 0) hx hb dX3_isNamePart_35 (by decide) ?_
            have hP9 := hP.sub (ws' := []) [] rfl
            have hD9 := hD.sub (ws' := []) [] (by decide) rfl
            exact W.zret (v := 0) (ty := .boolean) hx hb hr rfl (fun t ht hW => ⟨⟨0, (), rfl, Or.inl rfl, by rw [ht]; exact hP9, va_K.moved hW.alike hK, hD9⟩, hS.F ht⟩) hS.2.2 dX3_isNamePart_36
          · skip
            refine lv_iconst (v := 1) hx hb dX3_isNamePart_31 (by decide) ?_
            refine lv_goto (tgt := 36) hx hb dX3_isNamePart_32 (by decide) ?_
            have hP9 := hP.sub (ws' := []) [] rfl
            have hD9 := hD.sub (ws' := []) [] (by decide) rfl
            exact W.zret (v := 1) (ty := .boolean) hx hb hr rfl (fun t ht hW => ⟨⟨1, (), rfl, Or.inr rfl, by rw [ht]; exact hP9, va_K.moved hW.alike hK, hD9⟩, hS.F ht⟩) hS.2.2 dX3_isNamePart_36

set_option maxHeartbeats 4000000 in
set_option maxRecDepth 100000 in
/-- X3_digitOf -/
theorem c_X3_digitOf (l : Launch) (D : va_G) (cI : ClassId) (V : (Nat → Nat) × (Nat → Nat))  (sz : Nat) (p1 : Int32) (p2 : Int32)  : Met l yX3_digitOf (.code yX3_digitOf cX3_digitOf 2 (some .int) :: tbW) ({ frames := 0, cells := 0, slots := 0, locals := 0 }) (va_Pc [.int p1, .int p2] (gP D cI V [] sz)) (va_Qi (fun (r : Int32) (u : Unit) => True) (fun u => gB D cI (va_A [] sz) []) (va_A [] sz)) 0 0 (va_A [] sz) := by
  refine Met.ofW (cc := cX3_digitOf) (maxL := 2) (ret := (some .int)) (by decide) rfl ?_
  intro p e s m args below meth c s₁ B hml hv
  obtain ⟨rfl, hsz, hP, hK, hD0, hN, hV⟩ := hv
  have hx := B.exec
  have hb := B.bytes
  have hr := B.returns
  have hts := tb_hts (atoms_spec (ws := .code yX3_digitOf cX3_digitOf 2 (some .int) :: tbW) B.pre)
  have hown : s.vm.findClass RX3 = some m.cls := findClass_of_methodNamed B.named
  have hlocks := B.notSynchronized
  subst hsz
  have hD := hD0.self (sz := s.heap.size)
  generalize hAe : va_A [] s.heap.size = A at hD hV ⊢
  have hA : ∀ q : Nat, s.heap.size ≤ q → A q := fun q h => by rw [← hAe]; exact Or.inr h
  have hS : va_S A s.heap s.heap [] := va_S.rf
  have hP : va_P D classes [] s.heap := hP
  have hl := lv_entry ([.int p1, .int p2]) (n := 2) (Nat.le_of_ble_eq_true rfl)
  rw [lg_entry_eq]
  generalize (lg_sl ([.int p1, .int p2]) ++ List.replicate (2 - (lg_sl ([.int p1, .int p2])).length) Slot.unset).toArray = ls at hl ⊢
  have hl : lv_has ls 2 [(0, .int p1), (1, .int p2)] := hl
  refine lv_iload_n hx hb dX3_digitOf_0 rfl (lv_at hl 0 rfl) ?_
  refine lv_bipush (v := 48) hx hb dX3_digitOf_1 (by decide) ?_
  refine lv_icmp_lt (tgt := 17) hx hb dX3_digitOf_3 (by decide) (fun c_3 => ?_) (fun c_3 => ?_)
  · skip
    refine lv_iload_n hx hb dX3_digitOf_17 rfl (lv_at hl 1 rfl) ?_
    refine lv_bipush (v := 16) hx hb dX3_digitOf_18 (by decide) ?_
    refine lv_icmp_ne (tgt := 43) hx hb dX3_digitOf_20 (by decide) (fun c_20 => ?_) (fun c_20 => ?_)
    · skip
      refine lv_iload_n hx hb dX3_digitOf_43 rfl (lv_at hl 1 rfl) ?_
      refine lv_bipush (v := 16) hx hb dX3_digitOf_44 (by decide) ?_
      refine lv_icmp_ne (tgt := 69) hx hb dX3_digitOf_46 (by decide) (fun c_46 => ?_) (fun c_46 => ?_)
      · skip
        refine lv_iconst (v := (-1)) hx hb dX3_digitOf_69 (by decide) ?_
        have hP9 := hP.sub (ws' := []) [] rfl
        have hD9 := hD.sub (ws' := []) [] (by decide) rfl
        exact W.iret (v := (-1)) hx hb hr (fun t ht hW => ⟨⟨(-1), (), rfl, trivial, by rw [ht]; exact hP9, va_K.moved hW.alike hK, hD9⟩, hS.F ht⟩) hS.2.2 dX3_digitOf_70
      · skip
        refine lv_iload_n hx hb dX3_digitOf_49 rfl (lv_at hl 0 rfl) ?_
        refine lv_bipush (v := 65) hx hb dX3_digitOf_50 (by decide) ?_
        refine lv_icmp_lt (tgt := 69) hx hb dX3_digitOf_52 (by decide) (fun c_52 => ?_) (fun c_52 => ?_)
        · skip
          refine lv_iconst (v := (-1)) hx hb dX3_digitOf_69 (by decide) ?_
          have hP9 := hP.sub (ws' := []) [] rfl
          have hD9 := hD.sub (ws' := []) [] (by decide) rfl
          exact W.iret (v := (-1)) hx hb hr (fun t ht hW => ⟨⟨(-1), (), rfl, trivial, by rw [ht]; exact hP9, va_K.moved hW.alike hK, hD9⟩, hS.F ht⟩) hS.2.2 dX3_digitOf_70
        · skip
          refine lv_iload_n hx hb dX3_digitOf_55 rfl (lv_at hl 0 rfl) ?_
          refine lv_bipush (v := 70) hx hb dX3_digitOf_56 (by decide) ?_
          refine lv_icmp_gt (tgt := 69) hx hb dX3_digitOf_58 (by decide) (fun c_58 => ?_) (fun c_58 => ?_)
          · skip
            refine lv_iconst (v := (-1)) hx hb dX3_digitOf_69 (by decide) ?_
            have hP9 := hP.sub (ws' := []) [] rfl
            have hD9 := hD.sub (ws' := []) [] (by decide) rfl
            exact W.iret (v := (-1)) hx hb hr (fun t ht hW => ⟨⟨(-1), (), rfl, trivial, by rw [ht]; exact hP9, va_K.moved hW.alike hK, hD9⟩, hS.F ht⟩) hS.2.2 dX3_digitOf_70
          · skip
            refine lv_iload_n hx hb dX3_digitOf_61 rfl (lv_at hl 0 rfl) ?_
            refine lv_bipush (v := 65) hx hb dX3_digitOf_62 (by decide) ?_
            refine lv_isub hx hb dX3_digitOf_64 ?_
            refine lv_topi (fun x_1 ex_1 => ?_)
            refine lv_bipush (v := 10) hx hb dX3_digitOf_65 (by decide) ?_
            refine lv_iadd hx hb dX3_digitOf_67 ?_
            refine lv_topi (fun x_2 ex_2 => ?_)
            have hP9 := hP.sub (ws' := []) [] rfl
            have hD9 := hD.sub (ws' := []) [] (by decide) rfl
            exact W.iret (v := x_2) hx hb hr (fun t ht hW => ⟨⟨x_2, (), rfl, trivial, by rw [ht]; exact hP9, va_K.moved hW.alike hK, hD9⟩, hS.F ht⟩) hS.2.2 dX3_digitOf_68
    · skip
      refine lv_iload_n hx hb dX3_digitOf_23 rfl (lv_at hl 0 rfl) ?_
      refine lv_bipush (v := 97) hx hb dX3_digitOf_24 (by decide) ?_
      refine lv_icmp_lt (tgt := 43) hx hb dX3_digitOf_26 (by decide) (fun c_26 => ?_) (fun c_26 => ?_)
      · skip
        refine lv_iload_n hx hb dX3_digitOf_43 rfl (lv_at hl 1 rfl) ?_
        refine lv_bipush (v := 16) hx hb dX3_digitOf_44 (by decide) ?_
        refine lv_icmp_ne (tgt := 69) hx hb dX3_digitOf_46 (by decide) (fun c_46 => ?_) (fun c_46 => ?_)
        · skip
          refine lv_iconst (v := (-1)) hx hb dX3_digitOf_69 (by decide) ?_
          have hP9 := hP.sub (ws' := []) [] rfl
          have hD9 := hD.sub (ws' := []) [] (by decide) rfl
          exact W.iret (v := (-1)) hx hb hr (fun t ht hW => ⟨⟨(-1), (), rfl, trivial, by rw [ht]; exact hP9, va_K.moved hW.alike hK, hD9⟩, hS.F ht⟩) hS.2.2 dX3_digitOf_70
        · skip
          refine lv_iload_n hx hb dX3_digitOf_49 rfl (lv_at hl 0 rfl) ?_
          refine lv_bipush (v := 65) hx hb dX3_digitOf_50 (by decide) ?_
          refine lv_icmp_lt (tgt := 69) hx hb dX3_digitOf_52 (by decide) (fun c_52 => ?_) (fun c_52 => ?_)
          · skip
            refine lv_iconst (v := (-1)) hx hb dX3_digitOf_69 (by decide) ?_
            have hP9 := hP.sub (ws' := []) [] rfl
            have hD9 := hD.sub (ws' := []) [] (by decide) rfl
            exact W.iret (v := (-1)) hx hb hr (fun t ht hW => ⟨⟨(-1), (), rfl, trivial, by rw [ht]; exact hP9, va_K.moved hW.alike hK, hD9⟩, hS.F ht⟩) hS.2.2 dX3_digitOf_70
          · skip
            refine lv_iload_n hx hb dX3_digitOf_55 rfl (lv_at hl 0 rfl) ?_
            refine lv_bipush (v := 70) hx hb dX3_digitOf_56 (by decide) ?_
            refine lv_icmp_gt (tgt := 69) hx hb dX3_digitOf_58 (by decide) (fun c_58 => ?_) (fun c_58 => ?_)
            · skip
              refine lv_iconst (v := (-1)) hx hb dX3_digitOf_69 (by decide) ?_
              have hP9 := hP.sub (ws' := []) [] rfl
              have hD9 := hD.sub (ws' := []) [] (by decide) rfl
              exact W.iret (v := (-1)) hx hb hr (fun t ht hW => ⟨⟨(-1), (), rfl, trivial, by rw [ht]; exact hP9, va_K.moved hW.alike hK, hD9⟩, hS.F ht⟩) hS.2.2 dX3_digitOf_70
            · skip
              refine lv_iload_n hx hb dX3_digitOf_61 rfl (lv_at hl 0 rfl) ?_
              refine lv_bipush (v := 65) hx hb dX3_digitOf_62 (by decide) ?_
              refine lv_isub hx hb dX3_digitOf_64 ?_
              refine lv_topi (fun x_3 ex_3 => ?_)
              refine lv_bipush (v := 10) hx hb dX3_digitOf_65 (by decide) ?_
              refine lv_iadd hx hb dX3_digitOf_67 ?_
              refine lv_topi (fun x_4 ex_4 => ?_)
              have hP9 := hP.sub (ws' := []) [] rfl
              have hD9 := hD.sub (ws' := []) [] (by decide) rfl
              exact W.iret (v := x_4) hx hb hr (fun t ht hW => ⟨⟨x_4, (), rfl, trivial, by rw [ht]; exact hP9, va_K.moved hW.alike hK, hD9⟩, hS.F ht⟩) hS.2.2 dX3_digitOf_68
      · skip
        refine lv_iload_n hx hb dX3_digitOf_29 rfl (lv_at hl 0 rfl) ?_
        refine lv_bipush (v := 102) hx hb dX3_digitOf_30 (by decide) ?_
        refine lv_icmp_gt (tgt := 43) hx hb dX3_digitOf_32 (by decide) (fun c_32 => ?_) (fun c_32 => ?_)
        · skip
          refine lv_iload_n hx hb dX3_digitOf_43 rfl (lv_at hl 1 rfl) ?_
          refine lv_bipush (v := 16) hx hb dX3_digitOf_44 (by decide) ?_
          refine lv_icmp_ne (tgt := 69) hx hb dX3_digitOf_46 (by decide) (fun c_46 => ?_) (fun c_46 => ?_)
          · skip
            refine lv_iconst (v := (-1)) hx hb dX3_digitOf_69 (by decide) ?_
            have hP9 := hP.sub (ws' := []) [] rfl
            have hD9 := hD.sub (ws' := []) [] (by decide) rfl
            exact W.iret (v := (-1)) hx hb hr (fun t ht hW => ⟨⟨(-1), (), rfl, trivial, by rw [ht]; exact hP9, va_K.moved hW.alike hK, hD9⟩, hS.F ht⟩) hS.2.2 dX3_digitOf_70
          · skip
            refine lv_iload_n hx hb dX3_digitOf_49 rfl (lv_at hl 0 rfl) ?_
            refine lv_bipush (v := 65) hx hb dX3_digitOf_50 (by decide) ?_
            refine lv_icmp_lt (tgt := 69) hx hb dX3_digitOf_52 (by decide) (fun c_52 => ?_) (fun c_52 => ?_)
            · skip
              refine lv_iconst (v := (-1)) hx hb dX3_digitOf_69 (by decide) ?_
              have hP9 := hP.sub (ws' := []) [] rfl
              have hD9 := hD.sub (ws' := []) [] (by decide) rfl
              exact W.iret (v := (-1)) hx hb hr (fun t ht hW => ⟨⟨(-1), (), rfl, trivial, by rw [ht]; exact hP9, va_K.moved hW.alike hK, hD9⟩, hS.F ht⟩) hS.2.2 dX3_digitOf_70
            · skip
              refine lv_iload_n hx hb dX3_digitOf_55 rfl (lv_at hl 0 rfl) ?_
              refine lv_bipush (v := 70) hx hb dX3_digitOf_56 (by decide) ?_
              refine lv_icmp_gt (tgt := 69) hx hb dX3_digitOf_58 (by decide) (fun c_58 => ?_) (fun c_58 => ?_)
              · skip
                refine lv_iconst (v := (-1)) hx hb dX3_digitOf_69 (by decide) ?_
                have hP9 := hP.sub (ws' := []) [] rfl
                have hD9 := hD.sub (ws' := []) [] (by decide) rfl
                exact W.iret (v := (-1)) hx hb hr (fun t ht hW => ⟨⟨(-1), (), rfl, trivial, by rw [ht]; exact hP9, va_K.moved hW.alike hK, hD9⟩, hS.F ht⟩) hS.2.2 dX3_digitOf_70
              · skip
                refine lv_iload_n hx hb dX3_digitOf_61 rfl (lv_at hl 0 rfl) ?_
                refine lv_bipush (v := 65) hx hb dX3_digitOf_62 (by decide) ?_
                refine lv_isub hx hb dX3_digitOf_64 ?_
                refine lv_topi (fun x_5 ex_5 => ?_)
                refine lv_bipush (v := 10) hx hb dX3_digitOf_65 (by decide) ?_
                refine lv_iadd hx hb dX3_digitOf_67 ?_
                refine lv_topi (fun x_6 ex_6 => ?_)
                have hP9 := hP.sub (ws' := []) [] rfl
                have hD9 := hD.sub (ws' := []) [] (by decide) rfl
                exact W.iret (v := x_6) hx hb hr (fun t ht hW => ⟨⟨x_6, (), rfl, trivial, by rw [ht]; exact hP9, va_K.moved hW.alike hK, hD9⟩, hS.F ht⟩) hS.2.2 dX3_digitOf_68
        · skip
          refine lv_iload_n hx hb dX3_digitOf_35 rfl (lv_at hl 0 rfl) ?_
          refine lv_bipush (v := 97) hx hb dX3_digitOf_36 (by decide) ?_
          refine lv_isub hx hb dX3_digitOf_38 ?_
          refine lv_topi (fun x_7 ex_7 => ?_)
          refine lv_bipush (v := 10) hx hb dX3_digitOf_39 (by decide) ?_
          refine lv_iadd hx hb dX3_digitOf_41 ?_
          refine lv_topi (fun x_8 ex_8 => ?_)
          have hP9 := hP.sub (ws' := []) [] rfl
          have hD9 := hD.sub (ws' := []) [] (by decide) rfl
          exact W.iret (v := x_8) hx hb hr (fun t ht hW => ⟨⟨x_8, (), rfl, trivial, by rw [ht]; exact hP9, va_K.moved hW.alike hK, hD9⟩, hS.F ht⟩) hS.2.2 dX3_digitOf_42
  · skip
    refine lv_iload_n hx hb dX3_digitOf_6 rfl (lv_at hl 0 rfl) ?_
    refine lv_bipush (v := 57) hx hb dX3_digitOf_7 (by decide) ?_
    refine lv_icmp_gt (tgt := 17) hx hb dX3_digitOf_9 (by decide) (fun c_9 => ?_) (fun c_9 => ?_)
    · skip
      refine lv_iload_n hx hb dX3_digitOf_17 rfl (lv_at hl 1 rfl) ?_
      refine lv_bipush (v := 16) hx hb dX3_digitOf_18 (by decide) ?_
      refine lv_icmp_ne (tgt := 43) hx hb dX3_digitOf_20 (by decide) (fun c_20 => ?_) (fun c_20 => ?_)
      · skip
        refine lv_iload_n hx hb dX3_digitOf_43 rfl (lv_at hl 1 rfl) ?_
        refine lv_bipush (v := 16) hx hb dX3_digitOf_44 (by decide) ?_
        refine lv_icmp_ne (tgt := 69) hx hb dX3_digitOf_46 (by decide) (fun c_46 => ?_) (fun c_46 => ?_)
        · skip
          refine lv_iconst (v := (-1)) hx hb dX3_digitOf_69 (by decide) ?_
          have hP9 := hP.sub (ws' := []) [] rfl
          have hD9 := hD.sub (ws' := []) [] (by decide) rfl
          exact W.iret (v := (-1)) hx hb hr (fun t ht hW => ⟨⟨(-1), (), rfl, trivial, by rw [ht]; exact hP9, va_K.moved hW.alike hK, hD9⟩, hS.F ht⟩) hS.2.2 dX3_digitOf_70
        · skip
          refine lv_iload_n hx hb dX3_digitOf_49 rfl (lv_at hl 0 rfl) ?_
          refine lv_bipush (v := 65) hx hb dX3_digitOf_50 (by decide) ?_
          refine lv_icmp_lt (tgt := 69) hx hb dX3_digitOf_52 (by decide) (fun c_52 => ?_) (fun c_52 => ?_)
          · skip
            refine lv_iconst (v := (-1)) hx hb dX3_digitOf_69 (by decide) ?_
            have hP9 := hP.sub (ws' := []) [] rfl
            have hD9 := hD.sub (ws' := []) [] (by decide) rfl
            exact W.iret (v := (-1)) hx hb hr (fun t ht hW => ⟨⟨(-1), (), rfl, trivial, by rw [ht]; exact hP9, va_K.moved hW.alike hK, hD9⟩, hS.F ht⟩) hS.2.2 dX3_digitOf_70
          · skip
            refine lv_iload_n hx hb dX3_digitOf_55 rfl (lv_at hl 0 rfl) ?_
            refine lv_bipush (v := 70) hx hb dX3_digitOf_56 (by decide) ?_
            refine lv_icmp_gt (tgt := 69) hx hb dX3_digitOf_58 (by decide) (fun c_58 => ?_) (fun c_58 => ?_)
            · skip
              refine lv_iconst (v := (-1)) hx hb dX3_digitOf_69 (by decide) ?_
              have hP9 := hP.sub (ws' := []) [] rfl
              have hD9 := hD.sub (ws' := []) [] (by decide) rfl
              exact W.iret (v := (-1)) hx hb hr (fun t ht hW => ⟨⟨(-1), (), rfl, trivial, by rw [ht]; exact hP9, va_K.moved hW.alike hK, hD9⟩, hS.F ht⟩) hS.2.2 dX3_digitOf_70
            · skip
              refine lv_iload_n hx hb dX3_digitOf_61 rfl (lv_at hl 0 rfl) ?_
              refine lv_bipush (v := 65) hx hb dX3_digitOf_62 (by decide) ?_
              refine lv_isub hx hb dX3_digitOf_64 ?_
              refine lv_topi (fun x_9 ex_9 => ?_)
              refine lv_bipush (v := 10) hx hb dX3_digitOf_65 (by decide) ?_
              refine lv_iadd hx hb dX3_digitOf_67 ?_
              refine lv_topi (fun x_10 ex_10 => ?_)
              have hP9 := hP.sub (ws' := []) [] rfl
              have hD9 := hD.sub (ws' := []) [] (by decide) rfl
              exact W.iret (v := x_10) hx hb hr (fun t ht hW => ⟨⟨x_10, (), rfl, trivial, by rw [ht]; exact hP9, va_K.moved hW.alike hK, hD9⟩, hS.F ht⟩) hS.2.2 dX3_digitOf_68
      · skip
        refine lv_iload_n hx hb dX3_digitOf_23 rfl (lv_at hl 0 rfl) ?_
        refine lv_bipush (v := 97) hx hb dX3_digitOf_24 (by decide) ?_
        refine lv_icmp_lt (tgt := 43) hx hb dX3_digitOf_26 (by decide) (fun c_26 => ?_) (fun c_26 => ?_)
        · skip
          refine lv_iload_n hx hb dX3_digitOf_43 rfl (lv_at hl 1 rfl) ?_
          refine lv_bipush (v := 16) hx hb dX3_digitOf_44 (by decide) ?_
          refine lv_icmp_ne (tgt := 69) hx hb dX3_digitOf_46 (by decide) (fun c_46 => ?_) (fun c_46 => ?_)
          · skip
            refine lv_iconst (v := (-1)) hx hb dX3_digitOf_69 (by decide) ?_
            have hP9 := hP.sub (ws' := []) [] rfl
            have hD9 := hD.sub (ws' := []) [] (by decide) rfl
            exact W.iret (v := (-1)) hx hb hr (fun t ht hW => ⟨⟨(-1), (), rfl, trivial, by rw [ht]; exact hP9, va_K.moved hW.alike hK, hD9⟩, hS.F ht⟩) hS.2.2 dX3_digitOf_70
          · skip
            refine lv_iload_n hx hb dX3_digitOf_49 rfl (lv_at hl 0 rfl) ?_
            refine lv_bipush (v := 65) hx hb dX3_digitOf_50 (by decide) ?_
            refine lv_icmp_lt (tgt := 69) hx hb dX3_digitOf_52 (by decide) (fun c_52 => ?_) (fun c_52 => ?_)
            · skip
              refine lv_iconst (v := (-1)) hx hb dX3_digitOf_69 (by decide) ?_
              have hP9 := hP.sub (ws' := []) [] rfl
              have hD9 := hD.sub (ws' := []) [] (by decide) rfl
              exact W.iret (v := (-1)) hx hb hr (fun t ht hW => ⟨⟨(-1), (), rfl, trivial, by rw [ht]; exact hP9, va_K.moved hW.alike hK, hD9⟩, hS.F ht⟩) hS.2.2 dX3_digitOf_70
            · skip
              refine lv_iload_n hx hb dX3_digitOf_55 rfl (lv_at hl 0 rfl) ?_
              refine lv_bipush (v := 70) hx hb dX3_digitOf_56 (by decide) ?_
              refine lv_icmp_gt (tgt := 69) hx hb dX3_digitOf_58 (by decide) (fun c_58 => ?_) (fun c_58 => ?_)
              · skip
                refine lv_iconst (v := (-1)) hx hb dX3_digitOf_69 (by decide) ?_
                have hP9 := hP.sub (ws' := []) [] rfl
                have hD9 := hD.sub (ws' := []) [] (by decide) rfl
                exact W.iret (v := (-1)) hx hb hr (fun t ht hW => ⟨⟨(-1), (), rfl, trivial, by rw [ht]; exact hP9, va_K.moved hW.alike hK, hD9⟩, hS.F ht⟩) hS.2.2 dX3_digitOf_70
              · skip
                refine lv_iload_n hx hb dX3_digitOf_61 rfl (lv_at hl 0 rfl) ?_
                refine lv_bipush (v := 65) hx hb dX3_digitOf_62 (by decide) ?_
                refine lv_isub hx hb dX3_digitOf_64 ?_
                refine lv_topi (fun x_11 ex_11 => ?_)
                refine lv_bipush (v := 10) hx hb dX3_digitOf_65 (by decide) ?_
                refine lv_iadd hx hb dX3_digitOf_67 ?_
                refine lv_topi (fun x_12 ex_12 => ?_)
                have hP9 := hP.sub (ws' := []) [] rfl
                have hD9 := hD.sub (ws' := []) [] (by decide) rfl
                exact W.iret (v := x_12) hx hb hr (fun t ht hW => ⟨⟨x_12, (), rfl, trivial, by rw [ht]; exact hP9, va_K.moved hW.alike hK, hD9⟩, hS.F ht⟩) hS.2.2 dX3_digitOf_68
        · skip
          refine lv_iload_n hx hb dX3_digitOf_29 rfl (lv_at hl 0 rfl) ?_
          refine lv_bipush (v := 102) hx hb dX3_digitOf_30 (by decide) ?_
          refine lv_icmp_gt (tgt := 43) hx hb dX3_digitOf_32 (by decide) (fun c_32 => ?_) (fun c_32 => ?_)
          · skip
            refine lv_iload_n hx hb dX3_digitOf_43 rfl (lv_at hl 1 rfl) ?_
            refine lv_bipush (v := 16) hx hb dX3_digitOf_44 (by decide) ?_
            refine lv_icmp_ne (tgt := 69) hx hb dX3_digitOf_46 (by decide) (fun c_46 => ?_) (fun c_46 => ?_)
            · skip
              refine lv_iconst (v := (-1)) hx hb dX3_digitOf_69 (by decide) ?_
              have hP9 := hP.sub (ws' := []) [] rfl
              have hD9 := hD.sub (ws' := []) [] (by decide) rfl
              exact W.iret (v := (-1)) hx hb hr (fun t ht hW => ⟨⟨(-1), (), rfl, trivial, by rw [ht]; exact hP9, va_K.moved hW.alike hK, hD9⟩, hS.F ht⟩) hS.2.2 dX3_digitOf_70
            · skip
              refine lv_iload_n hx hb dX3_digitOf_49 rfl (lv_at hl 0 rfl) ?_
              refine lv_bipush (v := 65) hx hb dX3_digitOf_50 (by decide) ?_
              refine lv_icmp_lt (tgt := 69) hx hb dX3_digitOf_52 (by decide) (fun c_52 => ?_) (fun c_52 => ?_)
              · skip
                refine lv_iconst (v := (-1)) hx hb dX3_digitOf_69 (by decide) ?_
                have hP9 := hP.sub (ws' := []) [] rfl
                have hD9 := hD.sub (ws' := []) [] (by decide) rfl
                exact W.iret (v := (-1)) hx hb hr (fun t ht hW => ⟨⟨(-1), (), rfl, trivial, by rw [ht]; exact hP9, va_K.moved hW.alike hK, hD9⟩, hS.F ht⟩) hS.2.2 dX3_digitOf_70
              · skip
                refine lv_iload_n hx hb dX3_digitOf_55 rfl (lv_at hl 0 rfl) ?_
                refine lv_bipush (v := 70) hx hb dX3_digitOf_56 (by decide) ?_
                refine lv_icmp_gt (tgt := 69) hx hb dX3_digitOf_58 (by decide) (fun c_58 => ?_) (fun c_58 => ?_)
                · skip
                  refine lv_iconst (v := (-1)) hx hb dX3_digitOf_69 (by decide) ?_
                  have hP9 := hP.sub (ws' := []) [] rfl
                  have hD9 := hD.sub (ws' := []) [] (by decide) rfl
                  exact W.iret (v := (-1)) hx hb hr (fun t ht hW => ⟨⟨(-1), (), rfl, trivial, by rw [ht]; exact hP9, va_K.moved hW.alike hK, hD9⟩, hS.F ht⟩) hS.2.2 dX3_digitOf_70
                · skip
                  refine lv_iload_n hx hb dX3_digitOf_61 rfl (lv_at hl 0 rfl) ?_
                  refine lv_bipush (v := 65) hx hb dX3_digitOf_62 (by decide) ?_
                  refine lv_isub hx hb dX3_digitOf_64 ?_
                  refine lv_topi (fun x_13 ex_13 => ?_)
                  refine lv_bipush (v := 10) hx hb dX3_digitOf_65 (by decide) ?_
                  refine lv_iadd hx hb dX3_digitOf_67 ?_
                  refine lv_topi (fun x_14 ex_14 => ?_)
                  have hP9 := hP.sub (ws' := []) [] rfl
                  have hD9 := hD.sub (ws' := []) [] (by decide) rfl
                  exact W.iret (v := x_14) hx hb hr (fun t ht hW => ⟨⟨x_14, (), rfl, trivial, by rw [ht]; exact hP9, va_K.moved hW.alike hK, hD9⟩, hS.F ht⟩) hS.2.2 dX3_digitOf_68
          · skip
            refine lv_iload_n hx hb dX3_digitOf_35 rfl (lv_at hl 0 rfl) ?_
            refine lv_bipush (v := 97) hx hb dX3_digitOf_36 (by decide) ?_
            refine lv_isub hx hb dX3_digitOf_38 ?_
            refine lv_topi (fun x_15 ex_15 => ?_)
            refine lv_bipush (v := 10) hx hb dX3_digitOf_39 (by decide) ?_
            refine lv_iadd hx hb dX3_digitOf_41 ?_
            refine lv_topi (fun x_16 ex_16 => ?_)
            have hP9 := hP.sub (ws' := []) [] rfl
            have hD9 := hD.sub (ws' := []) [] (by decide) rfl
            exact W.iret (v := x_16) hx hb hr (fun t ht hW => ⟨⟨x_16, (), rfl, trivial, by rw [ht]; exact hP9, va_K.moved hW.alike hK, hD9⟩, hS.F ht⟩) hS.2.2 dX3_digitOf_42
    · skip
      refine lv_iload_n hx hb dX3_digitOf_12 rfl (lv_at hl 0 rfl) ?_
      refine lv_bipush (v := 48) hx hb dX3_digitOf_13 (by decide) ?_
      refine lv_isub hx hb dX3_digitOf_15 ?_
      refine lv_topi (fun x_17 ex_17 => ?_)
      have hP9 := hP.sub (ws' := []) [] rfl
      have hD9 := hD.sub (ws' := []) [] (by decide) rfl
      exact W.iret (v := x_17) hx hb hr (fun t ht hW => ⟨⟨x_17, (), rfl, trivial, by rw [ht]; exact hP9, va_K.moved hW.alike hK, hD9⟩, hS.F ht⟩) hS.2.2 dX3_digitOf_16
