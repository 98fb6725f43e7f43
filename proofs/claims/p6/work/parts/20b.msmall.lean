set_option maxHeartbeats 4000000 in
set_option maxRecDepth 100000 in
/-- X4_section -/
theorem c_X4_section (l : Launch) (D : va_G) (cI : ClassId) (V : (Nat → Nat) × (Nat → Nat)) (mh : Nat) (m_te : Nat) (m_size : Int32) (m_re : Nat) (m_len : Int32) (m_kn : Nat) (m_bg : Nat) (m_en : Nat) (m_dp : Nat) (m_nm : Nat) (m_sz : Nat) (m_aa : Nat) (m_asz : Nat) (m_elements : Int32) (m_most : Int32) (m_values : Int32) (m_place : Int32) (m_phase : Int32) (m_state : Int32) (m_begin : Int32) (m_name : Int32) (m_refr : Int32) (m_tag : Int32) (m_tagsz : Int32) (m_quote : Int32) (m_chars : Int32) (m_brackets : Int32) (m_matched : Int32) (m_number : Int64) (m_fault : Int32) (np : Nat) (no : Nat) (na : Nat) (t : Nat) (sz : Nat) (p1 : Int32)  : Met l yX4_section (.code yX4_section cX4_section 3 (some .int) :: tbW) ({ frames := 2, cells := 0, slots := 0, locals := 42 }) (va_Pc [.ref mh, .int p1] (gP D cI V [(mh, .inr (4, [.ref m_te, .int m_size, .ref m_re, .int m_len, .int (nI np), .ref m_kn, .ref m_bg, .ref m_en, .ref m_dp, .int (nI no), .ref m_nm, .ref m_sz, .int (nI na), .ref m_aa, .ref m_asz, .int m_elements, .int m_most, .int m_values, .int m_place, .int m_phase, .int m_state, .int (nI t), .int m_begin, .int m_name, .int m_refr, .int m_tag, .int m_tagsz, .int m_quote, .int m_chars, .int m_brackets, .int m_matched, .long m_number, .int m_fault]))] sz)) (va_Qi (fun (r : Int32) (u : Int32 × Int32 × Int32 × Int32) => r = 0 → u.1 = m_state ∨ u.1 = 41) (fun u => gB D cI (va_A [(mh, .inr (4, [.ref m_te, .int m_size, .ref m_re, .int m_len, .int (nI np), .ref m_kn, .ref m_bg, .ref m_en, .ref m_dp, .int (nI no), .ref m_nm, .ref m_sz, .int (nI na), .ref m_aa, .ref m_asz, .int m_elements, .int m_most, .int m_values, .int m_place, .int m_phase, .int m_state, .int (nI t), .int m_begin, .int m_name, .int m_refr, .int m_tag, .int m_tagsz, .int m_quote, .int m_chars, .int m_brackets, .int m_matched, .long m_number, .int m_fault]))] sz) [(mh, .inr (4, [.ref m_te, .int m_size, .ref m_re, .int m_len, .int (nI np), .ref m_kn, .ref m_bg, .ref m_en, .ref m_dp, .int (nI no), .ref m_nm, .ref m_sz, .int (nI na), .ref m_aa, .ref m_asz, .int m_elements, .int m_most, .int m_values, .int u.2.1, .int m_phase, .int u.1, .int (nI t), .int m_begin, .int m_name, .int m_refr, .int m_tag, .int m_tagsz, .int m_quote, .int m_chars, .int m_brackets, .int u.2.2.2, .long m_number, .int u.2.2.1]))]) (va_A [(mh, .inr (4, [.ref m_te, .int m_size, .ref m_re, .int m_len, .int (nI np), .ref m_kn, .ref m_bg, .ref m_en, .ref m_dp, .int (nI no), .ref m_nm, .ref m_sz, .int (nI na), .ref m_aa, .ref m_asz, .int m_elements, .int m_most, .int m_values, .int m_place, .int m_phase, .int m_state, .int (nI t), .int m_begin, .int m_name, .int m_refr, .int m_tag, .int m_tagsz, .int m_quote, .int m_chars, .int m_brackets, .int m_matched, .long m_number, .int m_fault]))] sz)) 0 0 (va_A [(mh, .inr (4, [.ref m_te, .int m_size, .ref m_re, .int m_len, .int (nI np), .ref m_kn, .ref m_bg, .ref m_en, .ref m_dp, .int (nI no), .ref m_nm, .ref m_sz, .int (nI na), .ref m_aa, .ref m_asz, .int m_elements, .int m_most, .int m_values, .int m_place, .int m_phase, .int m_state, .int (nI t), .int m_begin, .int m_name, .int m_refr, .int m_tag, .int m_tagsz, .int m_quote, .int m_chars, .int m_brackets, .int m_matched, .long m_number, .int m_fault]))] sz) := by
  refine Met.ofW (cc := cX4_section) (maxL := 3) (ret := (some .int)) (by decide) rfl ?_
  intro p e s m args below meth c s₁ B hml hv
  obtain ⟨rfl, hsz, hP, hK, hD0, hN, hV⟩ := hv
  have hx := B.exec
  have hb := B.bytes
  have hr := B.returns
  have hts := tb_hts (atoms_spec (ws := .code yX4_section cX4_section 3 (some .int) :: tbW) B.pre)
  have hown : s.vm.findClass RX4 = some m.cls := findClass_of_methodNamed B.named
  have hlocks := B.notSynchronized
  subst hsz
  have hD := hD0.self (sz := s.heap.size)
  generalize hAe : va_A [(mh, .inr (4, [.ref m_te, .int m_size, .ref m_re, .int m_len, .int (nI np), .ref m_kn, .ref m_bg, .ref m_en, .ref m_dp, .int (nI no), .ref m_nm, .ref m_sz, .int (nI na), .ref m_aa, .ref m_asz, .int m_elements, .int m_most, .int m_values, .int m_place, .int m_phase, .int m_state, .int (nI t), .int m_begin, .int m_name, .int m_refr, .int m_tag, .int m_tagsz, .int m_quote, .int m_chars, .int m_brackets, .int m_matched, .long m_number, .int m_fault]))] s.heap.size = A at hD hV ⊢
  have hA : ∀ q : Nat, s.heap.size ≤ q → A q := fun q h => by rw [← hAe]; exact Or.inr h
  have hS : va_S A s.heap s.heap [] := va_S.rf
  have hP : va_P D classes [(mh, .inr (4, [.ref m_te, .int m_size, .ref m_re, .int m_len, .int (nI np), .ref m_kn, .ref m_bg, .ref m_en, .ref m_dp, .int (nI no), .ref m_nm, .ref m_sz, .int (nI na), .ref m_aa, .ref m_asz, .int m_elements, .int m_most, .int m_values, .int m_place, .int m_phase, .int m_state, .int (nI t), .int m_begin, .int m_name, .int m_refr, .int m_tag, .int m_tagsz, .int m_quote, .int m_chars, .int m_brackets, .int m_matched, .long m_number, .int m_fault]))] s.heap := hP
  have hl := lv_entry ([.ref mh, .int p1]) (n := 3) (Nat.le_of_ble_eq_true rfl)
  rw [lg_entry_eq]
  generalize (lg_sl ([.ref mh, .int p1]) ++ List.replicate (3 - (lg_sl ([.ref mh, .int p1])).length) Slot.unset).toArray = ls at hl ⊢
  have hl : lv_has ls 3 [(0, .ref mh), (1, .int p1)] := hl
  refine lv_aload_n hx hb dX4_section_0 rfl (lv_at hl 0 rfl) ?_
  refine va_get (D := D) (ci := 4) (v := .int m_matched) (C := RX4) (T := TX4) (N := 33) hx hb hts inX4 hown hK hP 0 rfl rfl 30 (by decide) (hts (Cond.fieldLink "NestedTagsModel" 142 "NestedTagsModel" "matched" "I") kk_3_2) (fun _ h9 => h9) rfl dX4_section_1 ?_
  refine lv_if_ne (tgt := 12) hx hb dX4_section_4 (by decide) (fun c_4 => ?_) (fun c_4 => ?_)
  · skip
    refine lv_aload_n hx hb dX4_section_12 rfl (lv_at hl 0 rfl) ?_
    refine va_get (D := D) (ci := 4) (v := .int m_matched) (C := RX4) (T := TX4) (N := 33) hx hb hts inX4 hown hK hP 0 rfl rfl 30 (by decide) (hts (Cond.fieldLink "NestedTagsModel" 142 "NestedTagsModel" "matched" "I") kk_3_2) (fun _ h9 => h9) rfl dX4_section_13 ?_
    refine lv_iconst (v := 1) hx hb dX4_section_16 (by decide) ?_
    refine lv_icmp_ne (tgt := 25) hx hb dX4_section_17 (by decide) (fun c_17 => ?_) (fun c_17 => ?_)
    · skip
      refine lv_aload_n hx hb dX4_section_25 rfl (lv_at hl 0 rfl) ?_
      refine va_get (D := D) (ci := 4) (v := .int m_matched) (C := RX4) (T := TX4) (N := 33) hx hb hts inX4 hown hK hP 0 rfl rfl 30 (by decide) (hts (Cond.fieldLink "NestedTagsModel" 142 "NestedTagsModel" "matched" "I") kk_3_2) (fun _ h9 => h9) rfl dX4_section_26 ?_
      refine lv_iconst (v := 2) hx hb dX4_section_29 (by decide) ?_
      refine lv_icmp_eq (tgt := 41) hx hb dX4_section_30 (by decide) (fun c_30 => ?_) (fun c_30 => ?_)
      · skip
        refine lv_bipush (v := 65) hx hb dX4_section_41 (by decide) ?_
        refine lv_goto (tgt := 61) hx hb dX4_section_43 (by decide) ?_
        refine lv_istore_n (lv' := [(2, .int 65), (0, .ref mh), (1, .int p1)]) hx hb dX4_section_61 rfl hl (by decide) rfl (fun ls hl => ?_)
        refine lv_iload_n hx hb dX4_section_62 rfl (lv_at hl 2 rfl) ?_
        refine lv_iload_n hx hb dX4_section_63 rfl (lv_at hl 0 rfl) ?_
        refine lv_icmp_eq (tgt := 72) hx hb dX4_section_64 (by decide) (fun c_64 => ?_) (fun c_64 => ?_)
        · skip
          refine lv_aload_n hx hb dX4_section_72 rfl (lv_at hl 1 rfl) ?_
          refine lv_aload_n hx hb dX4_section_73 rfl (lv_at hl 1 rfl) ?_
          refine va_get (D := D) (ci := 4) (v := .int m_matched) (C := RX4) (T := TX4) (N := 33) hx hb hts inX4 hown hK hP 0 rfl rfl 30 (by decide) (hts (Cond.fieldLink "NestedTagsModel" 142 "NestedTagsModel" "matched" "I") kk_3_2) (fun _ h9 => h9) rfl dX4_section_74 ?_
          refine lv_iconst (v := 1) hx hb dX4_section_77 (by decide) ?_
          refine lv_iadd hx hb dX4_section_78 ?_
          refine lv_topi (fun x_1 ex_1 => ?_)
          refine va_put (D := D) (ci := 4) (v := .int x_1) (ty := .int) (C := RX4) (T := TX4) (N := 33) hx hb hts inX4 tyX4 tyX4_ok nmX4 hown hK hP hD hS 0 rfl rfl 30 (by decide) (hts (Cond.fieldLink "NestedTagsModel" 142 "NestedTagsModel" "matched" "I") kk_3_2) (fun _ h9 => h9) rfl (tyX4_ok 30 (by decide)) rfl rfl (Nat.le_of_ble_eq_true rfl) dX4_section_79 (fun H locs hP hD hS => ?_)
          have hP : va_P D classes [(mh, .inr (4, [.ref m_te, .int m_size, .ref m_re, .int m_len, .int (nI np), .ref m_kn, .ref m_bg, .ref m_en, .ref m_dp, .int (nI no), .ref m_nm, .ref m_sz, .int (nI na), .ref m_aa, .ref m_asz, .int m_elements, .int m_most, .int m_values, .int m_place, .int m_phase, .int m_state, .int (nI t), .int m_begin, .int m_name, .int m_refr, .int m_tag, .int m_tagsz, .int m_quote, .int m_chars, .int m_brackets, .int x_1, .long m_number, .int m_fault]))] H := hP
          have hD : va_D A [(mh, .inr (4, [.ref m_te, .int m_size, .ref m_re, .int m_len, .int (nI np), .ref m_kn, .ref m_bg, .ref m_en, .ref m_dp, .int (nI no), .ref m_nm, .ref m_sz, .int (nI na), .ref m_aa, .ref m_asz, .int m_elements, .int m_most, .int m_values, .int m_place, .int m_phase, .int m_state, .int (nI t), .int m_begin, .int m_name, .int m_refr, .int m_tag, .int m_tagsz, .int m_quote, .int m_chars, .int m_brackets, .int x_1, .long m_number, .int m_fault]))] := hD
          refine lv_aload_n hx hb dX4_section_82 rfl (lv_at hl 1 rfl) ?_
          refine va_get (D := D) (ci := 4) (v := .int x_1) (C := RX4) (T := TX4) (N := 33) hx hb hts inX4 hown hK hP 0 rfl rfl 30 (by decide) (hts (Cond.fieldLink "NestedTagsModel" 142 "NestedTagsModel" "matched" "I") kk_3_2) (fun _ h9 => h9) rfl dX4_section_83 ?_
          refine lv_bipush (v := 6) hx hb dX4_section_86 (by decide) ?_
          refine lv_icmp_ne (tgt := 100) hx hb dX4_section_88 (by decide) (fun c_88 => ?_) (fun c_88 => ?_)
          · skip
            refine lv_iconst (v := 0) hx hb dX4_section_100 (by decide) ?_
            have hP9 := hP.sub (ws' := [(mh, .inr (4, [.ref m_te, .int m_size, .ref m_re, .int m_len, .int (nI np), .ref m_kn, .ref m_bg, .ref m_en, .ref m_dp, .int (nI no), .ref m_nm, .ref m_sz, .int (nI na), .ref m_aa, .ref m_asz, .int m_elements, .int m_most, .int m_values, .int m_place, .int m_phase, .int m_state, .int (nI t), .int m_begin, .int m_name, .int m_refr, .int m_tag, .int m_tagsz, .int m_quote, .int m_chars, .int m_brackets, .int x_1, .long m_number, .int m_fault]))]) [0] rfl
            have hD9 := hD.sub (ws' := [(mh, .inr (4, [.ref m_te, .int m_size, .ref m_re, .int m_len, .int (nI np), .ref m_kn, .ref m_bg, .ref m_en, .ref m_dp, .int (nI no), .ref m_nm, .ref m_sz, .int (nI na), .ref m_aa, .ref m_asz, .int m_elements, .int m_most, .int m_values, .int m_place, .int m_phase, .int m_state, .int (nI t), .int m_begin, .int m_name, .int m_refr, .int m_tag, .int m_tagsz, .int m_quote, .int m_chars, .int m_brackets, .int x_1, .long m_number, .int m_fault]))]) [0] (by decide) rfl
            exact W.iret (v := 0) hx hb hr (fun t9 ht9 hW => ⟨⟨0, (m_state, m_place, m_fault, x_1), rfl, fun _ => Or.inl (rfl), by rw [ht9]; exact hP9, va_K.moved hW.alike hK, hD9⟩, hS.F ht9⟩) hS.2.2 dX4_section_101
          · skip
            refine lv_aload_n hx hb dX4_section_91 rfl (lv_at hl 1 rfl) ?_
            refine lv_bipush (v := 41) hx hb dX4_section_92 (by decide) ?_
            refine gcall_i (va_runV (As := [.int 41]) (rest := []) ⟨hx, hb, hml, hown, hts⟩ (c_X4_go l D cI V mh m_te m_size m_re m_len m_kn m_bg m_en m_dp m_nm m_sz m_aa m_asz m_elements m_most m_values m_place m_phase m_state m_begin m_name m_refr m_tag m_tagsz m_quote m_chars m_brackets x_1 m_number m_fault np no na t H.size 41) (cwV 1 hts (tb_goodV kk_3_88 kk_3_90 kk_0_24 kk_1_6 kk_3_91) rfl rfl rfl (hdV_X4_go) ⟨Nat.le_of_ble_eq_true rfl, Nat.le_of_ble_eq_true rfl⟩) (gpreV hK hN hV hS hA hP hD [0] rfl rfl (by decide) (va_recv hK hP (ci := 4) (q0 := 0) rfl rfl)) rfl rfl hl.1 rfl (lv_room (Nat.le_of_ble_eq_true rfl)) dX4_section_94 ⟨Nat.le_of_ble_eq_true rfl, Nat.le_of_ble_eq_true rfl⟩) hP hD hS hA [0] [] (wr := []) rfl rfl (by decide) (by decide) (fun r_2 u_3 H locs hw_94 hP hD hS => ?_)
            try dsimp only at hw_94
            have hP : va_P D classes [(mh, .inr (4, [.ref m_te, .int m_size, .ref m_re, .int m_len, .int (nI np), .ref m_kn, .ref m_bg, .ref m_en, .ref m_dp, .int (nI no), .ref m_nm, .ref m_sz, .int (nI na), .ref m_aa, .ref m_asz, .int m_elements, .int m_most, .int m_values, .int m_place, .int m_phase, .int 41, .int (nI t), .int m_begin, .int m_name, .int m_refr, .int m_tag, .int m_tagsz, .int m_quote, .int m_chars, .int m_brackets, .int x_1, .long m_number, .int m_fault]))] H := hP
            have hD : va_D A [(mh, .inr (4, [.ref m_te, .int m_size, .ref m_re, .int m_len, .int (nI np), .ref m_kn, .ref m_bg, .ref m_en, .ref m_dp, .int (nI no), .ref m_nm, .ref m_sz, .int (nI na), .ref m_aa, .ref m_asz, .int m_elements, .int m_most, .int m_values, .int m_place, .int m_phase, .int 41, .int (nI t), .int m_begin, .int m_name, .int m_refr, .int m_tag, .int m_tagsz, .int m_quote, .int m_chars, .int m_brackets, .int x_1, .long m_number, .int m_fault]))] := hD
            refine lv_goto (tgt := 101) hx hb dX4_section_97 (by decide) ?_
            have hP9 := hP.sub (ws' := [(mh, .inr (4, [.ref m_te, .int m_size, .ref m_re, .int m_len, .int (nI np), .ref m_kn, .ref m_bg, .ref m_en, .ref m_dp, .int (nI no), .ref m_nm, .ref m_sz, .int (nI na), .ref m_aa, .ref m_asz, .int m_elements, .int m_most, .int m_values, .int m_place, .int m_phase, .int 41, .int (nI t), .int m_begin, .int m_name, .int m_refr, .int m_tag, .int m_tagsz, .int m_quote, .int m_chars, .int m_brackets, .int x_1, .long m_number, .int m_fault]))]) [0] rfl
            have hD9 := hD.sub (ws' := [(mh, .inr (4, [.ref m_te, .int m_size, .ref m_re, .int m_len, .int (nI np), .ref m_kn, .ref m_bg, .ref m_en, .ref m_dp, .int (nI no), .ref m_nm, .ref m_sz, .int (nI na), .ref m_aa, .ref m_asz, .int m_elements, .int m_most, .int m_values, .int m_place, .int m_phase, .int 41, .int (nI t), .int m_begin, .int m_name, .int m_refr, .int m_tag, .int m_tagsz, .int m_quote, .int m_chars, .int m_brackets, .int x_1, .long m_number, .int m_fault]))]) [0] (by decide) rfl
            exact W.iret (v := r_2) hx hb hr (fun t9 ht9 hW => ⟨⟨r_2, (41, m_place, m_fault, x_1), rfl, fun _ => Or.inr (rfl), by rw [ht9]; exact hP9, va_K.moved hW.alike hK, hD9⟩, hS.F ht9⟩) hS.2.2 dX4_section_101
        · skip
          refine lv_aload_n hx hb dX4_section_67 rfl (lv_at hl 1 rfl) ?_
          refine gcall_i (va_runV (As := []) (rest := []) ⟨hx, hb, hml, hown, hts⟩ (c_X4_wrong_w l D cI V mh m_te m_size m_re m_len m_kn m_bg m_en m_dp m_nm m_sz m_aa m_asz m_elements m_most m_values m_place m_phase m_state m_begin m_name m_refr m_tag m_tagsz m_quote m_chars m_brackets m_matched m_number m_fault np no na t s.heap.size ) (cwV 0 hts (tb_goodV kk_3_92 kk_3_94 kk_0_25 kk_1_6 kk_3_95) rfl rfl rfl (hdV_X4_wrong) ⟨Nat.le_of_ble_eq_true rfl, Nat.le_of_ble_eq_true rfl⟩) (gpreV hK hN hV hS hA hP hD [0] rfl rfl (by decide) (va_recv hK hP (ci := 4) (q0 := 0) rfl rfl)) rfl rfl hl.1 rfl (lv_room (Nat.le_of_ble_eq_true rfl)) dX4_section_68 ⟨Nat.le_of_ble_eq_true rfl, Nat.le_of_ble_eq_true rfl⟩) hP hD hS hA [0] [] (wr := []) rfl rfl (by decide) (by decide) (fun r_4 u_5 H locs hw_68 hP hD hS => ?_)
          try dsimp only at hw_68
          have hP : va_P D classes [(mh, .inr (4, [.ref m_te, .int m_size, .ref m_re, .int m_len, .int (nI np), .ref m_kn, .ref m_bg, .ref m_en, .ref m_dp, .int (nI no), .ref m_nm, .ref m_sz, .int (nI na), .ref m_aa, .ref m_asz, .int m_elements, .int m_most, .int m_values, .int (nI t), .int m_phase, .int m_state, .int (nI t), .int m_begin, .int m_name, .int m_refr, .int m_tag, .int m_tagsz, .int m_quote, .int m_chars, .int m_brackets, .int m_matched, .long m_number, .int 2]))] H := hP
          have hD : va_D A [(mh, .inr (4, [.ref m_te, .int m_size, .ref m_re, .int m_len, .int (nI np), .ref m_kn, .ref m_bg, .ref m_en, .ref m_dp, .int (nI no), .ref m_nm, .ref m_sz, .int (nI na), .ref m_aa, .ref m_asz, .int m_elements, .int m_most, .int m_values, .int (nI t), .int m_phase, .int m_state, .int (nI t), .int m_begin, .int m_name, .int m_refr, .int m_tag, .int m_tagsz, .int m_quote, .int m_chars, .int m_brackets, .int m_matched, .long m_number, .int 2]))] := hD
          have hP9 := hP.sub (ws' := [(mh, .inr (4, [.ref m_te, .int m_size, .ref m_re, .int m_len, .int (nI np), .ref m_kn, .ref m_bg, .ref m_en, .ref m_dp, .int (nI no), .ref m_nm, .ref m_sz, .int (nI na), .ref m_aa, .ref m_asz, .int m_elements, .int m_most, .int m_values, .int (nI t), .int m_phase, .int m_state, .int (nI t), .int m_begin, .int m_name, .int m_refr, .int m_tag, .int m_tagsz, .int m_quote, .int m_chars, .int m_brackets, .int m_matched, .long m_number, .int 2]))]) [0] rfl
          have hD9 := hD.sub (ws' := [(mh, .inr (4, [.ref m_te, .int m_size, .ref m_re, .int m_len, .int (nI np), .ref m_kn, .ref m_bg, .ref m_en, .ref m_dp, .int (nI no), .ref m_nm, .ref m_sz, .int (nI na), .ref m_aa, .ref m_asz, .int m_elements, .int m_most, .int m_values, .int (nI t), .int m_phase, .int m_state, .int (nI t), .int m_begin, .int m_name, .int m_refr, .int m_tag, .int m_tagsz, .int m_quote, .int m_chars, .int m_brackets, .int m_matched, .long m_number, .int 2]))]) [0] (by decide) rfl
          exact W.iret (v := r_4) hx hb hr (fun t9 ht9 hW => ⟨⟨r_4, (m_state, (nI t), 2, m_matched), rfl, fun q => absurd (hw_68.symm.trans q) (by decide), by rw [ht9]; exact hP9, va_K.moved hW.alike hK, hD9⟩, hS.F ht9⟩) hS.2.2 dX4_section_71
      · skip
        refine lv_aload_n hx hb dX4_section_33 rfl (lv_at hl 0 rfl) ?_
        refine va_get (D := D) (ci := 4) (v := .int m_matched) (C := RX4) (T := TX4) (N := 33) hx hb hts inX4 hown hK hP 0 rfl rfl 30 (by decide) (hts (Cond.fieldLink "NestedTagsModel" 142 "NestedTagsModel" "matched" "I") kk_3_2) (fun _ h9 => h9) rfl dX4_section_34 ?_
        refine lv_iconst (v := 4) hx hb dX4_section_37 (by decide) ?_
        refine lv_icmp_ne (tgt := 46) hx hb dX4_section_38 (by decide) (fun c_38 => ?_) (fun c_38 => ?_)
        · skip
          refine lv_aload_n hx hb dX4_section_46 rfl (lv_at hl 0 rfl) ?_
          refine va_get (D := D) (ci := 4) (v := .int m_matched) (C := RX4) (T := TX4) (N := 33) hx hb hts inX4 hown hK hP 0 rfl rfl 30 (by decide) (hts (Cond.fieldLink "NestedTagsModel" 142 "NestedTagsModel" "matched" "I") kk_3_2) (fun _ h9 => h9) rfl dX4_section_47 ?_
          refine lv_iconst (v := 3) hx hb dX4_section_50 (by decide) ?_
          refine lv_icmp_ne (tgt := 59) hx hb dX4_section_51 (by decide) (fun c_51 => ?_) (fun c_51 => ?_)
          · skip
            refine lv_bipush (v := 91) hx hb dX4_section_59 (by decide) ?_
            refine lv_istore_n (lv' := [(2, .int 91), (0, .ref mh), (1, .int p1)]) hx hb dX4_section_61 rfl hl (by decide) rfl (fun ls hl => ?_)
            refine lv_iload_n hx hb dX4_section_62 rfl (lv_at hl 2 rfl) ?_
            refine lv_iload_n hx hb dX4_section_63 rfl (lv_at hl 0 rfl) ?_
            refine lv_icmp_eq (tgt := 72) hx hb dX4_section_64 (by decide) (fun c_64 => ?_) (fun c_64 => ?_)
            · skip
              refine lv_aload_n hx hb dX4_section_72 rfl (lv_at hl 1 rfl) ?_
              refine lv_aload_n hx hb dX4_section_73 rfl (lv_at hl 1 rfl) ?_
              refine va_get (D := D) (ci := 4) (v := .int m_matched) (C := RX4) (T := TX4) (N := 33) hx hb hts inX4 hown hK hP 0 rfl rfl 30 (by decide) (hts (Cond.fieldLink "NestedTagsModel" 142 "NestedTagsModel" "matched" "I") kk_3_2) (fun _ h9 => h9) rfl dX4_section_74 ?_
              refine lv_iconst (v := 1) hx hb dX4_section_77 (by decide) ?_
              refine lv_iadd hx hb dX4_section_78 ?_
              refine lv_topi (fun x_6 ex_6 => ?_)
              refine va_put (D := D) (ci := 4) (v := .int x_6) (ty := .int) (C := RX4) (T := TX4) (N := 33) hx hb hts inX4 tyX4 tyX4_ok nmX4 hown hK hP hD hS 0 rfl rfl 30 (by decide) (hts (Cond.fieldLink "NestedTagsModel" 142 "NestedTagsModel" "matched" "I") kk_3_2) (fun _ h9 => h9) rfl (tyX4_ok 30 (by decide)) rfl rfl (Nat.le_of_ble_eq_true rfl) dX4_section_79 (fun H locs hP hD hS => ?_)
              have hP : va_P D classes [(mh, .inr (4, [.ref m_te, .int m_size, .ref m_re, .int m_len, .int (nI np), .ref m_kn, .ref m_bg, .ref m_en, .ref m_dp, .int (nI no), .ref m_nm, .ref m_sz, .int (nI na), .ref m_aa, .ref m_asz, .int m_elements, .int m_most, .int m_values, .int m_place, .int m_phase, .int m_state, .int (nI t), .int m_begin, .int m_name, .int m_refr, .int m_tag, .int m_tagsz, .int m_quote, .int m_chars, .int m_brackets, .int x_6, .long m_number, .int m_fault]))] H := hP
              have hD : va_D A [(mh, .inr (4, [.ref m_te, .int m_size, .ref m_re, .int m_len, .int (nI np), .ref m_kn, .ref m_bg, .ref m_en, .ref m_dp, .int (nI no), .ref m_nm, .ref m_sz, .int (nI na), .ref m_aa, .ref m_asz, .int m_elements, .int m_most, .int m_values, .int m_place, .int m_phase, .int m_state, .int (nI t), .int m_begin, .int m_name, .int m_refr, .int m_tag, .int m_tagsz, .int m_quote, .int m_chars, .int m_brackets, .int x_6, .long m_number, .int m_fault]))] := hD
              refine lv_aload_n hx hb dX4_section_82 rfl (lv_at hl 1 rfl) ?_
              refine va_get (D := D) (ci := 4) (v := .int x_6) (C := RX4) (T := TX4) (N := 33) hx hb hts inX4 hown hK hP 0 rfl rfl 30 (by decide) (hts (Cond.fieldLink "NestedTagsModel" 142 "NestedTagsModel" "matched" "I") kk_3_2) (fun _ h9 => h9) rfl dX4_section_83 ?_
              refine lv_bipush (v := 6) hx hb dX4_section_86 (by decide) ?_
              refine lv_icmp_ne (tgt := 100) hx hb dX4_section_88 (by decide) (fun c_88 => ?_) (fun c_88 => ?_)
              · skip
                refine lv_iconst (v := 0) hx hb dX4_section_100 (by decide) ?_
                have hP9 := hP.sub (ws' := [(mh, .inr (4, [.ref m_te, .int m_size, .ref m_re, .int m_len, .int (nI np), .ref m_kn, .ref m_bg, .ref m_en, .ref m_dp, .int (nI no), .ref m_nm, .ref m_sz, .int (nI na), .ref m_aa, .ref m_asz, .int m_elements, .int m_most, .int m_values, .int m_place, .int m_phase, .int m_state, .int (nI t), .int m_begin, .int m_name, .int m_refr, .int m_tag, .int m_tagsz, .int m_quote, .int m_chars, .int m_brackets, .int x_6, .long m_number, .int m_fault]))]) [0] rfl
                have hD9 := hD.sub (ws' := [(mh, .inr (4, [.ref m_te, .int m_size, .ref m_re, .int m_len, .int (nI np), .ref m_kn, .ref m_bg, .ref m_en, .ref m_dp, .int (nI no), .ref m_nm, .ref m_sz, .int (nI na), .ref m_aa, .ref m_asz, .int m_elements, .int m_most, .int m_values, .int m_place, .int m_phase, .int m_state, .int (nI t), .int m_begin, .int m_name, .int m_refr, .int m_tag, .int m_tagsz, .int m_quote, .int m_chars, .int m_brackets, .int x_6, .long m_number, .int m_fault]))]) [0] (by decide) rfl
                exact W.iret (v := 0) hx hb hr (fun t9 ht9 hW => ⟨⟨0, (m_state, m_place, m_fault, x_6), rfl, fun _ => Or.inl (rfl), by rw [ht9]; exact hP9, va_K.moved hW.alike hK, hD9⟩, hS.F ht9⟩) hS.2.2 dX4_section_101
              · skip
                refine lv_aload_n hx hb dX4_section_91 rfl (lv_at hl 1 rfl) ?_
                refine lv_bipush (v := 41) hx hb dX4_section_92 (by decide) ?_
                refine gcall_i (va_runV (As := [.int 41]) (rest := []) ⟨hx, hb, hml, hown, hts⟩ (c_X4_go l D cI V mh m_te m_size m_re m_len m_kn m_bg m_en m_dp m_nm m_sz m_aa m_asz m_elements m_most m_values m_place m_phase m_state m_begin m_name m_refr m_tag m_tagsz m_quote m_chars m_brackets x_6 m_number m_fault np no na t H.size 41) (cwV 1 hts (tb_goodV kk_3_88 kk_3_90 kk_0_24 kk_1_6 kk_3_91) rfl rfl rfl (hdV_X4_go) ⟨Nat.le_of_ble_eq_true rfl, Nat.le_of_ble_eq_true rfl⟩) (gpreV hK hN hV hS hA hP hD [0] rfl rfl (by decide) (va_recv hK hP (ci := 4) (q0 := 0) rfl rfl)) rfl rfl hl.1 rfl (lv_room (Nat.le_of_ble_eq_true rfl)) dX4_section_94 ⟨Nat.le_of_ble_eq_true rfl, Nat.le_of_ble_eq_true rfl⟩) hP hD hS hA [0] [] (wr := []) rfl rfl (by decide) (by decide) (fun r_7 u_8 H locs hw_94 hP hD hS => ?_)
                try dsimp only at hw_94
                have hP : va_P D classes [(mh, .inr (4, [.ref m_te, .int m_size, .ref m_re, .int m_len, .int (nI np), .ref m_kn, .ref m_bg, .ref m_en, .ref m_dp, .int (nI no), .ref m_nm, .ref m_sz, .int (nI na), .ref m_aa, .ref m_asz, .int m_elements, .int m_most, .int m_values, .int m_place, .int m_phase, .int 41, .int (nI t), .int m_begin, .int m_name, .int m_refr, .int m_tag, .int m_tagsz, .int m_quote, .int m_chars, .int m_brackets, .int x_6, .long m_number, .int m_fault]))] H := hP
                have hD : va_D A [(mh, .inr (4, [.ref m_te, .int m_size, .ref m_re, .int m_len, .int (nI np), .ref m_kn, .ref m_bg, .ref m_en, .ref m_dp, .int (nI no), .ref m_nm, .ref m_sz, .int (nI na), .ref m_aa, .ref m_asz, .int m_elements, .int m_most, .int m_values, .int m_place, .int m_phase, .int 41, .int (nI t), .int m_begin, .int m_name, .int m_refr, .int m_tag, .int m_tagsz, .int m_quote, .int m_chars, .int m_brackets, .int x_6, .long m_number, .int m_fault]))] := hD
                refine lv_goto (tgt := 101) hx hb dX4_section_97 (by decide) ?_
                have hP9 := hP.sub (ws' := [(mh, .inr (4, [.ref m_te, .int m_size, .ref m_re, .int m_len, .int (nI np), .ref m_kn, .ref m_bg, .ref m_en, .ref m_dp, .int (nI no), .ref m_nm, .ref m_sz, .int (nI na), .ref m_aa, .ref m_asz, .int m_elements, .int m_most, .int m_values, .int m_place, .int m_phase, .int 41, .int (nI t), .int m_begin, .int m_name, .int m_refr, .int m_tag, .int m_tagsz, .int m_quote, .int m_chars, .int m_brackets, .int x_6, .long m_number, .int m_fault]))]) [0] rfl
                have hD9 := hD.sub (ws' := [(mh, .inr (4, [.ref m_te, .int m_size, .ref m_re, .int m_len, .int (nI np), .ref m_kn, .ref m_bg, .ref m_en, .ref m_dp, .int (nI no), .ref m_nm, .ref m_sz, .int (nI na), .ref m_aa, .ref m_asz, .int m_elements, .int m_most, .int m_values, .int m_place, .int m_phase, .int 41, .int (nI t), .int m_begin, .int m_name, .int m_refr, .int m_tag, .int m_tagsz, .int m_quote, .int m_chars, .int m_brackets, .int x_6, .long m_number, .int m_fault]))]) [0] (by decide) rfl
                exact W.iret (v := r_7) hx hb hr (fun t9 ht9 hW => ⟨⟨r_7, (41, m_place, m_fault, x_6), rfl, fun _ => Or.inr (rfl), by rw [ht9]; exact hP9, va_K.moved hW.alike hK, hD9⟩, hS.F ht9⟩) hS.2.2 dX4_section_101
            · skip
              refine lv_aload_n hx hb dX4_section_67 rfl (lv_at hl 1 rfl) ?_
              refine gcall_i (va_runV (As := []) (rest := []) ⟨hx, hb, hml, hown, hts⟩ (c_X4_wrong_w l D cI V mh m_te m_size m_re m_len m_kn m_bg m_en m_dp m_nm m_sz m_aa m_asz m_elements m_most m_values m_place m_phase m_state m_begin m_name m_refr m_tag m_tagsz m_quote m_chars m_brackets m_matched m_number m_fault np no na t s.heap.size ) (cwV 0 hts (tb_goodV kk_3_92 kk_3_94 kk_0_25 kk_1_6 kk_3_95) rfl rfl rfl (hdV_X4_wrong) ⟨Nat.le_of_ble_eq_true rfl, Nat.le_of_ble_eq_true rfl⟩) (gpreV hK hN hV hS hA hP hD [0] rfl rfl (by decide) (va_recv hK hP (ci := 4) (q0 := 0) rfl rfl)) rfl rfl hl.1 rfl (lv_room (Nat.le_of_ble_eq_true rfl)) dX4_section_68 ⟨Nat.le_of_ble_eq_true rfl, Nat.le_of_ble_eq_true rfl⟩) hP hD hS hA [0] [] (wr := []) rfl rfl (by decide) (by decide) (fun r_9 u_10 H locs hw_68 hP hD hS => ?_)
              try dsimp only at hw_68
              have hP : va_P D classes [(mh, .inr (4, [.ref m_te, .int m_size, .ref m_re, .int m_len, .int (nI np), .ref m_kn, .ref m_bg, .ref m_en, .ref m_dp, .int (nI no), .ref m_nm, .ref m_sz, .int (nI na), .ref m_aa, .ref m_asz, .int m_elements, .int m_most, .int m_values, .int (nI t), .int m_phase, .int m_state, .int (nI t), .int m_begin, .int m_name, .int m_refr, .int m_tag, .int m_tagsz, .int m_quote, .int m_chars, .int m_brackets, .int m_matched, .long m_number, .int 2]))] H := hP
              have hD : va_D A [(mh, .inr (4, [.ref m_te, .int m_size, .ref m_re, .int m_len, .int (nI np), .ref m_kn, .ref m_bg, .ref m_en, .ref m_dp, .int (nI no), .ref m_nm, .ref m_sz, .int (nI na), .ref m_aa, .ref m_asz, .int m_elements, .int m_most, .int m_values, .int (nI t), .int m_phase, .int m_state, .int (nI t), .int m_begin, .int m_name, .int m_refr, .int m_tag, .int m_tagsz, .int m_quote, .int m_chars, .int m_brackets, .int m_matched, .long m_number, .int 2]))] := hD
              have hP9 := hP.sub (ws' := [(mh, .inr (4, [.ref m_te, .int m_size, .ref m_re, .int m_len, .int (nI np), .ref m_kn, .ref m_bg, .ref m_en, .ref m_dp, .int (nI no), .ref m_nm, .ref m_sz, .int (nI na), .ref m_aa, .ref m_asz, .int m_elements, .int m_most, .int m_values, .int (nI t), .int m_phase, .int m_state, .int (nI t), .int m_begin, .int m_name, .int m_refr, .int m_tag, .int m_tagsz, .int m_quote, .int m_chars, .int m_brackets, .int m_matched, .long m_number, .int 2]))]) [0] rfl
              have hD9 := hD.sub (ws' := [(mh, .inr (4, [.ref m_te, .int m_size, .ref m_re, .int m_len, .int (nI np), .ref m_kn, .ref m_bg, .ref m_en, .ref m_dp, .int (nI no), .ref m_nm, .ref m_sz, .int (nI na), .ref m_aa, .ref m_asz, .int m_elements, .int m_most, .int m_values, .int (nI t), .int m_phase, .int m_state, .int (nI t), .int m_begin, .int m_name, .int m_refr, .int m_tag, .int m_tagsz, .int m_quote, .int m_chars, .int m_brackets, .int m_matched, .long m_number, .int 2]))]) [0] (by decide) rfl
              exact W.iret (v := r_9) hx hb hr (fun t9 ht9 hW => ⟨⟨r_9, (m_state, (nI t), 2, m_matched), rfl, fun q => absurd (hw_68.symm.trans q) (by decide), by rw [ht9]; exact hP9, va_K.moved hW.alike hK, hD9⟩, hS.F ht9⟩) hS.2.2 dX4_section_71
          · skip
            refine lv_bipush (v := 84) hx hb dX4_section_54 (by decide) ?_
            refine lv_goto (tgt := 61) hx hb dX4_section_56 (by decide) ?_
            refine lv_istore_n (lv' := [(2, .int 84), (0, .ref mh), (1, .int p1)]) hx hb dX4_section_61 rfl hl (by decide) rfl (fun ls hl => ?_)
            refine lv_iload_n hx hb dX4_section_62 rfl (lv_at hl 2 rfl) ?_
            refine lv_iload_n hx hb dX4_section_63 rfl (lv_at hl 0 rfl) ?_
            refine lv_icmp_eq (tgt := 72) hx hb dX4_section_64 (by decide) (fun c_64 => ?_) (fun c_64 => ?_)
            · skip
              refine lv_aload_n hx hb dX4_section_72 rfl (lv_at hl 1 rfl) ?_
              refine lv_aload_n hx hb dX4_section_73 rfl (lv_at hl 1 rfl) ?_
              refine va_get (D := D) (ci := 4) (v := .int m_matched) (C := RX4) (T := TX4) (N := 33) hx hb hts inX4 hown hK hP 0 rfl rfl 30 (by decide) (hts (Cond.fieldLink "NestedTagsModel" 142 "NestedTagsModel" "matched" "I") kk_3_2) (fun _ h9 => h9) rfl dX4_section_74 ?_
              refine lv_iconst (v := 1) hx hb dX4_section_77 (by decide) ?_
              refine lv_iadd hx hb dX4_section_78 ?_
              refine lv_topi (fun x_11 ex_11 => ?_)
              refine va_put (D := D) (ci := 4) (v := .int x_11) (ty := .int) (C := RX4) (T := TX4) (N := 33) hx hb hts inX4 tyX4 tyX4_ok nmX4 hown hK hP hD hS 0 rfl rfl 30 (by decide) (hts (Cond.fieldLink "NestedTagsModel" 142 "NestedTagsModel" "matched" "I") kk_3_2) (fun _ h9 => h9) rfl (tyX4_ok 30 (by decide)) rfl rfl (Nat.le_of_ble_eq_true rfl) dX4_section_79 (fun H locs hP hD hS => ?_)
              have hP : va_P D classes [(mh, .inr (4, [.ref m_te, .int m_size, .ref m_re, .int m_len, .int (nI np), .ref m_kn, .ref m_bg, .ref m_en, .ref m_dp, .int (nI no), .ref m_nm, .ref m_sz, .int (nI na), .ref m_aa, .ref m_asz, .int m_elements, .int m_most, .int m_values, .int m_place, .int m_phase, .int m_state, .int (nI t), .int m_begin, .int m_name, .int m_refr, .int m_tag, .int m_tagsz, .int m_quote, .int m_chars, .int m_brackets, .int x_11, .long m_number, .int m_fault]))] H := hP
              have hD : va_D A [(mh, .inr (4, [.ref m_te, .int m_size, .ref m_re, .int m_len, .int (nI np), .ref m_kn, .ref m_bg, .ref m_en, .ref m_dp, .int (nI no), .ref m_nm, .ref m_sz, .int (nI na), .ref m_aa, .ref m_asz, .int m_elements, .int m_most, .int m_values, .int m_place, .int m_phase, .int m_state, .int (nI t), .int m_begin, .int m_name, .int m_refr, .int m_tag, .int m_tagsz, .int m_quote, .int m_chars, .int m_brackets, .int x_11, .long m_number, .int m_fault]))] := hD
              refine lv_aload_n hx hb dX4_section_82 rfl (lv_at hl 1 rfl) ?_
              refine va_get (D := D) (ci := 4) (v := .int x_11) (C := RX4) (T := TX4) (N := 33) hx hb hts inX4 hown hK hP 0 rfl rfl 30 (by decide) (hts (Cond.fieldLink "NestedTagsModel" 142 "NestedTagsModel" "matched" "I") kk_3_2) (fun _ h9 => h9) rfl dX4_section_83 ?_
              refine lv_bipush (v := 6) hx hb dX4_section_86 (by decide) ?_
              refine lv_icmp_ne (tgt := 100) hx hb dX4_section_88 (by decide) (fun c_88 => ?_) (fun c_88 => ?_)
              · skip
                refine lv_iconst (v := 0) hx hb dX4_section_100 (by decide) ?_
                have hP9 := hP.sub (ws' := [(mh, .inr (4, [.ref m_te, .int m_size, .ref m_re, .int m_len, .int (nI np), .ref m_kn, .ref m_bg, .ref m_en, .ref m_dp, .int (nI no), .ref m_nm, .ref m_sz, .int (nI na), .ref m_aa, .ref m_asz, .int m_elements, .int m_most, .int m_values, .int m_place, .int m_phase, .int m_state, .int (nI t), .int m_begin, .int m_name, .int m_refr, .int m_tag, .int m_tagsz, .int m_quote, .int m_chars, .int m_brackets, .int x_11, .long m_number, .int m_fault]))]) [0] rfl
                have hD9 := hD.sub (ws' := [(mh, .inr (4, [.ref m_te, .int m_size, .ref m_re, .int m_len, .int (nI np), .ref m_kn, .ref m_bg, .ref m_en, .ref m_dp, .int (nI no), .ref m_nm, .ref m_sz, .int (nI na), .ref m_aa, .ref m_asz, .int m_elements, .int m_most, .int m_values, .int m_place, .int m_phase, .int m_state, .int (nI t), .int m_begin, .int m_name, .int m_refr, .int m_tag, .int m_tagsz, .int m_quote, .int m_chars, .int m_brackets, .int x_11, .long m_number, .int m_fault]))]) [0] (by decide) rfl
                exact W.iret (v := 0) hx hb hr (fun t9 ht9 hW => ⟨⟨0, (m_state, m_place, m_fault, x_11), rfl, fun _ => Or.inl (rfl), by rw [ht9]; exact hP9, va_K.moved hW.alike hK, hD9⟩, hS.F ht9⟩) hS.2.2 dX4_section_101
              · skip
                refine lv_aload_n hx hb dX4_section_91 rfl (lv_at hl 1 rfl) ?_
                refine lv_bipush (v := 41) hx hb dX4_section_92 (by decide) ?_
                refine gcall_i (va_runV (As := [.int 41]) (rest := []) ⟨hx, hb, hml, hown, hts⟩ (c_X4_go l D cI V mh m_te m_size m_re m_len m_kn m_bg m_en m_dp m_nm m_sz m_aa m_asz m_elements m_most m_values m_place m_phase m_state m_begin m_name m_refr m_tag m_tagsz m_quote m_chars m_brackets x_11 m_number m_fault np no na t H.size 41) (cwV 1 hts (tb_goodV kk_3_88 kk_3_90 kk_0_24 kk_1_6 kk_3_91) rfl rfl rfl (hdV_X4_go) ⟨Nat.le_of_ble_eq_true rfl, Nat.le_of_ble_eq_true rfl⟩) (gpreV hK hN hV hS hA hP hD [0] rfl rfl (by decide) (va_recv hK hP (ci := 4) (q0 := 0) rfl rfl)) rfl rfl hl.1 rfl (lv_room (Nat.le_of_ble_eq_true rfl)) dX4_section_94 ⟨Nat.le_of_ble_eq_true rfl, Nat.le_of_ble_eq_true rfl⟩) hP hD hS hA [0] [] (wr := []) rfl rfl (by decide) (by decide) (fun r_12 u_13 H locs hw_94 hP hD hS => ?_)
                try dsimp only at hw_94
                have hP : va_P D classes [(mh, .inr (4, [.ref m_te, .int m_size, .ref m_re, .int m_len, .int (nI np), .ref m_kn, .ref m_bg, .ref m_en, .ref m_dp, .int (nI no), .ref m_nm, .ref m_sz, .int (nI na), .ref m_aa, .ref m_asz, .int m_elements, .int m_most, .int m_values, .int m_place, .int m_phase, .int 41, .int (nI t), .int m_begin, .int m_name, .int m_refr, .int m_tag, .int m_tagsz, .int m_quote, .int m_chars, .int m_brackets, .int x_11, .long m_number, .int m_fault]))] H := hP
                have hD : va_D A [(mh, .inr (4, [.ref m_te, .int m_size, .ref m_re, .int m_len, .int (nI np), .ref m_kn, .ref m_bg, .ref m_en, .ref m_dp, .int (nI no), .ref m_nm, .ref m_sz, .int (nI na), .ref m_aa, .ref m_asz, .int m_elements, .int m_most, .int m_values, .int m_place, .int m_phase, .int 41, .int (nI t), .int m_begin, .int m_name, .int m_refr, .int m_tag, .int m_tagsz, .int m_quote, .int m_chars, .int m_brackets, .int x_11, .long m_number, .int m_fault]))] := hD
                refine lv_goto (tgt := 101) hx hb dX4_section_97 (by decide) ?_
                have hP9 := hP.sub (ws' := [(mh, .inr (4, [.ref m_te, .int m_size, .ref m_re, .int m_len, .int (nI np), .ref m_kn, .ref m_bg, .ref m_en, .ref m_dp, .int (nI no), .ref m_nm, .ref m_sz, .int (nI na), .ref m_aa, .ref m_asz, .int m_elements, .int m_most, .int m_values, .int m_place, .int m_phase, .int 41, .int (nI t), .int m_begin, .int m_name, .int m_refr, .int m_tag, .int m_tagsz, .int m_quote, .int m_chars, .int m_brackets, .int x_11, .long m_number, .int m_fault]))]) [0] rfl
                have hD9 := hD.sub (ws' := [(mh, .inr (4, [.ref m_te, .int m_size, .ref m_re, .int m_len, .int (nI np), .ref m_kn, .ref m_bg, .ref m_en, .ref m_dp, .int (nI no), .ref m_nm, .ref m_sz, .int (nI na), .ref m_aa, .ref m_asz, .int m_elements, .int m_most, .int m_values, .int m_place, .int m_phase, .int 41, .int (nI t), .int m_begin, .int m_name, .int m_refr, .int m_tag, .int m_tagsz, .int m_quote, .int m_chars, .int m_brackets, .int x_11, .long m_number, .int m_fault]))]) [0] (by decide) rfl
                exact W.iret (v := r_12) hx hb hr (fun t9 ht9 hW => ⟨⟨r_12, (41, m_place, m_fault, x_11), rfl, fun _ => Or.inr (rfl), by rw [ht9]; exact hP9, va_K.moved hW.alike hK, hD9⟩, hS.F ht9⟩) hS.2.2 dX4_section_101
            · skip
              refine lv_aload_n hx hb dX4_section_67 rfl (lv_at hl 1 rfl) ?_
              refine gcall_i (va_runV (As := []) (rest := []) ⟨hx, hb, hml, hown, hts⟩ (c_X4_wrong_w l D cI V mh m_te m_size m_re m_len m_kn m_bg m_en m_dp m_nm m_sz m_aa m_asz m_elements m_most m_values m_place m_phase m_state m_begin m_name m_refr m_tag m_tagsz m_quote m_chars m_brackets m_matched m_number m_fault np no na t s.heap.size ) (cwV 0 hts (tb_goodV kk_3_92 kk_3_94 kk_0_25 kk_1_6 kk_3_95) rfl rfl rfl (hdV_X4_wrong) ⟨Nat.le_of_ble_eq_true rfl, Nat.le_of_ble_eq_true rfl⟩) (gpreV hK hN hV hS hA hP hD [0] rfl rfl (by decide) (va_recv hK hP (ci := 4) (q0 := 0) rfl rfl)) rfl rfl hl.1 rfl (lv_room (Nat.le_of_ble_eq_true rfl)) dX4_section_68 ⟨Nat.le_of_ble_eq_true rfl, Nat.le_of_ble_eq_true rfl⟩) hP hD hS hA [0] [] (wr := []) rfl rfl (by decide) (by decide) (fun r_14 u_15 H locs hw_68 hP hD hS => ?_)
              try dsimp only at hw_68
              have hP : va_P D classes [(mh, .inr (4, [.ref m_te, .int m_size, .ref m_re, .int m_len, .int (nI np), .ref m_kn, .ref m_bg, .ref m_en, .ref m_dp, .int (nI no), .ref m_nm, .ref m_sz, .int (nI na), .ref m_aa, .ref m_asz, .int m_elements, .int m_most, .int m_values, .int (nI t), .int m_phase, .int m_state, .int (nI t), .int m_begin, .int m_name, .int m_refr, .int m_tag, .int m_tagsz, .int m_quote, .int m_chars, .int m_brackets, .int m_matched, .long m_number, .int 2]))] H := hP
              have hD : va_D A [(mh, .inr (4, [.ref m_te, .int m_size, .ref m_re, .int m_len, .int (nI np), .ref m_kn, .ref m_bg, .ref m_en, .ref m_dp, .int (nI no), .ref m_nm, .ref m_sz, .int (nI na), .ref m_aa, .ref m_asz, .int m_elements, .int m_most, .int m_values, .int (nI t), .int m_phase, .int m_state, .int (nI t), .int m_begin, .int m_name, .int m_refr, .int m_tag, .int m_tagsz, .int m_quote, .int m_chars, .int m_brackets, .int m_matched, .long m_number, .int 2]))] := hD
              have hP9 := hP.sub (ws' := [(mh, .inr (4, [.ref m_te, .int m_size, .ref m_re, .int m_len, .int (nI np), .ref m_kn, .ref m_bg, .ref m_en, .ref m_dp, .int (nI no), .ref m_nm, .ref m_sz, .int (nI na), .ref m_aa, .ref m_asz, .int m_elements, .int m_most, .int m_values, .int (nI t), .int m_phase, .int m_state, .int (nI t), .int m_begin, .int m_name, .int m_refr, .int m_tag, .int m_tagsz, .int m_quote, .int m_chars, .int m_brackets, .int m_matched, .long m_number, .int 2]))]) [0] rfl
              have hD9 := hD.sub (ws' := [(mh, .inr (4, [.ref m_te, .int m_size, .ref m_re, .int m_len, .int (nI np), .ref m_kn, .ref m_bg, .ref m_en, .ref m_dp, .int (nI no), .ref m_nm, .ref m_sz, .int (nI na), .ref m_aa, .ref m_asz, .int m_elements, .int m_most, .int m_values, .int (nI t), .int m_phase, .int m_state, .int (nI t), .int m_begin, .int m_name, .int m_refr, .int m_tag, .int m_tagsz, .int m_quote, .int m_chars, .int m_brackets, .int m_matched, .long m_number, .int 2]))]) [0] (by decide) rfl
              exact W.iret (v := r_14) hx hb hr (fun t9 ht9 hW => ⟨⟨r_14, (m_state, (nI t), 2, m_matched), rfl, fun q => absurd (hw_68.symm.trans q) (by decide), by rw [ht9]; exact hP9, va_K.moved hW.alike hK, hD9⟩, hS.F ht9⟩) hS.2.2 dX4_section_71
        · skip
          refine lv_bipush (v := 65) hx hb dX4_section_41 (by decide) ?_
          refine lv_goto (tgt := 61) hx hb dX4_section_43 (by decide) ?_
          refine lv_istore_n (lv' := [(2, .int 65), (0, .ref mh), (1, .int p1)]) hx hb dX4_section_61 rfl hl (by decide) rfl (fun ls hl => ?_)
          refine lv_iload_n hx hb dX4_section_62 rfl (lv_at hl 2 rfl) ?_
          refine lv_iload_n hx hb dX4_section_63 rfl (lv_at hl 0 rfl) ?_
          refine lv_icmp_eq (tgt := 72) hx hb dX4_section_64 (by decide) (fun c_64 => ?_) (fun c_64 => ?_)
          · skip
            refine lv_aload_n hx hb dX4_section_72 rfl (lv_at hl 1 rfl) ?_
            refine lv_aload_n hx hb dX4_section_73 rfl (lv_at hl 1 rfl) ?_
            refine va_get (D := D) (ci := 4) (v := .int m_matched) (C := RX4) (T := TX4) (N := 33) hx hb hts inX4 hown hK hP 0 rfl rfl 30 (by decide) (hts (Cond.fieldLink "NestedTagsModel" 142 "NestedTagsModel" "matched" "I") kk_3_2) (fun _ h9 => h9) rfl dX4_section_74 ?_
            refine lv_iconst (v := 1) hx hb dX4_section_77 (by decide) ?_
            refine lv_iadd hx hb dX4_section_78 ?_
            refine lv_topi (fun x_16 ex_16 => ?_)
            refine va_put (D := D) (ci := 4) (v := .int x_16) (ty := .int) (C := RX4) (T := TX4) (N := 33) hx hb hts inX4 tyX4 tyX4_ok nmX4 hown hK hP hD hS 0 rfl rfl 30 (by decide) (hts (Cond.fieldLink "NestedTagsModel" 142 "NestedTagsModel" "matched" "I") kk_3_2) (fun _ h9 => h9) rfl (tyX4_ok 30 (by decide)) rfl rfl (Nat.le_of_ble_eq_true rfl) dX4_section_79 (fun H locs hP hD hS => ?_)
            have hP : va_P D classes [(mh, .inr (4, [.ref m_te, .int m_size, .ref m_re, .int m_len, .int (nI np), .ref m_kn, .ref m_bg, .ref m_en, .ref m_dp, .int (nI no), .ref m_nm, .ref m_sz, .int (nI na), .ref m_aa, .ref m_asz, .int m_elements, .int m_most, .int m_values, .int m_place, .int m_phase, .int m_state, .int (nI t), .int m_begin, .int m_name, .int m_refr, .int m_tag, .int m_tagsz, .int m_quote, .int m_chars, .int m_brackets, .int x_16, .long m_number, .int m_fault]))] H := hP
            have hD : va_D A [(mh, .inr (4, [.ref m_te, .int m_size, .ref m_re, .int m_len, .int (nI np), .ref m_kn, .ref m_bg, .ref m_en, .ref m_dp, .int (nI no), .ref m_nm, .ref m_sz, .int (nI na), .ref m_aa, .ref m_asz, .int m_elements, .int m_most, .int m_values, .int m_place, .int m_phase, .int m_state, .int (nI t), .int m_begin, .int m_name, .int m_refr, .int m_tag, .int m_tagsz, .int m_quote, .int m_chars, .int m_brackets, .int x_16, .long m_number, .int m_fault]))] := hD
            refine lv_aload_n hx hb dX4_section_82 rfl (lv_at hl 1 rfl) ?_
            refine va_get (D := D) (ci := 4) (v := .int x_16) (C := RX4) (T := TX4) (N := 33) hx hb hts inX4 hown hK hP 0 rfl rfl 30 (by decide) (hts (Cond.fieldLink "NestedTagsModel" 142 "NestedTagsModel" "matched" "I") kk_3_2) (fun _ h9 => h9) rfl dX4_section_83 ?_
            refine lv_bipush (v := 6) hx hb dX4_section_86 (by decide) ?_
            refine lv_icmp_ne (tgt := 100) hx hb dX4_section_88 (by decide) (fun c_88 => ?_) (fun c_88 => ?_)
            · skip
              refine lv_iconst (v := 0) hx hb dX4_section_100 (by decide) ?_
              have hP9 := hP.sub (ws' := [(mh, .inr (4, [.ref m_te, .int m_size, .ref m_re, .int m_len, .int (nI np), .ref m_kn, .ref m_bg, .ref m_en, .ref m_dp, .int (nI no), .ref m_nm, .ref m_sz, .int (nI na), .ref m_aa, .ref m_asz, .int m_elements, .int m_most, .int m_values, .int m_place, .int m_phase, .int m_state, .int (nI t), .int m_begin, .int m_name, .int m_refr, .int m_tag, .int m_tagsz, .int m_quote, .int m_chars, .int m_brackets, .int x_16, .long m_number, .int m_fault]))]) [0] rfl
              have hD9 := hD.sub (ws' := [(mh, .inr (4, [.ref m_te, .int m_size, .ref m_re, .int m_len, .int (nI np), .ref m_kn, .ref m_bg, .ref m_en, .ref m_dp, .int (nI no), .ref m_nm, .ref m_sz, .int (nI na), .ref m_aa, .ref m_asz, .int m_elements, .int m_most, .int m_values, .int m_place, .int m_phase, .int m_state, .int (nI t), .int m_begin, .int m_name, .int m_refr, .int m_tag, .int m_tagsz, .int m_quote, .int m_chars, .int m_brackets, .int x_16, .long m_number, .int m_fault]))]) [0] (by decide) rfl
              exact W.iret (v := 0) hx hb hr (fun t9 ht9 hW => ⟨⟨0, (m_state, m_place, m_fault, x_16), rfl, fun _ => Or.inl (rfl), by rw [ht9]; exact hP9, va_K.moved hW.alike hK, hD9⟩, hS.F ht9⟩) hS.2.2 dX4_section_101
            · skip
              refine lv_aload_n hx hb dX4_section_91 rfl (lv_at hl 1 rfl) ?_
              refine lv_bipush (v := 41) hx hb dX4_section_92 (by decide) ?_
              refine gcall_i (va_runV (As := [.int 41]) (rest := []) ⟨hx, hb, hml, hown, hts⟩ (c_X4_go l D cI V mh m_te m_size m_re m_len m_kn m_bg m_en m_dp m_nm m_sz m_aa m_asz m_elements m_most m_values m_place m_phase m_state m_begin m_name m_refr m_tag m_tagsz m_quote m_chars m_brackets x_16 m_number m_fault np no na t H.size 41) (cwV 1 hts (tb_goodV kk_3_88 kk_3_90 kk_0_24 kk_1_6 kk_3_91) rfl rfl rfl (hdV_X4_go) ⟨Nat.le_of_ble_eq_true rfl, Nat.le_of_ble_eq_true rfl⟩) (gpreV hK hN hV hS hA hP hD [0] rfl rfl (by decide) (va_recv hK hP (ci := 4) (q0 := 0) rfl rfl)) rfl rfl hl.1 rfl (lv_room (Nat.le_of_ble_eq_true rfl)) dX4_section_94 ⟨Nat.le_of_ble_eq_true rfl, Nat.le_of_ble_eq_true rfl⟩) hP hD hS hA [0] [] (wr := []) rfl rfl (by decide) (by decide) (fun r_17 u_18 H locs hw_94 hP hD hS => ?_)
              try dsimp only at hw_94
              have hP : va_P D classes [(mh, .inr (4, [.ref m_te, .int m_size, .ref m_re, .int m_len, .int (nI np), .ref m_kn, .ref m_bg, .ref m_en, .ref m_dp, .int (nI no), .ref m_nm, .ref m_sz, .int (nI na), .ref m_aa, .ref m_asz, .int m_elements, .int m_most, .int m_values, .int m_place, .int m_phase, .int 41, .int (nI t), .int m_begin, .int m_name, .int m_refr, .int m_tag, .int m_tagsz, .int m_quote, .int m_chars, .int m_brackets, .int x_16, .long m_number, .int m_fault]))] H := hP
              have hD : va_D A [(mh, .inr (4, [.ref m_te, .int m_size, .ref m_re, .int m_len, .int (nI np), .ref m_kn, .ref m_bg, .ref m_en, .ref m_dp, .int (nI no), .ref m_nm, .ref m_sz, .int (nI na), .ref m_aa, .ref m_asz, .int m_elements, .int m_most, .int m_values, .int m_place, .int m_phase, .int 41, .int (nI t), .int m_begin, .int m_name, .int m_refr, .int m_tag, .int m_tagsz, .int m_quote, .int m_chars, .int m_brackets, .int x_16, .long m_number, .int m_fault]))] := hD
              refine lv_goto (tgt := 101) hx hb dX4_section_97 (by decide) ?_
              have hP9 := hP.sub (ws' := [(mh, .inr (4, [.ref m_te, .int m_size, .ref m_re, .int m_len, .int (nI np), .ref m_kn, .ref m_bg, .ref m_en, .ref m_dp, .int (nI no), .ref m_nm, .ref m_sz, .int (nI na), .ref m_aa, .ref m_asz, .int m_elements, .int m_most, .int m_values, .int m_place, .int m_phase, .int 41, .int (nI t), .int m_begin, .int m_name, .int m_refr, .int m_tag, .int m_tagsz, .int m_quote, .int m_chars, .int m_brackets, .int x_16, .long m_number, .int m_fault]))]) [0] rfl
              have hD9 := hD.sub (ws' := [(mh, .inr (4, [.ref m_te, .int m_size, .ref m_re, .int m_len, .int (nI np), .ref m_kn, .ref m_bg, .ref m_en, .ref m_dp, .int (nI no), .ref m_nm, .ref m_sz, .int (nI na), .ref m_aa, .ref m_asz, .int m_elements, .int m_most, .int m_values, .int m_place, .int m_phase, .int 41, .int (nI t), .int m_begin, .int m_name, .int m_refr, .int m_tag, .int m_tagsz, .int m_quote, .int m_chars, .int m_brackets, .int x_16, .long m_number, .int m_fault]))]) [0] (by decide) rfl
              exact W.iret (v := r_17) hx hb hr (fun t9 ht9 hW => ⟨⟨r_17, (41, m_place, m_fault, x_16), rfl, fun _ => Or.inr (rfl), by rw [ht9]; exact hP9, va_K.moved hW.alike hK, hD9⟩, hS.F ht9⟩) hS.2.2 dX4_section_101
          · skip
            refine lv_aload_n hx hb dX4_section_67 rfl (lv_at hl 1 rfl) ?_
            refine gcall_i (va_runV (As := []) (rest := []) ⟨hx, hb, hml, hown, hts⟩ (c_X4_wrong_w l D cI V mh m_te m_size m_re m_len m_kn m_bg m_en m_dp m_nm m_sz m_aa m_asz m_elements m_most m_values m_place m_phase m_state m_begin m_name m_refr m_tag m_tagsz m_quote m_chars m_brackets m_matched m_number m_fault np no na t s.heap.size ) (cwV 0 hts (tb_goodV kk_3_92 kk_3_94 kk_0_25 kk_1_6 kk_3_95) rfl rfl rfl (hdV_X4_wrong) ⟨Nat.le_of_ble_eq_true rfl, Nat.le_of_ble_eq_true rfl⟩) (gpreV hK hN hV hS hA hP hD [0] rfl rfl (by decide) (va_recv hK hP (ci := 4) (q0 := 0) rfl rfl)) rfl rfl hl.1 rfl (lv_room (Nat.le_of_ble_eq_true rfl)) dX4_section_68 ⟨Nat.le_of_ble_eq_true rfl, Nat.le_of_ble_eq_true rfl⟩) hP hD hS hA [0] [] (wr := []) rfl rfl (by decide) (by decide) (fun r_19 u_20 H locs hw_68 hP hD hS => ?_)
            try dsimp only at hw_68
            have hP : va_P D classes [(mh, .inr (4, [.ref m_te, .int m_size, .ref m_re, .int m_len, .int (nI np), .ref m_kn, .ref m_bg, .ref m_en, .ref m_dp, .int (nI no), .ref m_nm, .ref m_sz, .int (nI na), .ref m_aa, .ref m_asz, .int m_elements, .int m_most, .int m_values, .int (nI t), .int m_phase, .int m_state, .int (nI t), .int m_begin, .int m_name, .int m_refr, .int m_tag, .int m_tagsz, .int m_quote, .int m_chars, .int m_brackets, .int m_matched, .long m_number, .int 2]))] H := hP
            have hD : va_D A [(mh, .inr (4, [.ref m_te, .int m_size, .ref m_re, .int m_len, .int (nI np), .ref m_kn, .ref m_bg, .ref m_en, .ref m_dp, .int (nI no), .ref m_nm, .ref m_sz, .int (nI na), .ref m_aa, .ref m_asz, .int m_elements, .int m_most, .int m_values, .int (nI t), .int m_phase, .int m_state, .int (nI t), .int m_begin, .int m_name, .int m_refr, .int m_tag, .int m_tagsz, .int m_quote, .int m_chars, .int m_brackets, .int m_matched, .long m_number, .int 2]))] := hD
            have hP9 := hP.sub (ws' := [(mh, .inr (4, [.ref m_te, .int m_size, .ref m_re, .int m_len, .int (nI np), .ref m_kn, .ref m_bg, .ref m_en, .ref m_dp, .int (nI no), .ref m_nm, .ref m_sz, .int (nI na), .ref m_aa, .ref m_asz, .int m_elements, .int m_most, .int m_values, .int (nI t), .int m_phase, .int m_state, .int (nI t), .int m_begin, .int m_name, .int m_refr, .int m_tag, .int m_tagsz, .int m_quote, .int m_chars, .int m_brackets, .int m_matched, .long m_number, .int 2]))]) [0] rfl
            have hD9 := hD.sub (ws' := [(mh, .inr (4, [.ref m_te, .int m_size, .ref m_re, .int m_len, .int (nI np), .ref m_kn, .ref m_bg, .ref m_en, .ref m_dp, .int (nI no), .ref m_nm, .ref m_sz, .int (nI na), .ref m_aa, .ref m_asz, .int m_elements, .int m_most, .int m_values, .int (nI t), .int m_phase, .int m_state, .int (nI t), .int m_begin, .int m_name, .int m_refr, .int m_tag, .int m_tagsz, .int m_quote, .int m_chars, .int m_brackets, .int m_matched, .long m_number, .int 2]))]) [0] (by decide) rfl
            exact W.iret (v := r_19) hx hb hr (fun t9 ht9 hW => ⟨⟨r_19, (m_state, (nI t), 2, m_matched), rfl, fun q => absurd (hw_68.symm.trans q) (by decide), by rw [ht9]; exact hP9, va_K.moved hW.alike hK, hD9⟩, hS.F ht9⟩) hS.2.2 dX4_section_71
    · skip
      refine lv_bipush (v := 68) hx hb dX4_section_20 (by decide) ?_
      refine lv_goto (tgt := 61) hx hb dX4_section_22 (by decide) ?_
      refine lv_istore_n (lv' := [(2, .int 68), (0, .ref mh), (1, .int p1)]) hx hb dX4_section_61 rfl hl (by decide) rfl (fun ls hl => ?_)
      refine lv_iload_n hx hb dX4_section_62 rfl (lv_at hl 2 rfl) ?_
      refine lv_iload_n hx hb dX4_section_63 rfl (lv_at hl 0 rfl) ?_
      refine lv_icmp_eq (tgt := 72) hx hb dX4_section_64 (by decide) (fun c_64 => ?_) (fun c_64 => ?_)
      · skip
        refine lv_aload_n hx hb dX4_section_72 rfl (lv_at hl 1 rfl) ?_
        refine lv_aload_n hx hb dX4_section_73 rfl (lv_at hl 1 rfl) ?_
        refine va_get (D := D) (ci := 4) (v := .int m_matched) (C := RX4) (T := TX4) (N := 33) hx hb hts inX4 hown hK hP 0 rfl rfl 30 (by decide) (hts (Cond.fieldLink "NestedTagsModel" 142 "NestedTagsModel" "matched" "I") kk_3_2) (fun _ h9 => h9) rfl dX4_section_74 ?_
        refine lv_iconst (v := 1) hx hb dX4_section_77 (by decide) ?_
        refine lv_iadd hx hb dX4_section_78 ?_
        refine lv_topi (fun x_21 ex_21 => ?_)
        refine va_put (D := D) (ci := 4) (v := .int x_21) (ty := .int) (C := RX4) (T := TX4) (N := 33) hx hb hts inX4 tyX4 tyX4_ok nmX4 hown hK hP hD hS 0 rfl rfl 30 (by decide) (hts (Cond.fieldLink "NestedTagsModel" 142 "NestedTagsModel" "matched" "I") kk_3_2) (fun _ h9 => h9) rfl (tyX4_ok 30 (by decide)) rfl rfl (Nat.le_of_ble_eq_true rfl) dX4_section_79 (fun H locs hP hD hS => ?_)
        have hP : va_P D classes [(mh, .inr (4, [.ref m_te, .int m_size, .ref m_re, .int m_len, .int (nI np), .ref m_kn, .ref m_bg, .ref m_en, .ref m_dp, .int (nI no), .ref m_nm, .ref m_sz, .int (nI na), .ref m_aa, .ref m_asz, .int m_elements, .int m_most, .int m_values, .int m_place, .int m_phase, .int m_state, .int (nI t), .int m_begin, .int m_name, .int m_refr, .int m_tag, .int m_tagsz, .int m_quote, .int m_chars, .int m_brackets, .int x_21, .long m_number, .int m_fault]))] H := hP
        have hD : va_D A [(mh, .inr (4, [.ref m_te, .int m_size, .ref m_re, .int m_len, .int (nI np), .ref m_kn, .ref m_bg, .ref m_en, .ref m_dp, .int (nI no), .ref m_nm, .ref m_sz, .int (nI na), .ref m_aa, .ref m_asz, .int m_elements, .int m_most, .int m_values, .int m_place, .int m_phase, .int m_state, .int (nI t), .int m_begin, .int m_name, .int m_refr, .int m_tag, .int m_tagsz, .int m_quote, .int m_chars, .int m_brackets, .int x_21, .long m_number, .int m_fault]))] := hD
        refine lv_aload_n hx hb dX4_section_82 rfl (lv_at hl 1 rfl) ?_
        refine va_get (D := D) (ci := 4) (v := .int x_21) (C := RX4) (T := TX4) (N := 33) hx hb hts inX4 hown hK hP 0 rfl rfl 30 (by decide) (hts (Cond.fieldLink "NestedTagsModel" 142 "NestedTagsModel" "matched" "I") kk_3_2) (fun _ h9 => h9) rfl dX4_section_83 ?_
        refine lv_bipush (v := 6) hx hb dX4_section_86 (by decide) ?_
        refine lv_icmp_ne (tgt := 100) hx hb dX4_section_88 (by decide) (fun c_88 => ?_) (fun c_88 => ?_)
        · skip
          refine lv_iconst (v := 0) hx hb dX4_section_100 (by decide) ?_
          have hP9 := hP.sub (ws' := [(mh, .inr (4, [.ref m_te, .int m_size, .ref m_re, .int m_len, .int (nI np), .ref m_kn, .ref m_bg, .ref m_en, .ref m_dp, .int (nI no), .ref m_nm, .ref m_sz, .int (nI na), .ref m_aa, .ref m_asz, .int m_elements, .int m_most, .int m_values, .int m_place, .int m_phase, .int m_state, .int (nI t), .int m_begin, .int m_name, .int m_refr, .int m_tag, .int m_tagsz, .int m_quote, .int m_chars, .int m_brackets, .int x_21, .long m_number, .int m_fault]))]) [0] rfl
          have hD9 := hD.sub (ws' := [(mh, .inr (4, [.ref m_te, .int m_size, .ref m_re, .int m_len, .int (nI np), .ref m_kn, .ref m_bg, .ref m_en, .ref m_dp, .int (nI no), .ref m_nm, .ref m_sz, .int (nI na), .ref m_aa, .ref m_asz, .int m_elements, .int m_most, .int m_values, .int m_place, .int m_phase, .int m_state, .int (nI t), .int m_begin, .int m_name, .int m_refr, .int m_tag, .int m_tagsz, .int m_quote, .int m_chars, .int m_brackets, .int x_21, .long m_number, .int m_fault]))]) [0] (by decide) rfl
          exact W.iret (v := 0) hx hb hr (fun t9 ht9 hW => ⟨⟨0, (m_state, m_place, m_fault, x_21), rfl, fun _ => Or.inl (rfl), by rw [ht9]; exact hP9, va_K.moved hW.alike hK, hD9⟩, hS.F ht9⟩) hS.2.2 dX4_section_101
        · skip
          refine lv_aload_n hx hb dX4_section_91 rfl (lv_at hl 1 rfl) ?_
          refine lv_bipush (v := 41) hx hb dX4_section_92 (by decide) ?_
          refine gcall_i (va_runV (As := [.int 41]) (rest := []) ⟨hx, hb, hml, hown, hts⟩ (c_X4_go l D cI V mh m_te m_size m_re m_len m_kn m_bg m_en m_dp m_nm m_sz m_aa m_asz m_elements m_most m_values m_place m_phase m_state m_begin m_name m_refr m_tag m_tagsz m_quote m_chars m_brackets x_21 m_number m_fault np no na t H.size 41) (cwV 1 hts (tb_goodV kk_3_88 kk_3_90 kk_0_24 kk_1_6 kk_3_91) rfl rfl rfl (hdV_X4_go) ⟨Nat.le_of_ble_eq_true rfl, Nat.le_of_ble_eq_true rfl⟩) (gpreV hK hN hV hS hA hP hD [0] rfl rfl (by decide) (va_recv hK hP (ci := 4) (q0 := 0) rfl rfl)) rfl rfl hl.1 rfl (lv_room (Nat.le_of_ble_eq_true rfl)) dX4_section_94 ⟨Nat.le_of_ble_eq_true rfl, Nat.le_of_ble_eq_true rfl⟩) hP hD hS hA [0] [] (wr := []) rfl rfl (by decide) (by decide) (fun r_22 u_23 H locs hw_94 hP hD hS => ?_)
          try dsimp only at hw_94
          have hP : va_P D classes [(mh, .inr (4, [.ref m_te, .int m_size, .ref m_re, .int m_len, .int (nI np), .ref m_kn, .ref m_bg, .ref m_en, .ref m_dp, .int (nI no), .ref m_nm, .ref m_sz, .int (nI na), .ref m_aa, .ref m_asz, .int m_elements, .int m_most, .int m_values, .int m_place, .int m_phase, .int 41, .int (nI t), .int m_begin, .int m_name, .int m_refr, .int m_tag, .int m_tagsz, .int m_quote, .int m_chars, .int m_brackets, .int x_21, .long m_number, .int m_fault]))] H := hP
          have hD : va_D A [(mh, .inr (4, [.ref m_te, .int m_size, .ref m_re, .int m_len, .int (nI np), .ref m_kn, .ref m_bg, .ref m_en, .ref m_dp, .int (nI no), .ref m_nm, .ref m_sz, .int (nI na), .ref m_aa, .ref m_asz, .int m_elements, .int m_most, .int m_values, .int m_place, .int m_phase, .int 41, .int (nI t), .int m_begin, .int m_name, .int m_refr, .int m_tag, .int m_tagsz, .int m_quote, .int m_chars, .int m_brackets, .int x_21, .long m_number, .int m_fault]))] := hD
          refine lv_goto (tgt := 101) hx hb dX4_section_97 (by decide) ?_
          have hP9 := hP.sub (ws' := [(mh, .inr (4, [.ref m_te, .int m_size, .ref m_re, .int m_len, .int (nI np), .ref m_kn, .ref m_bg, .ref m_en, .ref m_dp, .int (nI no), .ref m_nm, .ref m_sz, .int (nI na), .ref m_aa, .ref m_asz, .int m_elements, .int m_most, .int m_values, .int m_place, .int m_phase, .int 41, .int (nI t), .int m_begin, .int m_name, .int m_refr, .int m_tag, .int m_tagsz, .int m_quote, .int m_chars, .int m_brackets, .int x_21, .long m_number, .int m_fault]))]) [0] rfl
          have hD9 := hD.sub (ws' := [(mh, .inr (4, [.ref m_te, .int m_size, .ref m_re, .int m_len, .int (nI np), .ref m_kn, .ref m_bg, .ref m_en, .ref m_dp, .int (nI no), .ref m_nm, .ref m_sz, .int (nI na), .ref m_aa, .ref m_asz, .int m_elements, .int m_most, .int m_values, .int m_place, .int m_phase, .int 41, .int (nI t), .int m_begin, .int m_name, .int m_refr, .int m_tag, .int m_tagsz, .int m_quote, .int m_chars, .int m_brackets, .int x_21, .long m_number, .int m_fault]))]) [0] (by decide) rfl
          exact W.iret (v := r_22) hx hb hr (fun t9 ht9 hW => ⟨⟨r_22, (41, m_place, m_fault, x_21), rfl, fun _ => Or.inr (rfl), by rw [ht9]; exact hP9, va_K.moved hW.alike hK, hD9⟩, hS.F ht9⟩) hS.2.2 dX4_section_101
      · skip
        refine lv_aload_n hx hb dX4_section_67 rfl (lv_at hl 1 rfl) ?_
        refine gcall_i (va_runV (As := []) (rest := []) ⟨hx, hb, hml, hown, hts⟩ (c_X4_wrong_w l D cI V mh m_te m_size m_re m_len m_kn m_bg m_en m_dp m_nm m_sz m_aa m_asz m_elements m_most m_values m_place m_phase m_state m_begin m_name m_refr m_tag m_tagsz m_quote m_chars m_brackets m_matched m_number m_fault np no na t s.heap.size ) (cwV 0 hts (tb_goodV kk_3_92 kk_3_94 kk_0_25 kk_1_6 kk_3_95) rfl rfl rfl (hdV_X4_wrong) ⟨Nat.le_of_ble_eq_true rfl, Nat.le_of_ble_eq_true rfl⟩) (gpreV hK hN hV hS hA hP hD [0] rfl rfl (by decide) (va_recv hK hP (ci := 4) (q0 := 0) rfl rfl)) rfl rfl hl.1 rfl (lv_room (Nat.le_of_ble_eq_true rfl)) dX4_section_68 ⟨Nat.le_of_ble_eq_true rfl, Nat.le_of_ble_eq_true rfl⟩) hP hD hS hA [0] [] (wr := []) rfl rfl (by decide) (by decide) (fun r_24 u_25 H locs hw_68 hP hD hS => ?_)
        try dsimp only at hw_68
        have hP : va_P D classes [(mh, .inr (4, [.ref m_te, .int m_size, .ref m_re, .int m_len, .int (nI np), .ref m_kn, .ref m_bg, .ref m_en, .ref m_dp, .int (nI no), .ref m_nm, .ref m_sz, .int (nI na), .ref m_aa, .ref m_asz, .int m_elements, .int m_most, .int m_values, .int (nI t), .int m_phase, .int m_state, .int (nI t), .int m_begin, .int m_name, .int m_refr, .int m_tag, .int m_tagsz, .int m_quote, .int m_chars, .int m_brackets, .int m_matched, .long m_number, .int 2]))] H := hP
        have hD : va_D A [(mh, .inr (4, [.ref m_te, .int m_size, .ref m_re, .int m_len, .int (nI np), .ref m_kn, .ref m_bg, .ref m_en, .ref m_dp, .int (nI no), .ref m_nm, .ref m_sz, .int (nI na), .ref m_aa, .ref m_asz, .int m_elements, .int m_most, .int m_values, .int (nI t), .int m_phase, .int m_state, .int (nI t), .int m_begin, .int m_name, .int m_refr, .int m_tag, .int m_tagsz, .int m_quote, .int m_chars, .int m_brackets, .int m_matched, .long m_number, .int 2]))] := hD
        have hP9 := hP.sub (ws' := [(mh, .inr (4, [.ref m_te, .int m_size, .ref m_re, .int m_len, .int (nI np), .ref m_kn, .ref m_bg, .ref m_en, .ref m_dp, .int (nI no), .ref m_nm, .ref m_sz, .int (nI na), .ref m_aa, .ref m_asz, .int m_elements, .int m_most, .int m_values, .int (nI t), .int m_phase, .int m_state, .int (nI t), .int m_begin, .int m_name, .int m_refr, .int m_tag, .int m_tagsz, .int m_quote, .int m_chars, .int m_brackets, .int m_matched, .long m_number, .int 2]))]) [0] rfl
        have hD9 := hD.sub (ws' := [(mh, .inr (4, [.ref m_te, .int m_size, .ref m_re, .int m_len, .int (nI np), .ref m_kn, .ref m_bg, .ref m_en, .ref m_dp, .int (nI no), .ref m_nm, .ref m_sz, .int (nI na), .ref m_aa, .ref m_asz, .int m_elements, .int m_most, .int m_values, .int (nI t), .int m_phase, .int m_state, .int (nI t), .int m_begin, .int m_name, .int m_refr, .int m_tag, .int m_tagsz, .int m_quote, .int m_chars, .int m_brackets, .int m_matched, .long m_number, .int 2]))]) [0] (by decide) rfl
        exact W.iret (v := r_24) hx hb hr (fun t9 ht9 hW => ⟨⟨r_24, (m_state, (nI t), 2, m_matched), rfl, fun q => absurd (hw_68.symm.trans q) (by decide), by rw [ht9]; exact hP9, va_K.moved hW.alike hK, hD9⟩, hS.F ht9⟩) hS.2.2 dX4_section_71
  · skip
    refine lv_bipush (v := 67) hx hb dX4_section_7 (by decide) ?_
    refine lv_goto (tgt := 61) hx hb dX4_section_9 (by decide) ?_
    refine lv_istore_n (lv' := [(2, .int 67), (0, .ref mh), (1, .int p1)]) hx hb dX4_section_61 rfl hl (by decide) rfl (fun ls hl => ?_)
    refine lv_iload_n hx hb dX4_section_62 rfl (lv_at hl 2 rfl) ?_
    refine lv_iload_n hx hb dX4_section_63 rfl (lv_at hl 0 rfl) ?_
    refine lv_icmp_eq (tgt := 72) hx hb dX4_section_64 (by decide) (fun c_64 => ?_) (fun c_64 => ?_)
    · skip
      refine lv_aload_n hx hb dX4_section_72 rfl (lv_at hl 1 rfl) ?_
      refine lv_aload_n hx hb dX4_section_73 rfl (lv_at hl 1 rfl) ?_
      refine va_get (D := D) (ci := 4) (v := .int m_matched) (C := RX4) (T := TX4) (N := 33) hx hb hts inX4 hown hK hP 0 rfl rfl 30 (by decide) (hts (Cond.fieldLink "NestedTagsModel" 142 "NestedTagsModel" "matched" "I") kk_3_2) (fun _ h9 => h9) rfl dX4_section_74 ?_
      refine lv_iconst (v := 1) hx hb dX4_section_77 (by decide) ?_
      refine lv_iadd hx hb dX4_section_78 ?_
      refine lv_topi (fun x_26 ex_26 => ?_)
      refine va_put (D := D) (ci := 4) (v := .int x_26) (ty := .int) (C := RX4) (T := TX4) (N := 33) hx hb hts inX4 tyX4 tyX4_ok nmX4 hown hK hP hD hS 0 rfl rfl 30 (by decide) (hts (Cond.fieldLink "NestedTagsModel" 142 "NestedTagsModel" "matched" "I") kk_3_2) (fun _ h9 => h9) rfl (tyX4_ok 30 (by decide)) rfl rfl (Nat.le_of_ble_eq_true rfl) dX4_section_79 (fun H locs hP hD hS => ?_)
      have hP : va_P D classes [(mh, .inr (4, [.ref m_te, .int m_size, .ref m_re, .int m_len, .int (nI np), .ref m_kn, .ref m_bg, .ref m_en, .ref m_dp, .int (nI no), .ref m_nm, .ref m_sz, .int (nI na), .ref m_aa, .ref m_asz, .int m_elements, .int m_most, .int m_values, .int m_place, .int m_phase, .int m_state, .int (nI t), .int m_begin, .int m_name, .int m_refr, .int m_tag, .int m_tagsz, .int m_quote, .int m_chars, .int m_brackets, .int x_26, .long m_number, .int m_fault]))] H := hP
      have hD : va_D A [(mh, .inr (4, [.ref m_te, .int m_size, .ref m_re, .int m_len, .int (nI np), .ref m_kn, .ref m_bg, .ref m_en, .ref m_dp, .int (nI no), .ref m_nm, .ref m_sz, .int (nI na), .ref m_aa, .ref m_asz, .int m_elements, .int m_most, .int m_values, .int m_place, .int m_phase, .int m_state, .int (nI t), .int m_begin, .int m_name, .int m_refr, .int m_tag, .int m_tagsz, .int m_quote, .int m_chars, .int m_brackets, .int x_26, .long m_number, .int m_fault]))] := hD
      refine lv_aload_n hx hb dX4_section_82 rfl (lv_at hl 1 rfl) ?_
      refine va_get (D := D) (ci := 4) (v := .int x_26) (C := RX4) (T := TX4) (N := 33) hx hb hts inX4 hown hK hP 0 rfl rfl 30 (by decide) (hts (Cond.fieldLink "NestedTagsModel" 142 "NestedTagsModel" "matched" "I") kk_3_2) (fun _ h9 => h9) rfl dX4_section_83 ?_
      refine lv_bipush (v := 6) hx hb dX4_section_86 (by decide) ?_
      refine lv_icmp_ne (tgt := 100) hx hb dX4_section_88 (by decide) (fun c_88 => ?_) (fun c_88 => ?_)
      · skip
        refine lv_iconst (v := 0) hx hb dX4_section_100 (by decide) ?_
        have hP9 := hP.sub (ws' := [(mh, .inr (4, [.ref m_te, .int m_size, .ref m_re, .int m_len, .int (nI np), .ref m_kn, .ref m_bg, .ref m_en, .ref m_dp, .int (nI no), .ref m_nm, .ref m_sz, .int (nI na), .ref m_aa, .ref m_asz, .int m_elements, .int m_most, .int m_values, .int m_place, .int m_phase, .int m_state, .int (nI t), .int m_begin, .int m_name, .int m_refr, .int m_tag, .int m_tagsz, .int m_quote, .int m_chars, .int m_brackets, .int x_26, .long m_number, .int m_fault]))]) [0] rfl
        have hD9 := hD.sub (ws' := [(mh, .inr (4, [.ref m_te, .int m_size, .ref m_re, .int m_len, .int (nI np), .ref m_kn, .ref m_bg, .ref m_en, .ref m_dp, .int (nI no), .ref m_nm, .ref m_sz, .int (nI na), .ref m_aa, .ref m_asz, .int m_elements, .int m_most, .int m_values, .int m_place, .int m_phase, .int m_state, .int (nI t), .int m_begin, .int m_name, .int m_refr, .int m_tag, .int m_tagsz, .int m_quote, .int m_chars, .int m_brackets, .int x_26, .long m_number, .int m_fault]))]) [0] (by decide) rfl
        exact W.iret (v := 0) hx hb hr (fun t9 ht9 hW => ⟨⟨0, (m_state, m_place, m_fault, x_26), rfl, fun _ => Or.inl (rfl), by rw [ht9]; exact hP9, va_K.moved hW.alike hK, hD9⟩, hS.F ht9⟩) hS.2.2 dX4_section_101
      · skip
        refine lv_aload_n hx hb dX4_section_91 rfl (lv_at hl 1 rfl) ?_
        refine lv_bipush (v := 41) hx hb dX4_section_92 (by decide) ?_
        refine gcall_i (va_runV (As := [.int 41]) (rest := []) ⟨hx, hb, hml, hown, hts⟩ (c_X4_go l D cI V mh m_te m_size m_re m_len m_kn m_bg m_en m_dp m_nm m_sz m_aa m_asz m_elements m_most m_values m_place m_phase m_state m_begin m_name m_refr m_tag m_tagsz m_quote m_chars m_brackets x_26 m_number m_fault np no na t H.size 41) (cwV 1 hts (tb_goodV kk_3_88 kk_3_90 kk_0_24 kk_1_6 kk_3_91) rfl rfl rfl (hdV_X4_go) ⟨Nat.le_of_ble_eq_true rfl, Nat.le_of_ble_eq_true rfl⟩) (gpreV hK hN hV hS hA hP hD [0] rfl rfl (by decide) (va_recv hK hP (ci := 4) (q0 := 0) rfl rfl)) rfl rfl hl.1 rfl (lv_room (Nat.le_of_ble_eq_true rfl)) dX4_section_94 ⟨Nat.le_of_ble_eq_true rfl, Nat.le_of_ble_eq_true rfl⟩) hP hD hS hA [0] [] (wr := []) rfl rfl (by decide) (by decide) (fun r_27 u_28 H locs hw_94 hP hD hS => ?_)
        try dsimp only at hw_94
        have hP : va_P D classes [(mh, .inr (4, [.ref m_te, .int m_size, .ref m_re, .int m_len, .int (nI np), .ref m_kn, .ref m_bg, .ref m_en, .ref m_dp, .int (nI no), .ref m_nm, .ref m_sz, .int (nI na), .ref m_aa, .ref m_asz, .int m_elements, .int m_most, .int m_values, .int m_place, .int m_phase, .int 41, .int (nI t), .int m_begin, .int m_name, .int m_refr, .int m_tag, .int m_tagsz, .int m_quote, .int m_chars, .int m_brackets, .int x_26, .long m_number, .int m_fault]))] H := hP
        have hD : va_D A [(mh, .inr (4, [.ref m_te, .int m_size, .ref m_re, .int m_len, .int (nI np), .ref m_kn, .ref m_bg, .ref m_en, .ref m_dp, .int (nI no), .ref m_nm, .ref m_sz, .int (nI na), .ref m_aa, .ref m_asz, .int m_elements, .int m_most, .int m_values, .int m_place, .int m_phase, .int 41, .int (nI t), .int m_begin, .int m_name, .int m_refr, .int m_tag, .int m_tagsz, .int m_quote, .int m_chars, .int m_brackets, .int x_26, .long m_number, .int m_fault]))] := hD
        refine lv_goto (tgt := 101) hx hb dX4_section_97 (by decide) ?_
        have hP9 := hP.sub (ws' := [(mh, .inr (4, [.ref m_te, .int m_size, .ref m_re, .int m_len, .int (nI np), .ref m_kn, .ref m_bg, .ref m_en, .ref m_dp, .int (nI no), .ref m_nm, .ref m_sz, .int (nI na), .ref m_aa, .ref m_asz, .int m_elements, .int m_most, .int m_values, .int m_place, .int m_phase, .int 41, .int (nI t), .int m_begin, .int m_name, .int m_refr, .int m_tag, .int m_tagsz, .int m_quote, .int m_chars, .int m_brackets, .int x_26, .long m_number, .int m_fault]))]) [0] rfl
        have hD9 := hD.sub (ws' := [(mh, .inr (4, [.ref m_te, .int m_size, .ref m_re, .int m_len, .int (nI np), .ref m_kn, .ref m_bg, .ref m_en, .ref m_dp, .int (nI no), .ref m_nm, .ref m_sz, .int (nI na), .ref m_aa, .ref m_asz, .int m_elements, .int m_most, .int m_values, .int m_place, .int m_phase, .int 41, .int (nI t), .int m_begin, .int m_name, .int m_refr, .int m_tag, .int m_tagsz, .int m_quote, .int m_chars, .int m_brackets, .int x_26, .long m_number, .int m_fault]))]) [0] (by decide) rfl
        exact W.iret (v := r_27) hx hb hr (fun t9 ht9 hW => ⟨⟨r_27, (41, m_place, m_fault, x_26), rfl, fun _ => Or.inr (rfl), by rw [ht9]; exact hP9, va_K.moved hW.alike hK, hD9⟩, hS.F ht9⟩) hS.2.2 dX4_section_101
    · skip
      refine lv_aload_n hx hb dX4_section_67 rfl (lv_at hl 1 rfl) ?_
      refine gcall_i (va_runV (As := []) (rest := []) ⟨hx, hb, hml, hown, hts⟩ (c_X4_wrong_w l D cI V mh m_te m_size m_re m_len m_kn m_bg m_en m_dp m_nm m_sz m_aa m_asz m_elements m_most m_values m_place m_phase m_state m_begin m_name m_refr m_tag m_tagsz m_quote m_chars m_brackets m_matched m_number m_fault np no na t s.heap.size ) (cwV 0 hts (tb_goodV kk_3_92 kk_3_94 kk_0_25 kk_1_6 kk_3_95) rfl rfl rfl (hdV_X4_wrong) ⟨Nat.le_of_ble_eq_true rfl, Nat.le_of_ble_eq_true rfl⟩) (gpreV hK hN hV hS hA hP hD [0] rfl rfl (by decide) (va_recv hK hP (ci := 4) (q0 := 0) rfl rfl)) rfl rfl hl.1 rfl (lv_room (Nat.le_of_ble_eq_true rfl)) dX4_section_68 ⟨Nat.le_of_ble_eq_true rfl, Nat.le_of_ble_eq_true rfl⟩) hP hD hS hA [0] [] (wr := []) rfl rfl (by decide) (by decide) (fun r_29 u_30 H locs hw_68 hP hD hS => ?_)
      try dsimp only at hw_68
      have hP : va_P D classes [(mh, .inr (4, [.ref m_te, .int m_size, .ref m_re, .int m_len, .int (nI np), .ref m_kn, .ref m_bg, .ref m_en, .ref m_dp, .int (nI no), .ref m_nm, .ref m_sz, .int (nI na), .ref m_aa, .ref m_asz, .int m_elements, .int m_most, .int m_values, .int (nI t), .int m_phase, .int m_state, .int (nI t), .int m_begin, .int m_name, .int m_refr, .int m_tag, .int m_tagsz, .int m_quote, .int m_chars, .int m_brackets, .int m_matched, .long m_number, .int 2]))] H := hP
      have hD : va_D A [(mh, .inr (4, [.ref m_te, .int m_size, .ref m_re, .int m_len, .int (nI np), .ref m_kn, .ref m_bg, .ref m_en, .ref m_dp, .int (nI no), .ref m_nm, .ref m_sz, .int (nI na), .ref m_aa, .ref m_asz, .int m_elements, .int m_most, .int m_values, .int (nI t), .int m_phase, .int m_state, .int (nI t), .int m_begin, .int m_name, .int m_refr, .int m_tag, .int m_tagsz, .int m_quote, .int m_chars, .int m_brackets, .int m_matched, .long m_number, .int 2]))] := hD
      have hP9 := hP.sub (ws' := [(mh, .inr (4, [.ref m_te, .int m_size, .ref m_re, .int m_len, .int (nI np), .ref m_kn, .ref m_bg, .ref m_en, .ref m_dp, .int (nI no), .ref m_nm, .ref m_sz, .int (nI na), .ref m_aa, .ref m_asz, .int m_elements, .int m_most, .int m_values, .int (nI t), .int m_phase, .int m_state, .int (nI t), .int m_begin, .int m_name, .int m_refr, .int m_tag, .int m_tagsz, .int m_quote, .int m_chars, .int m_brackets, .int m_matched, .long m_number, .int 2]))]) [0] rfl
      have hD9 := hD.sub (ws' := [(mh, .inr (4, [.ref m_te, .int m_size, .ref m_re, .int m_len, .int (nI np), .ref m_kn, .ref m_bg, .ref m_en, .ref m_dp, .int (nI no), .ref m_nm, .ref m_sz, .int (nI na), .ref m_aa, .ref m_asz, .int m_elements, .int m_most, .int m_values, .int (nI t), .int m_phase, .int m_state, .int (nI t), .int m_begin, .int m_name, .int m_refr, .int m_tag, .int m_tagsz, .int m_quote, .int m_chars, .int m_brackets, .int m_matched, .long m_number, .int 2]))]) [0] (by decide) rfl
      exact W.iret (v := r_29) hx hb hr (fun t9 ht9 hW => ⟨⟨r_29, (m_state, (nI t), 2, m_matched), rfl, fun q => absurd (hw_68.symm.trans q) (by decide), by rw [ht9]; exact hP9, va_K.moved hW.alike hK, hD9⟩, hS.F ht9⟩) hS.2.2 dX4_section_71

set_option maxHeartbeats 4000000 in
set_option maxRecDepth 100000 in
/-- X4_isBarred -/
theorem c_X4_isBarred (l : Launch) (D : va_G) (cI : ClassId) (V : (Nat → Nat) × (Nat → Nat)) (mh : Nat) (m_te : Nat) (m_size : Int32) (m_re : Nat) (m_len : Int32) (m_kn : Nat) (m_bg : Nat) (m_en : Nat) (m_dp : Nat) (m_nm : Nat) (m_sz : Nat) (m_aa : Nat) (m_asz : Nat) (m_elements : Int32) (m_most : Int32) (m_values : Int32) (m_place : Int32) (m_phase : Int32) (m_state : Int32) (m_begin : Int32) (m_refr : Int32) (m_tag : Int32) (m_tagsz : Int32) (m_quote : Int32) (m_chars : Int32) (m_brackets : Int32) (m_matched : Int32) (m_number : Int64) (m_fault : Int32) (np : Nat) (no : Nat) (na : Nat) (t : Nat) (n : Nat) (gr : Nat → Int32) (sz : Nat)  (hn : n ≤ t) (ht : t ≤ 500) : Met l yX4_isBarred (.code yX4_isBarred cX4_isBarred 1 (some .boolean) :: tbW) ({ frames := 0, cells := 0, slots := 0, locals := 0 }) (va_Pc [.ref mh] (gP D cI V [(mh, .inr (4, [.ref m_te, .int m_size, .ref m_re, .int m_len, .int (nI np), .ref m_kn, .ref m_bg, .ref m_en, .ref m_dp, .int (nI no), .ref m_nm, .ref m_sz, .int (nI na), .ref m_aa, .ref m_asz, .int m_elements, .int m_most, .int m_values, .int m_place, .int m_phase, .int m_state, .int (nI t), .int m_begin, .int (nI n), .int m_refr, .int m_tag, .int m_tagsz, .int m_quote, .int m_chars, .int m_brackets, .int m_matched, .long m_number, .int m_fault])), (m_re, .inl (cI, 500, .inl gr))] sz)) (va_Qi (fun (r : Int32) (u : Unit) => r = 0 ∨ r = 1) (fun u => gB D cI (va_A [(mh, .inr (4, [.ref m_te, .int m_size, .ref m_re, .int m_len, .int (nI np), .ref m_kn, .ref m_bg, .ref m_en, .ref m_dp, .int (nI no), .ref m_nm, .ref m_sz, .int (nI na), .ref m_aa, .ref m_asz, .int m_elements, .int m_most, .int m_values, .int m_place, .int m_phase, .int m_state, .int (nI t), .int m_begin, .int (nI n), .int m_refr, .int m_tag, .int m_tagsz, .int m_quote, .int m_chars, .int m_brackets, .int m_matched, .long m_number, .int m_fault])), (m_re, .inl (cI, 500, .inl gr))] sz) [(mh, .inr (4, [.ref m_te, .int m_size, .ref m_re, .int m_len, .int (nI np), .ref m_kn, .ref m_bg, .ref m_en, .ref m_dp, .int (nI no), .ref m_nm, .ref m_sz, .int (nI na), .ref m_aa, .ref m_asz, .int m_elements, .int m_most, .int m_values, .int m_place, .int m_phase, .int m_state, .int (nI t), .int m_begin, .int (nI n), .int m_refr, .int m_tag, .int m_tagsz, .int m_quote, .int m_chars, .int m_brackets, .int m_matched, .long m_number, .int m_fault])), (m_re, .inl (cI, 500, .inl gr))]) (va_A [(mh, .inr (4, [.ref m_te, .int m_size, .ref m_re, .int m_len, .int (nI np), .ref m_kn, .ref m_bg, .ref m_en, .ref m_dp, .int (nI no), .ref m_nm, .ref m_sz, .int (nI na), .ref m_aa, .ref m_asz, .int m_elements, .int m_most, .int m_values, .int m_place, .int m_phase, .int m_state, .int (nI t), .int m_begin, .int (nI n), .int m_refr, .int m_tag, .int m_tagsz, .int m_quote, .int m_chars, .int m_brackets, .int m_matched, .long m_number, .int m_fault])), (m_re, .inl (cI, 500, .inl gr))] sz)) 0 0 (va_A [(mh, .inr (4, [.ref m_te, .int m_size, .ref m_re, .int m_len, .int (nI np), .ref m_kn, .ref m_bg, .ref m_en, .ref m_dp, .int (nI no), .ref m_nm, .ref m_sz, .int (nI na), .ref m_aa, .ref m_asz, .int m_elements, .int m_most, .int m_values, .int m_place, .int m_phase, .int m_state, .int (nI t), .int m_begin, .int (nI n), .int m_refr, .int m_tag, .int m_tagsz, .int m_quote, .int m_chars, .int m_brackets, .int m_matched, .long m_number, .int m_fault])), (m_re, .inl (cI, 500, .inl gr))] sz) := by
  refine Met.ofW (cc := cX4_isBarred) (maxL := 1) (ret := (some .boolean)) (by decide) rfl ?_
  intro p e s m args below meth c s₁ B hml hv
  obtain ⟨rfl, hsz, hP, hK, hD0, hN, hV⟩ := hv
  have hx := B.exec
  have hb := B.bytes
  have hr := B.returns
  have hts := tb_hts (atoms_spec (ws := .code yX4_isBarred cX4_isBarred 1 (some .boolean) :: tbW) B.pre)
  have hown : s.vm.findClass RX4 = some m.cls := findClass_of_methodNamed B.named
  have hlocks := B.notSynchronized
  subst hsz
  have hD := hD0.self (sz := s.heap.size)
  generalize hAe : va_A [(mh, .inr (4, [.ref m_te, .int m_size, .ref m_re, .int m_len, .int (nI np), .ref m_kn, .ref m_bg, .ref m_en, .ref m_dp, .int (nI no), .ref m_nm, .ref m_sz, .int (nI na), .ref m_aa, .ref m_asz, .int m_elements, .int m_most, .int m_values, .int m_place, .int m_phase, .int m_state, .int (nI t), .int m_begin, .int (nI n), .int m_refr, .int m_tag, .int m_tagsz, .int m_quote, .int m_chars, .int m_brackets, .int m_matched, .long m_number, .int m_fault])), (m_re, .inl (cI, 500, .inl gr))] s.heap.size = A at hD hV ⊢
  have hA : ∀ q : Nat, s.heap.size ≤ q → A q := fun q h => by rw [← hAe]; exact Or.inr h
  have hS : va_S A s.heap s.heap [] := va_S.rf
  have hP : va_P D classes [(mh, .inr (4, [.ref m_te, .int m_size, .ref m_re, .int m_len, .int (nI np), .ref m_kn, .ref m_bg, .ref m_en, .ref m_dp, .int (nI no), .ref m_nm, .ref m_sz, .int (nI na), .ref m_aa, .ref m_asz, .int m_elements, .int m_most, .int m_values, .int m_place, .int m_phase, .int m_state, .int (nI t), .int m_begin, .int (nI n), .int m_refr, .int m_tag, .int m_tagsz, .int m_quote, .int m_chars, .int m_brackets, .int m_matched, .long m_number, .int m_fault])), (m_re, .inl (cI, 500, .inl gr))] s.heap := hP
  have hl := lv_entry ([.ref mh]) (n := 1) (Nat.le_of_ble_eq_true rfl)
  rw [lg_entry_eq]
  generalize (lg_sl ([.ref mh]) ++ List.replicate (1 - (lg_sl ([.ref mh])).length) Slot.unset).toArray = ls at hl ⊢
  have hl : lv_has ls 1 [(0, .ref mh)] := hl
  refine lv_aload_n hx hb dX4_isBarred_0 rfl (lv_at hl 0 rfl) ?_
  refine va_get (D := D) (ci := 4) (v := .int (nI t)) (C := RX4) (T := TX4) (N := 33) hx hb hts inX4 hown hK hP 0 rfl rfl 21 (by decide) (hts (Cond.fieldLink "NestedTagsModel" 59 "NestedTagsModel" "at" "I") kk_2_233) (fun _ h9 => h9) rfl dX4_isBarred_1 ?_
  refine lv_aload_n hx hb dX4_isBarred_4 rfl (lv_at hl 0 rfl) ?_
  refine va_get (D := D) (ci := 4) (v := .int (nI n)) (C := RX4) (T := TX4) (N := 33) hx hb hts inX4 hown hK hP 0 rfl rfl 23 (by decide) (hts (Cond.fieldLink "NestedTagsModel" 86 "NestedTagsModel" "name" "I") kk_2_235) (fun _ h9 => h9) rfl dX4_isBarred_5 ?_
  refine lv_isub hx hb dX4_isBarred_8 ?_
  refine lv_topi (fun x_1 ex_1 => ?_)
  have enx_1 : x_1 = (nI (t - n)) := by rw [ex_1]; exact pk_sub hn
  rw [enx_1]
  refine lv_iconst (v := 3) hx hb dX4_isBarred_9 (by decide) ?_
  refine lv_icmp_ne (tgt := 72) hx hb dX4_isBarred_10 (by decide) (fun c_10 => ?_) (fun c_10 => ?_)
  · skip
    refine lv_iconst (v := 0) hx hb dX4_isBarred_72 (by decide) ?_
    have hP9 := hP.sub (ws' := [(mh, .inr (4, [.ref m_te, .int m_size, .ref m_re, .int m_len, .int (nI np), .ref m_kn, .ref m_bg, .ref m_en, .ref m_dp, .int (nI no), .ref m_nm, .ref m_sz, .int (nI na), .ref m_aa, .ref m_asz, .int m_elements, .int m_most, .int m_values, .int m_place, .int m_phase, .int m_state, .int (nI t), .int m_begin, .int (nI n), .int m_refr, .int m_tag, .int m_tagsz, .int m_quote, .int m_chars, .int m_brackets, .int m_matched, .long m_number, .int m_fault])), (m_re, .inl (cI, 500, .inl gr))]) [0, 1] rfl
    have hD9 := hD.sub (ws' := [(mh, .inr (4, [.ref m_te, .int m_size, .ref m_re, .int m_len, .int (nI np), .ref m_kn, .ref m_bg, .ref m_en, .ref m_dp, .int (nI no), .ref m_nm, .ref m_sz, .int (nI na), .ref m_aa, .ref m_asz, .int m_elements, .int m_most, .int m_values, .int m_place, .int m_phase, .int m_state, .int (nI t), .int m_begin, .int (nI n), .int m_refr, .int m_tag, .int m_tagsz, .int m_quote, .int m_chars, .int m_brackets, .int m_matched, .long m_number, .int m_fault])), (m_re, .inl (cI, 500, .inl gr))]) [0, 1] (by decide) rfl
    exact W.zret (v := 0) (ty := .boolean) hx hb hr rfl (fun t9 ht9 hW => ⟨⟨0, (), rfl, Or.inl rfl, by rw [ht9]; exact hP9, va_K.moved hW.alike hK, hD9⟩, hS.F ht9⟩) hS.2.2 dX4_isBarred_73
  · skip
    refine lv_aload_n hx hb dX4_isBarred_13 rfl (lv_at hl 0 rfl) ?_
    refine va_get (D := D) (ci := 4) (v := .ref m_re) (C := RX4) (T := TX4) (N := 33) hx hb hts inX4 hown hK hP 0 rfl rfl 2 (by decide) (hts (Cond.fieldLink "NestedTagsModel" 13 "NestedTagsModel" "read" "[I") kk_2_214) (fun _ h9 => h9) rfl dX4_isBarred_14 ?_
    refine lv_aload_n hx hb dX4_isBarred_17 rfl (lv_at hl 0 rfl) ?_
    refine va_get (D := D) (ci := 4) (v := .int (nI n)) (C := RX4) (T := TX4) (N := 33) hx hb hts inX4 hown hK hP 0 rfl rfl 23 (by decide) (hts (Cond.fieldLink "NestedTagsModel" 86 "NestedTagsModel" "name" "I") kk_2_235) (fun _ h9 => h9) rfl dX4_isBarred_18 ?_
    refine va_iald hx hb hK hP 1 0 rfl rfl (vp_in_nI (by have := b3 hn ht c_10; omega) (by decide)) dX4_isBarred_21 ?_
    refine lv_topi (fun x_2 ex_2 => ?_)
    refine lv_bipush (v := 32) hx hb dX4_isBarred_22 (by decide) ?_
    refine lv_ior hx hb dX4_isBarred_24 ?_
    refine lv_topi (fun x_3 ex_3 => ?_)
    refine lv_bipush (v := 120) hx hb dX4_isBarred_25 (by decide) ?_
    refine lv_icmp_ne (tgt := 72) hx hb dX4_isBarred_27 (by decide) (fun c_27 => ?_) (fun c_27 => ?_)
    · skip
      refine lv_iconst (v := 0) hx hb dX4_isBarred_72 (by decide) ?_
      have hP9 := hP.sub (ws' := [(mh, .inr (4, [.ref m_te, .int m_size, .ref m_re, .int m_len, .int (nI np), .ref m_kn, .ref m_bg, .ref m_en, .ref m_dp, .int (nI no), .ref m_nm, .ref m_sz, .int (nI na), .ref m_aa, .ref m_asz, .int m_elements, .int m_most, .int m_values, .int m_place, .int m_phase, .int m_state, .int (nI t), .int m_begin, .int (nI n), .int m_refr, .int m_tag, .int m_tagsz, .int m_quote, .int m_chars, .int m_brackets, .int m_matched, .long m_number, .int m_fault])), (m_re, .inl (cI, 500, .inl gr))]) [0, 1] rfl
      have hD9 := hD.sub (ws' := [(mh, .inr (4, [.ref m_te, .int m_size, .ref m_re, .int m_len, .int (nI np), .ref m_kn, .ref m_bg, .ref m_en, .ref m_dp, .int (nI no), .ref m_nm, .ref m_sz, .int (nI na), .ref m_aa, .ref m_asz, .int m_elements, .int m_most, .int m_values, .int m_place, .int m_phase, .int m_state, .int (nI t), .int m_begin, .int (nI n), .int m_refr, .int m_tag, .int m_tagsz, .int m_quote, .int m_chars, .int m_brackets, .int m_matched, .long m_number, .int m_fault])), (m_re, .inl (cI, 500, .inl gr))]) [0, 1] (by decide) rfl
      exact W.zret (v := 0) (ty := .boolean) hx hb hr rfl (fun t9 ht9 hW => ⟨⟨0, (), rfl, Or.inl rfl, by rw [ht9]; exact hP9, va_K.moved hW.alike hK, hD9⟩, hS.F ht9⟩) hS.2.2 dX4_isBarred_73
    · skip
      refine lv_aload_n hx hb dX4_isBarred_30 rfl (lv_at hl 0 rfl) ?_
      refine va_get (D := D) (ci := 4) (v := .ref m_re) (C := RX4) (T := TX4) (N := 33) hx hb hts inX4 hown hK hP 0 rfl rfl 2 (by decide) (hts (Cond.fieldLink "NestedTagsModel" 13 "NestedTagsModel" "read" "[I") kk_2_214) (fun _ h9 => h9) rfl dX4_isBarred_31 ?_
      refine lv_aload_n hx hb dX4_isBarred_34 rfl (lv_at hl 0 rfl) ?_
      refine va_get (D := D) (ci := 4) (v := .int (nI n)) (C := RX4) (T := TX4) (N := 33) hx hb hts inX4 hown hK hP 0 rfl rfl 23 (by decide) (hts (Cond.fieldLink "NestedTagsModel" 86 "NestedTagsModel" "name" "I") kk_2_235) (fun _ h9 => h9) rfl dX4_isBarred_35 ?_
      refine lv_iconst (v := 1) hx hb dX4_isBarred_38 (by decide) ?_
      refine lv_iadd hx hb dX4_isBarred_39 ?_
      refine lv_topi (fun x_4 ex_4 => ?_)
      have enx_4 : x_4 = (nI (n + 1)) := by rw [ex_4]; exact nI_1 n
      rw [enx_4]
      refine va_iald hx hb hK hP 1 0 rfl rfl (vp_in_nI (by have := b3 hn ht c_10; omega) (by decide)) dX4_isBarred_40 ?_
      refine lv_topi (fun x_5 ex_5 => ?_)
      refine lv_bipush (v := 32) hx hb dX4_isBarred_41 (by decide) ?_
      refine lv_ior hx hb dX4_isBarred_43 ?_
      refine lv_topi (fun x_6 ex_6 => ?_)
      refine lv_bipush (v := 109) hx hb dX4_isBarred_44 (by decide) ?_
      refine lv_icmp_ne (tgt := 72) hx hb dX4_isBarred_46 (by decide) (fun c_46 => ?_) (fun c_46 => ?_)
      · skip
        refine lv_iconst (v := 0) hx hb dX4_isBarred_72 (by decide) ?_
        have hP9 := hP.sub (ws' := [(mh, .inr (4, [.ref m_te, .int m_size, .ref m_re, .int m_len, .int (nI np), .ref m_kn, .ref m_bg, .ref m_en, .ref m_dp, .int (nI no), .ref m_nm, .ref m_sz, .int (nI na), .ref m_aa, .ref m_asz, .int m_elements, .int m_most, .int m_values, .int m_place, .int m_phase, .int m_state, .int (nI t), .int m_begin, .int (nI n), .int m_refr, .int m_tag, .int m_tagsz, .int m_quote, .int m_chars, .int m_brackets, .int m_matched, .long m_number, .int m_fault])), (m_re, .inl (cI, 500, .inl gr))]) [0, 1] rfl
        have hD9 := hD.sub (ws' := [(mh, .inr (4, [.ref m_te, .int m_size, .ref m_re, .int m_len, .int (nI np), .ref m_kn, .ref m_bg, .ref m_en, .ref m_dp, .int (nI no), .ref m_nm, .ref m_sz, .int (nI na), .ref m_aa, .ref m_asz, .int m_elements, .int m_most, .int m_values, .int m_place, .int m_phase, .int m_state, .int (nI t), .int m_begin, .int (nI n), .int m_refr, .int m_tag, .int m_tagsz, .int m_quote, .int m_chars, .int m_brackets, .int m_matched, .long m_number, .int m_fault])), (m_re, .inl (cI, 500, .inl gr))]) [0, 1] (by decide) rfl
        exact W.zret (v := 0) (ty := .boolean) hx hb hr rfl (fun t9 ht9 hW => ⟨⟨0, (), rfl, Or.inl rfl, by rw [ht9]; exact hP9, va_K.moved hW.alike hK, hD9⟩, hS.F ht9⟩) hS.2.2 dX4_isBarred_73
      · skip
        refine lv_aload_n hx hb dX4_isBarred_49 rfl (lv_at hl 0 rfl) ?_
        refine va_get (D := D) (ci := 4) (v := .ref m_re) (C := RX4) (T := TX4) (N := 33) hx hb hts inX4 hown hK hP 0 rfl rfl 2 (by decide) (hts (Cond.fieldLink "NestedTagsModel" 13 "NestedTagsModel" "read" "[I") kk_2_214) (fun _ h9 => h9) rfl dX4_isBarred_50 ?_
        refine lv_aload_n hx hb dX4_isBarred_53 rfl (lv_at hl 0 rfl) ?_
        refine va_get (D := D) (ci := 4) (v := .int (nI n)) (C := RX4) (T := TX4) (N := 33) hx hb hts inX4 hown hK hP 0 rfl rfl 23 (by decide) (hts (Cond.fieldLink "NestedTagsModel" 86 "NestedTagsModel" "name" "I") kk_2_235) (fun _ h9 => h9) rfl dX4_isBarred_54 ?_
        refine lv_iconst (v := 2) hx hb dX4_isBarred_57 (by decide) ?_
        refine lv_iadd hx hb dX4_isBarred_58 ?_
        refine lv_topi (fun x_7 ex_7 => ?_)
        have enx_7 : x_7 = (nI (n + 2)) := by rw [ex_7]; exact nI_add n 2
        rw [enx_7]
        refine va_iald hx hb hK hP 1 0 rfl rfl (vp_in_nI (by have := b3 hn ht c_10; omega) (by decide)) dX4_isBarred_59 ?_
        refine lv_topi (fun x_8 ex_8 => ?_)
        refine lv_bipush (v := 32) hx hb dX4_isBarred_60 (by decide) ?_
        refine lv_ior hx hb dX4_isBarred_62 ?_
        refine lv_topi (fun x_9 ex_9 => ?_)
        refine lv_bipush (v := 108) hx hb dX4_isBarred_63 (by decide) ?_
        refine lv_icmp_ne (tgt := 72) hx hb dX4_isBarred_65 (by decide) (fun c_65 => ?_) (fun c_65 => ?_)
        · skip
          refine lv_iconst (v := 0) hx hb dX4_isBarred_72 (by decide) ?_
          have hP9 := hP.sub (ws' := [(mh, .inr (4, [.ref m_te, .int m_size, .ref m_re, .int m_len, .int (nI np), .ref m_kn, .ref m_bg, .ref m_en, .ref m_dp, .int (nI no), .ref m_nm, .ref m_sz, .int (nI na), .ref m_aa, .ref m_asz, .int m_elements, .int m_most, .int m_values, .int m_place, .int m_phase, .int m_state, .int (nI t), .int m_begin, .int (nI n), .int m_refr, .int m_tag, .int m_tagsz, .int m_quote, .int m_chars, .int m_brackets, .int m_matched, .long m_number, .int m_fault])), (m_re, .inl (cI, 500, .inl gr))]) [0, 1] rfl
          have hD9 := hD.sub (ws' := [(mh, .inr (4, [.ref m_te, .int m_size, .ref m_re, .int m_len, .int (nI np), .ref m_kn, .ref m_bg, .ref m_en, .ref m_dp, .int (nI no), .ref m_nm, .ref m_sz, .int (nI na), .ref m_aa, .ref m_asz, .int m_elements, .int m_most, .int m_values, .int m_place, .int m_phase, .int m_state, .int (nI t), .int m_begin, .int (nI n), .int m_refr, .int m_tag, .int m_tagsz, .int m_quote, .int m_chars, .int m_brackets, .int m_matched, .long m_number, .int m_fault])), (m_re, .inl (cI, 500, .inl gr))]) [0, 1] (by decide) rfl
          exact W.zret (v := 0) (ty := .boolean) hx hb hr rfl (fun t9 ht9 hW => ⟨⟨0, (), rfl, Or.inl rfl, by rw [ht9]; exact hP9, va_K.moved hW.alike hK, hD9⟩, hS.F ht9⟩) hS.2.2 dX4_isBarred_73
        · skip
          refine lv_iconst (v := 1) hx hb dX4_isBarred_68 (by decide) ?_
          refine lv_goto (tgt := 73) hx hb dX4_isBarred_69 (by decide) ?_
          have hP9 := hP.sub (ws' := [(mh, .inr (4, [.ref m_te, .int m_size, .ref m_re, .int m_len, .int (nI np), .ref m_kn, .ref m_bg, .ref m_en, .ref m_dp, .int (nI no), .ref m_nm, .ref m_sz, .int (nI na), .ref m_aa, .ref m_asz, .int m_elements, .int m_most, .int m_values, .int m_place, .int m_phase, .int m_state, .int (nI t), .int m_begin, .int (nI n), .int m_refr, .int m_tag, .int m_tagsz, .int m_quote, .int m_chars, .int m_brackets, .int m_matched, .long m_number, .int m_fault])), (m_re, .inl (cI, 500, .inl gr))]) [0, 1] rfl
          have hD9 := hD.sub (ws' := [(mh, .inr (4, [.ref m_te, .int m_size, .ref m_re, .int m_len, .int (nI np), .ref m_kn, .ref m_bg, .ref m_en, .ref m_dp, .int (nI no), .ref m_nm, .ref m_sz, .int (nI na), .ref m_aa, .ref m_asz, .int m_elements, .int m_most, .int m_values, .int m_place, .int m_phase, .int m_state, .int (nI t), .int m_begin, .int (nI n), .int m_refr, .int m_tag, .int m_tagsz, .int m_quote, .int m_chars, .int m_brackets, .int m_matched, .long m_number, .int m_fault])), (m_re, .inl (cI, 500, .inl gr))]) [0, 1] (by decide) rfl
          exact W.zret (v := 1) (ty := .boolean) hx hb hr rfl (fun t9 ht9 hW => ⟨⟨1, (), rfl, Or.inr rfl, by rw [ht9]; exact hP9, va_K.moved hW.alike hK, hD9⟩, hS.F ht9⟩) hS.2.2 dX4_isBarred_73

set_option maxHeartbeats 4000000 in
set_option maxRecDepth 100000 in
/-- X4_is -/
theorem c_X4_is (l : Launch) (D : va_G) (cI : ClassId) (V : (Nat → Nat) × (Nat → Nat)) (mh : Nat) (m_te : Nat) (m_size : Int32) (m_re : Nat) (m_len : Int32) (m_kn : Nat) (m_bg : Nat) (m_en : Nat) (m_dp : Nat) (m_nm : Nat) (m_sz : Nat) (m_aa : Nat) (m_asz : Nat) (m_elements : Int32) (m_most : Int32) (m_values : Int32) (m_place : Int32) (m_phase : Int32) (m_state : Int32) (m_begin : Int32) (m_refr : Int32) (m_tag : Int32) (m_tagsz : Int32) (m_quote : Int32) (m_chars : Int32) (m_brackets : Int32) (m_matched : Int32) (m_number : Int64) (m_fault : Int32) (np : Nat) (no : Nat) (na : Nat) (t : Nat) (n : Nat) (gr : Nat → Int32) (sz : Nat) (p1 : Int64) (hn : n ≤ t) (ht : t ≤ 500) : Met l yX4_is (.code yX4_is cX4_is 6 (some .boolean) :: tbW) ({ frames := 0, cells := 0, slots := 0, locals := 0 }) (va_Pc [.ref mh, .long p1] (gP D cI V [(mh, .inr (4, [.ref m_te, .int m_size, .ref m_re, .int m_len, .int (nI np), .ref m_kn, .ref m_bg, .ref m_en, .ref m_dp, .int (nI no), .ref m_nm, .ref m_sz, .int (nI na), .ref m_aa, .ref m_asz, .int m_elements, .int m_most, .int m_values, .int m_place, .int m_phase, .int m_state, .int (nI t), .int m_begin, .int (nI n), .int m_refr, .int m_tag, .int m_tagsz, .int m_quote, .int m_chars, .int m_brackets, .int m_matched, .long m_number, .int m_fault])), (m_re, .inl (cI, 500, .inl gr))] sz)) (va_Qi (fun (r : Int32) (u : Unit) => r = 0 ∨ r = 1) (fun u => gB D cI (va_A [(mh, .inr (4, [.ref m_te, .int m_size, .ref m_re, .int m_len, .int (nI np), .ref m_kn, .ref m_bg, .ref m_en, .ref m_dp, .int (nI no), .ref m_nm, .ref m_sz, .int (nI na), .ref m_aa, .ref m_asz, .int m_elements, .int m_most, .int m_values, .int m_place, .int m_phase, .int m_state, .int (nI t), .int m_begin, .int (nI n), .int m_refr, .int m_tag, .int m_tagsz, .int m_quote, .int m_chars, .int m_brackets, .int m_matched, .long m_number, .int m_fault])), (m_re, .inl (cI, 500, .inl gr))] sz) [(mh, .inr (4, [.ref m_te, .int m_size, .ref m_re, .int m_len, .int (nI np), .ref m_kn, .ref m_bg, .ref m_en, .ref m_dp, .int (nI no), .ref m_nm, .ref m_sz, .int (nI na), .ref m_aa, .ref m_asz, .int m_elements, .int m_most, .int m_values, .int m_place, .int m_phase, .int m_state, .int (nI t), .int m_begin, .int (nI n), .int m_refr, .int m_tag, .int m_tagsz, .int m_quote, .int m_chars, .int m_brackets, .int m_matched, .long m_number, .int m_fault])), (m_re, .inl (cI, 500, .inl gr))]) (va_A [(mh, .inr (4, [.ref m_te, .int m_size, .ref m_re, .int m_len, .int (nI np), .ref m_kn, .ref m_bg, .ref m_en, .ref m_dp, .int (nI no), .ref m_nm, .ref m_sz, .int (nI na), .ref m_aa, .ref m_asz, .int m_elements, .int m_most, .int m_values, .int m_place, .int m_phase, .int m_state, .int (nI t), .int m_begin, .int (nI n), .int m_refr, .int m_tag, .int m_tagsz, .int m_quote, .int m_chars, .int m_brackets, .int m_matched, .long m_number, .int m_fault])), (m_re, .inl (cI, 500, .inl gr))] sz)) 0 0 (va_A [(mh, .inr (4, [.ref m_te, .int m_size, .ref m_re, .int m_len, .int (nI np), .ref m_kn, .ref m_bg, .ref m_en, .ref m_dp, .int (nI no), .ref m_nm, .ref m_sz, .int (nI na), .ref m_aa, .ref m_asz, .int m_elements, .int m_most, .int m_values, .int m_place, .int m_phase, .int m_state, .int (nI t), .int m_begin, .int (nI n), .int m_refr, .int m_tag, .int m_tagsz, .int m_quote, .int m_chars, .int m_brackets, .int m_matched, .long m_number, .int m_fault])), (m_re, .inl (cI, 500, .inl gr))] sz) := by
  refine Met.ofW (cc := cX4_is) (maxL := 6) (ret := (some .boolean)) (by decide) rfl ?_
  intro p e s m args below meth c s₁ B hml hv
  obtain ⟨rfl, hsz, hP, hK, hD0, hN, hV⟩ := hv
  have hx := B.exec
  have hb := B.bytes
  have hr := B.returns
  have hts := tb_hts (atoms_spec (ws := .code yX4_is cX4_is 6 (some .boolean) :: tbW) B.pre)
  have hown : s.vm.findClass RX4 = some m.cls := findClass_of_methodNamed B.named
  have hlocks := B.notSynchronized
  subst hsz
  have hD := hD0.self (sz := s.heap.size)
  generalize hAe : va_A [(mh, .inr (4, [.ref m_te, .int m_size, .ref m_re, .int m_len, .int (nI np), .ref m_kn, .ref m_bg, .ref m_en, .ref m_dp, .int (nI no), .ref m_nm, .ref m_sz, .int (nI na), .ref m_aa, .ref m_asz, .int m_elements, .int m_most, .int m_values, .int m_place, .int m_phase, .int m_state, .int (nI t), .int m_begin, .int (nI n), .int m_refr, .int m_tag, .int m_tagsz, .int m_quote, .int m_chars, .int m_brackets, .int m_matched, .long m_number, .int m_fault])), (m_re, .inl (cI, 500, .inl gr))] s.heap.size = A at hD hV ⊢
  have hA : ∀ q : Nat, s.heap.size ≤ q → A q := fun q h => by rw [← hAe]; exact Or.inr h
  have hS : va_S A s.heap s.heap [] := va_S.rf
  have hP : va_P D classes [(mh, .inr (4, [.ref m_te, .int m_size, .ref m_re, .int m_len, .int (nI np), .ref m_kn, .ref m_bg, .ref m_en, .ref m_dp, .int (nI no), .ref m_nm, .ref m_sz, .int (nI na), .ref m_aa, .ref m_asz, .int m_elements, .int m_most, .int m_values, .int m_place, .int m_phase, .int m_state, .int (nI t), .int m_begin, .int (nI n), .int m_refr, .int m_tag, .int m_tagsz, .int m_quote, .int m_chars, .int m_brackets, .int m_matched, .long m_number, .int m_fault])), (m_re, .inl (cI, 500, .inl gr))] s.heap := hP
  have hl := lv_entry ([.ref mh, .long p1]) (n := 6) (Nat.le_of_ble_eq_true rfl)
  rw [lg_entry_eq]
  generalize (lg_sl ([.ref mh, .long p1]) ++ List.replicate (6 - (lg_sl ([.ref mh, .long p1])).length) Slot.unset).toArray = ls at hl ⊢
  have hl : lv_has ls 6 [(0, .ref mh), (1, .long p1)] := hl
  generalize hQ : MQ below (va_Qi (fun (r : Int32) (u : Unit) => r = 0 ∨ r = 1) (fun u => gB D cI A [(mh, .inr (4, [.ref m_te, .int m_size, .ref m_re, .int m_len, .int (nI np), .ref m_kn, .ref m_bg, .ref m_en, .ref m_dp, .int (nI no), .ref m_nm, .ref m_sz, .int (nI na), .ref m_aa, .ref m_asz, .int m_elements, .int m_most, .int m_values, .int m_place, .int m_phase, .int m_state, .int (nI t), .int m_begin, .int (nI n), .int m_refr, .int m_tag, .int m_tagsz, .int m_quote, .int m_chars, .int m_brackets, .int m_matched, .long m_number, .int m_fault])), (m_re, .inl (cI, 500, .inl gr))]) A) (([.ref mh, .long p1] : List Value).toArray) s 0 0 A = Q
  refine lv_lconst (v := 0) hx hb dX4_is_0 (by decide) ?_
  refine lv_lstore_n (lv' := [(3, .long 0), (0, .ref mh), (1, .long p1)]) hx hb dX4_is_1 rfl hl (by decide) rfl (fun ls hl => ?_)
  refine lv_aload_n hx hb dX4_is_2 rfl (lv_at hl 1 rfl) ?_
  refine va_get (D := D) (ci := 4) (v := .int (nI n)) (C := RX4) (T := TX4) (N := 33) hx hb hts inX4 hown hK hP 0 rfl rfl 23 (by decide) (hts (Cond.fieldLink "NestedTagsModel" 86 "NestedTagsModel" "name" "I") kk_2_235) (fun _ h9 => h9) rfl dX4_is_3 ?_
  refine lv_istore (lv' := [(5, .int (nI n)), (3, .long 0), (0, .ref mh), (1, .long p1)]) hx hb dX4_is_6 hl (by decide) rfl (fun ls hl => ?_)
  have loop_8 : ∀ (fu : Nat) (i : Nat) (v_l : Int64) (H : Heap) (locs : List Loc), t - i < fu → (n ≤ i ∧ i ≤ t) → va_P D classes [(mh, .inr (4, [.ref m_te, .int m_size, .ref m_re, .int m_len, .int (nI np), .ref m_kn, .ref m_bg, .ref m_en, .ref m_dp, .int (nI no), .ref m_nm, .ref m_sz, .int (nI na), .ref m_aa, .ref m_asz, .int m_elements, .int m_most, .int m_values, .int m_place, .int m_phase, .int m_state, .int (nI t), .int m_begin, .int (nI n), .int m_refr, .int m_tag, .int m_tagsz, .int m_quote, .int m_chars, .int m_brackets, .int m_matched, .long m_number, .int m_fault])), (m_re, .inl (cI, 500, .inl gr))] H → va_D A [(mh, .inr (4, [.ref m_te, .int m_size, .ref m_re, .int m_len, .int (nI np), .ref m_kn, .ref m_bg, .ref m_en, .ref m_dp, .int (nI no), .ref m_nm, .ref m_sz, .int (nI na), .ref m_aa, .ref m_asz, .int m_elements, .int m_most, .int m_values, .int m_place, .int m_phase, .int m_state, .int (nI t), .int m_begin, .int (nI n), .int m_refr, .int m_tag, .int m_tagsz, .int m_quote, .int m_chars, .int m_brackets, .int m_matched, .long m_number, .int m_fault])), (m_re, .inl (cI, 500, .inl gr))] → va_S A s.heap H locs → ∀ (ls : Array Slot), lv_has ls 6 [(5, .int (nI i)), (3, .long v_l), (0, .ref mh), (1, .long p1)] → W p l e (headSpec (.code yX4_is cX4_is 6 (some .boolean) :: tbW) { frames := 0, cells := 0, slots := 0, locals := 0 }).room s m (([.ref mh, .long p1] : List Value).toArray) below meth c H locs 0 0 Q (F0 m 8 ls []) := by
    intro fu
    induction fu with
    | zero =>
      intro i v_l H locs hm
      exact absurd hm (Nat.not_lt_zero _)
    | succ fu ih_8 =>
      intro i v_l H locs hm_8 hi hP hD hS ls hl
      refine lv_iload hx hb dX4_is_8 (lv_at hl 0 rfl) ?_
      refine lv_aload_n hx hb dX4_is_10 rfl (lv_at hl 2 rfl) ?_
      refine va_get (D := D) (ci := 4) (v := .int (nI t)) (C := RX4) (T := TX4) (N := 33) hx hb hts inX4 hown hK hP 0 rfl rfl 21 (by decide) (hts (Cond.fieldLink "NestedTagsModel" 59 "NestedTagsModel" "at" "I") kk_2_233) (fun _ h9 => h9) rfl dX4_is_11 ?_
      refine lv_icmp_ge (tgt := 49) hx hb dX4_is_14 (by decide) (fun c_14 => ?_) (fun c_14 => ?_)
      · skip
        refine lv_aload_n hx hb dX4_is_49 rfl (lv_at hl 2 rfl) ?_
        refine va_get (D := D) (ci := 4) (v := .int (nI t)) (C := RX4) (T := TX4) (N := 33) hx hb hts inX4 hown hK hP 0 rfl rfl 21 (by decide) (hts (Cond.fieldLink "NestedTagsModel" 59 "NestedTagsModel" "at" "I") kk_2_233) (fun _ h9 => h9) rfl dX4_is_50 ?_
        refine lv_aload_n hx hb dX4_is_53 rfl (lv_at hl 2 rfl) ?_
        refine va_get (D := D) (ci := 4) (v := .int (nI n)) (C := RX4) (T := TX4) (N := 33) hx hb hts inX4 hown hK hP 0 rfl rfl 23 (by decide) (hts (Cond.fieldLink "NestedTagsModel" 86 "NestedTagsModel" "name" "I") kk_2_235) (fun _ h9 => h9) rfl dX4_is_54 ?_
        refine lv_isub hx hb dX4_is_57 ?_
        refine lv_topi (fun x_1 ex_1 => ?_)
        refine lv_bipush (v := 8) hx hb dX4_is_58 (by decide) ?_
        refine lv_icmp_ge (tgt := 73) hx hb dX4_is_60 (by decide) (fun c_60 => ?_) (fun c_60 => ?_)
        · skip
          refine lv_iconst (v := 0) hx hb dX4_is_73 (by decide) ?_
          have hP9 := hP.sub (ws' := [(mh, .inr (4, [.ref m_te, .int m_size, .ref m_re, .int m_len, .int (nI np), .ref m_kn, .ref m_bg, .ref m_en, .ref m_dp, .int (nI no), .ref m_nm, .ref m_sz, .int (nI na), .ref m_aa, .ref m_asz, .int m_elements, .int m_most, .int m_values, .int m_place, .int m_phase, .int m_state, .int (nI t), .int m_begin, .int (nI n), .int m_refr, .int m_tag, .int m_tagsz, .int m_quote, .int m_chars, .int m_brackets, .int m_matched, .long m_number, .int m_fault])), (m_re, .inl (cI, 500, .inl gr))]) [0, 1] rfl
          have hD9 := hD.sub (ws' := [(mh, .inr (4, [.ref m_te, .int m_size, .ref m_re, .int m_len, .int (nI np), .ref m_kn, .ref m_bg, .ref m_en, .ref m_dp, .int (nI no), .ref m_nm, .ref m_sz, .int (nI na), .ref m_aa, .ref m_asz, .int m_elements, .int m_most, .int m_values, .int m_place, .int m_phase, .int m_state, .int (nI t), .int m_begin, .int (nI n), .int m_refr, .int m_tag, .int m_tagsz, .int m_quote, .int m_chars, .int m_brackets, .int m_matched, .long m_number, .int m_fault])), (m_re, .inl (cI, 500, .inl gr))]) [0, 1] (by decide) rfl
          rw [← hQ]
          exact W.zret (v := 0) (ty := .boolean) hx hb hr rfl (fun t9 ht9 hW => ⟨⟨0, (), rfl, Or.inl rfl, by rw [ht9]; exact hP9, va_K.moved hW.alike hK, hD9⟩, hS.F ht9⟩) hS.2.2 dX4_is_74
        · skip
          refine lv_lload_n hx hb dX4_is_63 rfl (lv_at hl 1 rfl) ?_
          refine lv_lload_n hx hb dX4_is_64 rfl (lv_at hl 3 rfl) ?_
          refine W.lcmp hx hb dX4_is_65 ?_
          refine lv_topi (fun x_2 ex_2 => ?_)
          refine lv_if_ne (tgt := 73) hx hb dX4_is_66 (by decide) (fun c_66 => ?_) (fun c_66 => ?_)
          · skip
            refine lv_iconst (v := 0) hx hb dX4_is_73 (by decide) ?_
            have hP9 := hP.sub (ws' := [(mh, .inr (4, [.ref m_te, .int m_size, .ref m_re, .int m_len, .int (nI np), .ref m_kn, .ref m_bg, .ref m_en, .ref m_dp, .int (nI no), .ref m_nm, .ref m_sz, .int (nI na), .ref m_aa, .ref m_asz, .int m_elements, .int m_most, .int m_values, .int m_place, .int m_phase, .int m_state, .int (nI t), .int m_begin, .int (nI n), .int m_refr, .int m_tag, .int m_tagsz, .int m_quote, .int m_chars, .int m_brackets, .int m_matched, .long m_number, .int m_fault])), (m_re, .inl (cI, 500, .inl gr))]) [0, 1] rfl
            have hD9 := hD.sub (ws' := [(mh, .inr (4, [.ref m_te, .int m_size, .ref m_re, .int m_len, .int (nI np), .ref m_kn, .ref m_bg, .ref m_en, .ref m_dp, .int (nI no), .ref m_nm, .ref m_sz, .int (nI na), .ref m_aa, .ref m_asz, .int m_elements, .int m_most, .int m_values, .int m_place, .int m_phase, .int m_state, .int (nI t), .int m_begin, .int (nI n), .int m_refr, .int m_tag, .int m_tagsz, .int m_quote, .int m_chars, .int m_brackets, .int m_matched, .long m_number, .int m_fault])), (m_re, .inl (cI, 500, .inl gr))]) [0, 1] (by decide) rfl
            rw [← hQ]
            exact W.zret (v := 0) (ty := .boolean) hx hb hr rfl (fun t9 ht9 hW => ⟨⟨0, (), rfl, Or.inl rfl, by rw [ht9]; exact hP9, va_K.moved hW.alike hK, hD9⟩, hS.F ht9⟩) hS.2.2 dX4_is_74
          · skip
            refine lv_iconst (v := 1) hx hb dX4_is_69 (by decide) ?_
            refine lv_goto (tgt := 74) hx hb dX4_is_70 (by decide) ?_
            have hP9 := hP.sub (ws' := [(mh, .inr (4, [.ref m_te, .int m_size, .ref m_re, .int m_len, .int (nI np), .ref m_kn, .ref m_bg, .ref m_en, .ref m_dp, .int (nI no), .ref m_nm, .ref m_sz, .int (nI na), .ref m_aa, .ref m_asz, .int m_elements, .int m_most, .int m_values, .int m_place, .int m_phase, .int m_state, .int (nI t), .int m_begin, .int (nI n), .int m_refr, .int m_tag, .int m_tagsz, .int m_quote, .int m_chars, .int m_brackets, .int m_matched, .long m_number, .int m_fault])), (m_re, .inl (cI, 500, .inl gr))]) [0, 1] rfl
            have hD9 := hD.sub (ws' := [(mh, .inr (4, [.ref m_te, .int m_size, .ref m_re, .int m_len, .int (nI np), .ref m_kn, .ref m_bg, .ref m_en, .ref m_dp, .int (nI no), .ref m_nm, .ref m_sz, .int (nI na), .ref m_aa, .ref m_asz, .int m_elements, .int m_most, .int m_values, .int m_place, .int m_phase, .int m_state, .int (nI t), .int m_begin, .int (nI n), .int m_refr, .int m_tag, .int m_tagsz, .int m_quote, .int m_chars, .int m_brackets, .int m_matched, .long m_number, .int m_fault])), (m_re, .inl (cI, 500, .inl gr))]) [0, 1] (by decide) rfl
            rw [← hQ]
            exact W.zret (v := 1) (ty := .boolean) hx hb hr rfl (fun t9 ht9 hW => ⟨⟨1, (), rfl, Or.inr rfl, by rw [ht9]; exact hP9, va_K.moved hW.alike hK, hD9⟩, hS.F ht9⟩) hS.2.2 dX4_is_74
      · skip
        refine lv_iload hx hb dX4_is_17 (lv_at hl 0 rfl) ?_
        refine lv_aload_n hx hb dX4_is_19 rfl (lv_at hl 2 rfl) ?_
        refine va_get (D := D) (ci := 4) (v := .int (nI n)) (C := RX4) (T := TX4) (N := 33) hx hb hts inX4 hown hK hP 0 rfl rfl 23 (by decide) (hts (Cond.fieldLink "NestedTagsModel" 86 "NestedTagsModel" "name" "I") kk_2_235) (fun _ h9 => h9) rfl dX4_is_20 ?_
        refine lv_bipush (v := 8) hx hb dX4_is_23 (by decide) ?_
        refine lv_iadd hx hb dX4_is_25 ?_
        refine lv_topi (fun x_3 ex_3 => ?_)
        refine lv_icmp_ge (tgt := 49) hx hb dX4_is_26 (by decide) (fun c_26 => ?_) (fun c_26 => ?_)
        · skip
          refine lv_aload_n hx hb dX4_is_49 rfl (lv_at hl 2 rfl) ?_
          refine va_get (D := D) (ci := 4) (v := .int (nI t)) (C := RX4) (T := TX4) (N := 33) hx hb hts inX4 hown hK hP 0 rfl rfl 21 (by decide) (hts (Cond.fieldLink "NestedTagsModel" 59 "NestedTagsModel" "at" "I") kk_2_233) (fun _ h9 => h9) rfl dX4_is_50 ?_
          refine lv_aload_n hx hb dX4_is_53 rfl (lv_at hl 2 rfl) ?_
          refine va_get (D := D) (ci := 4) (v := .int (nI n)) (C := RX4) (T := TX4) (N := 33) hx hb hts inX4 hown hK hP 0 rfl rfl 23 (by decide) (hts (Cond.fieldLink "NestedTagsModel" 86 "NestedTagsModel" "name" "I") kk_2_235) (fun _ h9 => h9) rfl dX4_is_54 ?_
          refine lv_isub hx hb dX4_is_57 ?_
          refine lv_topi (fun x_4 ex_4 => ?_)
          refine lv_bipush (v := 8) hx hb dX4_is_58 (by decide) ?_
          refine lv_icmp_ge (tgt := 73) hx hb dX4_is_60 (by decide) (fun c_60 => ?_) (fun c_60 => ?_)
          · skip
            refine lv_iconst (v := 0) hx hb dX4_is_73 (by decide) ?_
            have hP9 := hP.sub (ws' := [(mh, .inr (4, [.ref m_te, .int m_size, .ref m_re, .int m_len, .int (nI np), .ref m_kn, .ref m_bg, .ref m_en, .ref m_dp, .int (nI no), .ref m_nm, .ref m_sz, .int (nI na), .ref m_aa, .ref m_asz, .int m_elements, .int m_most, .int m_values, .int m_place, .int m_phase, .int m_state, .int (nI t), .int m_begin, .int (nI n), .int m_refr, .int m_tag, .int m_tagsz, .int m_quote, .int m_chars, .int m_brackets, .int m_matched, .long m_number, .int m_fault])), (m_re, .inl (cI, 500, .inl gr))]) [0, 1] rfl
            have hD9 := hD.sub (ws' := [(mh, .inr (4, [.ref m_te, .int m_size, .ref m_re, .int m_len, .int (nI np), .ref m_kn, .ref m_bg, .ref m_en, .ref m_dp, .int (nI no), .ref m_nm, .ref m_sz, .int (nI na), .ref m_aa, .ref m_asz, .int m_elements, .int m_most, .int m_values, .int m_place, .int m_phase, .int m_state, .int (nI t), .int m_begin, .int (nI n), .int m_refr, .int m_tag, .int m_tagsz, .int m_quote, .int m_chars, .int m_brackets, .int m_matched, .long m_number, .int m_fault])), (m_re, .inl (cI, 500, .inl gr))]) [0, 1] (by decide) rfl
            rw [← hQ]
            exact W.zret (v := 0) (ty := .boolean) hx hb hr rfl (fun t9 ht9 hW => ⟨⟨0, (), rfl, Or.inl rfl, by rw [ht9]; exact hP9, va_K.moved hW.alike hK, hD9⟩, hS.F ht9⟩) hS.2.2 dX4_is_74
          · skip
            refine lv_lload_n hx hb dX4_is_63 rfl (lv_at hl 1 rfl) ?_
            refine lv_lload_n hx hb dX4_is_64 rfl (lv_at hl 3 rfl) ?_
            refine W.lcmp hx hb dX4_is_65 ?_
            refine lv_topi (fun x_5 ex_5 => ?_)
            refine lv_if_ne (tgt := 73) hx hb dX4_is_66 (by decide) (fun c_66 => ?_) (fun c_66 => ?_)
            · skip
              refine lv_iconst (v := 0) hx hb dX4_is_73 (by decide) ?_
              have hP9 := hP.sub (ws' := [(mh, .inr (4, [.ref m_te, .int m_size, .ref m_re, .int m_len, .int (nI np), .ref m_kn, .ref m_bg, .ref m_en, .ref m_dp, .int (nI no), .ref m_nm, .ref m_sz, .int (nI na), .ref m_aa, .ref m_asz, .int m_elements, .int m_most, .int m_values, .int m_place, .int m_phase, .int m_state, .int (nI t), .int m_begin, .int (nI n), .int m_refr, .int m_tag, .int m_tagsz, .int m_quote, .int m_chars, .int m_brackets, .int m_matched, .long m_number, .int m_fault])), (m_re, .inl (cI, 500, .inl gr))]) [0, 1] rfl
              have hD9 := hD.sub (ws' := [(mh, .inr (4, [.ref m_te, .int m_size, .ref m_re, .int m_len, .int (nI np), .ref m_kn, .ref m_bg, .ref m_en, .ref m_dp, .int (nI no), .ref m_nm, .ref m_sz, .int (nI na), .ref m_aa, .ref m_asz, .int m_elements, .int m_most, .int m_values, .int m_place, .int m_phase, .int m_state, .int (nI t), .int m_begin, .int (nI n), .int m_refr, .int m_tag, .int m_tagsz, .int m_quote, .int m_chars, .int m_brackets, .int m_matched, .long m_number, .int m_fault])), (m_re, .inl (cI, 500, .inl gr))]) [0, 1] (by decide) rfl
              rw [← hQ]
              exact W.zret (v := 0) (ty := .boolean) hx hb hr rfl (fun t9 ht9 hW => ⟨⟨0, (), rfl, Or.inl rfl, by rw [ht9]; exact hP9, va_K.moved hW.alike hK, hD9⟩, hS.F ht9⟩) hS.2.2 dX4_is_74
            · skip
              refine lv_iconst (v := 1) hx hb dX4_is_69 (by decide) ?_
              refine lv_goto (tgt := 74) hx hb dX4_is_70 (by decide) ?_
              have hP9 := hP.sub (ws' := [(mh, .inr (4, [.ref m_te, .int m_size, .ref m_re, .int m_len, .int (nI np), .ref m_kn, .ref m_bg, .ref m_en, .ref m_dp, .int (nI no), .ref m_nm, .ref m_sz, .int (nI na), .ref m_aa, .ref m_asz, .int m_elements, .int m_most, .int m_values, .int m_place, .int m_phase, .int m_state, .int (nI t), .int m_begin, .int (nI n), .int m_refr, .int m_tag, .int m_tagsz, .int m_quote, .int m_chars, .int m_brackets, .int m_matched, .long m_number, .int m_fault])), (m_re, .inl (cI, 500, .inl gr))]) [0, 1] rfl
              have hD9 := hD.sub (ws' := [(mh, .inr (4, [.ref m_te, .int m_size, .ref m_re, .int m_len, .int (nI np), .ref m_kn, .ref m_bg, .ref m_en, .ref m_dp, .int (nI no), .ref m_nm, .ref m_sz, .int (nI na), .ref m_aa, .ref m_asz, .int m_elements, .int m_most, .int m_values, .int m_place, .int m_phase, .int m_state, .int (nI t), .int m_begin, .int (nI n), .int m_refr, .int m_tag, .int m_tagsz, .int m_quote, .int m_chars, .int m_brackets, .int m_matched, .long m_number, .int m_fault])), (m_re, .inl (cI, 500, .inl gr))]) [0, 1] (by decide) rfl
              rw [← hQ]
              exact W.zret (v := 1) (ty := .boolean) hx hb hr rfl (fun t9 ht9 hW => ⟨⟨1, (), rfl, Or.inr rfl, by rw [ht9]; exact hP9, va_K.moved hW.alike hK, hD9⟩, hS.F ht9⟩) hS.2.2 dX4_is_74
        · skip
          refine lv_lload_n hx hb dX4_is_29 rfl (lv_at hl 1 rfl) ?_
          refine lv_bipush (v := 8) hx hb dX4_is_30 (by decide) ?_
          refine lv_lshl hx hb dX4_is_32 rfl ?_
          refine lv_topl (fun y_6 ey_6 => ?_)
          refine lv_aload_n hx hb dX4_is_33 rfl (lv_at hl 2 rfl) ?_
          refine va_get (D := D) (ci := 4) (v := .ref m_re) (C := RX4) (T := TX4) (N := 33) hx hb hts inX4 hown hK hP 0 rfl rfl 2 (by decide) (hts (Cond.fieldLink "NestedTagsModel" 13 "NestedTagsModel" "read" "[I") kk_2_214) (fun _ h9 => h9) rfl dX4_is_34 ?_
          refine lv_iload hx hb dX4_is_37 (lv_at hl 0 rfl) ?_
          refine va_iald hx hb hK hP 1 0 rfl rfl (vp_in_nI (by have : i < t := nI_lt_of (by omega) c_14; omega) (by decide)) dX4_is_39 ?_
          refine lv_topi (fun x_7 ex_7 => ?_)
          refine lv_i2l hx hb dX4_is_40 rfl ?_
          refine lv_topl (fun y_8 ey_8 => ?_)
          refine lv_lor hx hb dX4_is_41 ?_
          refine lv_topl (fun y_9 ey_9 => ?_)
          refine lv_lstore_n (lv' := [(3, .long y_9), (5, .int (nI i)), (0, .ref mh), (1, .long p1)]) hx hb dX4_is_42 rfl hl (by decide) rfl (fun ls hl => ?_)
          obtain ⟨x_10, ex_10⟩ : ∃ y : Int32, y = (nI i) + 1 := ⟨_, rfl⟩
          refine lv_iinc (v := x_10) (lv' := [(5, .int x_10), (3, .long y_9), (0, .ref mh), (1, .long p1)]) hx hb dX4_is_43 hl (k := 1) rfl (by rw [ex_10]; rfl) (by decide) rfl (fun ls hl => ?_)
          refine lv_goto (tgt := 8) hx hb dX4_is_46 (by decide) ?_
          have ei : x_10 = nI (i + 1) := by rw [ex_10]; exact nI_1 i
          rw [ei] at hl
          have hlt : i < t := nI_lt_of (by omega) c_14
          exact ih_8 (i + 1) y_9 _ _ (by omega) ⟨by omega, by omega⟩ (hP.sub [0, 1] rfl) (hD.sub [0, 1] (by decide) rfl) hS ls (lv_sub hl [0, 1, 2, 3] rfl)
  exact loop_8 _ n 0 _ _ (Nat.lt_succ_self _) ⟨Nat.le_refl _, hn⟩ hP hD hS ls hl

set_option maxHeartbeats 4000000 in
set_option maxRecDepth 100000 in
/-- X4_same -/
theorem c_X4_same (l : Launch) (D : va_G) (cI : ClassId) (V : (Nat → Nat) × (Nat → Nat)) (mh : Nat) (m_te : Nat) (m_size : Int32) (m_re : Nat) (m_len : Int32) (m_kn : Nat) (m_bg : Nat) (m_en : Nat) (m_dp : Nat) (m_nm : Nat) (m_sz : Nat) (m_aa : Nat) (m_asz : Nat) (m_elements : Int32) (m_most : Int32) (m_values : Int32) (m_place : Int32) (m_phase : Int32) (m_state : Int32) (m_begin : Int32) (m_name : Int32) (m_refr : Int32) (m_tag : Int32) (m_tagsz : Int32) (m_quote : Int32) (m_chars : Int32) (m_brackets : Int32) (m_matched : Int32) (m_number : Int64) (m_fault : Int32) (np : Nat) (no : Nat) (na : Nat) (t : Nat) (gr : Nat → Int32) (sz : Nat) (p1 : Int32) (p2 : Int32) (p3 : Int32) (p4 : Int32) (hs1 : Sp p1 p2) (hs2 : Sp p3 p4) : Met l yX4_same (.code yX4_same cX4_same 7 (some .boolean) :: tbW) ({ frames := 0, cells := 0, slots := 0, locals := 0 }) (va_Pc [.ref mh, .int p1, .int p2, .int p3, .int p4] (gP D cI V [(mh, .inr (4, [.ref m_te, .int m_size, .ref m_re, .int m_len, .int (nI np), .ref m_kn, .ref m_bg, .ref m_en, .ref m_dp, .int (nI no), .ref m_nm, .ref m_sz, .int (nI na), .ref m_aa, .ref m_asz, .int m_elements, .int m_most, .int m_values, .int m_place, .int m_phase, .int m_state, .int (nI t), .int m_begin, .int m_name, .int m_refr, .int m_tag, .int m_tagsz, .int m_quote, .int m_chars, .int m_brackets, .int m_matched, .long m_number, .int m_fault])), (m_re, .inl (cI, 500, .inl gr))] sz)) (va_Qi (fun (r : Int32) (u : Unit) => r = 0 ∨ r = 1) (fun u => gB D cI (va_A [(mh, .inr (4, [.ref m_te, .int m_size, .ref m_re, .int m_len, .int (nI np), .ref m_kn, .ref m_bg, .ref m_en, .ref m_dp, .int (nI no), .ref m_nm, .ref m_sz, .int (nI na), .ref m_aa, .ref m_asz, .int m_elements, .int m_most, .int m_values, .int m_place, .int m_phase, .int m_state, .int (nI t), .int m_begin, .int m_name, .int m_refr, .int m_tag, .int m_tagsz, .int m_quote, .int m_chars, .int m_brackets, .int m_matched, .long m_number, .int m_fault])), (m_re, .inl (cI, 500, .inl gr))] sz) [(mh, .inr (4, [.ref m_te, .int m_size, .ref m_re, .int m_len, .int (nI np), .ref m_kn, .ref m_bg, .ref m_en, .ref m_dp, .int (nI no), .ref m_nm, .ref m_sz, .int (nI na), .ref m_aa, .ref m_asz, .int m_elements, .int m_most, .int m_values, .int m_place, .int m_phase, .int m_state, .int (nI t), .int m_begin, .int m_name, .int m_refr, .int m_tag, .int m_tagsz, .int m_quote, .int m_chars, .int m_brackets, .int m_matched, .long m_number, .int m_fault])), (m_re, .inl (cI, 500, .inl gr))]) (va_A [(mh, .inr (4, [.ref m_te, .int m_size, .ref m_re, .int m_len, .int (nI np), .ref m_kn, .ref m_bg, .ref m_en, .ref m_dp, .int (nI no), .ref m_nm, .ref m_sz, .int (nI na), .ref m_aa, .ref m_asz, .int m_elements, .int m_most, .int m_values, .int m_place, .int m_phase, .int m_state, .int (nI t), .int m_begin, .int m_name, .int m_refr, .int m_tag, .int m_tagsz, .int m_quote, .int m_chars, .int m_brackets, .int m_matched, .long m_number, .int m_fault])), (m_re, .inl (cI, 500, .inl gr))] sz)) 0 0 (va_A [(mh, .inr (4, [.ref m_te, .int m_size, .ref m_re, .int m_len, .int (nI np), .ref m_kn, .ref m_bg, .ref m_en, .ref m_dp, .int (nI no), .ref m_nm, .ref m_sz, .int (nI na), .ref m_aa, .ref m_asz, .int m_elements, .int m_most, .int m_values, .int m_place, .int m_phase, .int m_state, .int (nI t), .int m_begin, .int m_name, .int m_refr, .int m_tag, .int m_tagsz, .int m_quote, .int m_chars, .int m_brackets, .int m_matched, .long m_number, .int m_fault])), (m_re, .inl (cI, 500, .inl gr))] sz) := by
  refine Met.ofW (cc := cX4_same) (maxL := 7) (ret := (some .boolean)) (by decide) rfl ?_
  intro p e s m args below meth c s₁ B hml hv
  obtain ⟨rfl, hsz, hP, hK, hD0, hN, hV⟩ := hv
  have hx := B.exec
  have hb := B.bytes
  have hr := B.returns
  have hts := tb_hts (atoms_spec (ws := .code yX4_same cX4_same 7 (some .boolean) :: tbW) B.pre)
  have hown : s.vm.findClass RX4 = some m.cls := findClass_of_methodNamed B.named
  have hlocks := B.notSynchronized
  subst hsz
  have hD := hD0.self (sz := s.heap.size)
  generalize hAe : va_A [(mh, .inr (4, [.ref m_te, .int m_size, .ref m_re, .int m_len, .int (nI np), .ref m_kn, .ref m_bg, .ref m_en, .ref m_dp, .int (nI no), .ref m_nm, .ref m_sz, .int (nI na), .ref m_aa, .ref m_asz, .int m_elements, .int m_most, .int m_values, .int m_place, .int m_phase, .int m_state, .int (nI t), .int m_begin, .int m_name, .int m_refr, .int m_tag, .int m_tagsz, .int m_quote, .int m_chars, .int m_brackets, .int m_matched, .long m_number, .int m_fault])), (m_re, .inl (cI, 500, .inl gr))] s.heap.size = A at hD hV ⊢
  have hA : ∀ q : Nat, s.heap.size ≤ q → A q := fun q h => by rw [← hAe]; exact Or.inr h
  have hS : va_S A s.heap s.heap [] := va_S.rf
  have hP : va_P D classes [(mh, .inr (4, [.ref m_te, .int m_size, .ref m_re, .int m_len, .int (nI np), .ref m_kn, .ref m_bg, .ref m_en, .ref m_dp, .int (nI no), .ref m_nm, .ref m_sz, .int (nI na), .ref m_aa, .ref m_asz, .int m_elements, .int m_most, .int m_values, .int m_place, .int m_phase, .int m_state, .int (nI t), .int m_begin, .int m_name, .int m_refr, .int m_tag, .int m_tagsz, .int m_quote, .int m_chars, .int m_brackets, .int m_matched, .long m_number, .int m_fault])), (m_re, .inl (cI, 500, .inl gr))] s.heap := hP
  have hl := lv_entry ([.ref mh, .int p1, .int p2, .int p3, .int p4]) (n := 7) (Nat.le_of_ble_eq_true rfl)
  rw [lg_entry_eq]
  generalize (lg_sl ([.ref mh, .int p1, .int p2, .int p3, .int p4]) ++ List.replicate (7 - (lg_sl ([.ref mh, .int p1, .int p2, .int p3, .int p4])).length) Slot.unset).toArray = ls at hl ⊢
  have hl : lv_has ls 7 [(0, .ref mh), (1, .int p1), (2, .int p2), (3, .int p3), (4, .int p4)] := hl
  generalize hQ : MQ below (va_Qi (fun (r : Int32) (u : Unit) => r = 0 ∨ r = 1) (fun u => gB D cI A [(mh, .inr (4, [.ref m_te, .int m_size, .ref m_re, .int m_len, .int (nI np), .ref m_kn, .ref m_bg, .ref m_en, .ref m_dp, .int (nI no), .ref m_nm, .ref m_sz, .int (nI na), .ref m_aa, .ref m_asz, .int m_elements, .int m_most, .int m_values, .int m_place, .int m_phase, .int m_state, .int (nI t), .int m_begin, .int m_name, .int m_refr, .int m_tag, .int m_tagsz, .int m_quote, .int m_chars, .int m_brackets, .int m_matched, .long m_number, .int m_fault])), (m_re, .inl (cI, 500, .inl gr))]) A) (([.ref mh, .int p1, .int p2, .int p3, .int p4] : List Value).toArray) s 0 0 A = Q
  obtain ⟨u, v, e1, e2, hv⟩ := hs1
  obtain ⟨u2, v2, e3, e4, hv2⟩ := hs2
  refine lv_iload_n hx hb dX4_same_0 rfl (lv_at hl 2 rfl) ?_
  refine lv_iload hx hb dX4_same_1 (lv_at hl 4 rfl) ?_
  refine lv_icmp_ne (tgt := 10) hx hb dX4_same_3 (by decide) (fun c_3 => ?_) (fun c_3 => ?_)
  · skip
    refine lv_iconst (v := 0) hx hb dX4_same_10 (by decide) ?_
    refine lv_istore (lv' := [(5, .int 0), (0, .ref mh), (1, .int p1), (2, .int p2), (3, .int p3), (4, .int p4)]) hx hb dX4_same_11 hl (by decide) rfl (fun ls hl => ?_)
    refine lv_iconst (v := 0) hx hb dX4_same_13 (by decide) ?_
    refine lv_istore (lv' := [(6, .int 0), (5, .int 0), (0, .ref mh), (1, .int p1), (2, .int p2), (3, .int p3), (4, .int p4)]) hx hb dX4_same_14 hl (by decide) rfl (fun ls hl => ?_)
    have loop_16 : ∀ (fu : Nat) (i : Nat) (x_l : Int32) (H : Heap) (locs : List Loc), v - i < fu → (x_l = 0 ∨ v = v2) → (x_l = 0 ∨ x_l = 1) → i ≤ v → va_P D classes [(mh, .inr (4, [.ref m_te, .int m_size, .ref m_re, .int m_len, .int (nI np), .ref m_kn, .ref m_bg, .ref m_en, .ref m_dp, .int (nI no), .ref m_nm, .ref m_sz, .int (nI na), .ref m_aa, .ref m_asz, .int m_elements, .int m_most, .int m_values, .int m_place, .int m_phase, .int m_state, .int (nI t), .int m_begin, .int m_name, .int m_refr, .int m_tag, .int m_tagsz, .int m_quote, .int m_chars, .int m_brackets, .int m_matched, .long m_number, .int m_fault])), (m_re, .inl (cI, 500, .inl gr))] H → va_D A [(mh, .inr (4, [.ref m_te, .int m_size, .ref m_re, .int m_len, .int (nI np), .ref m_kn, .ref m_bg, .ref m_en, .ref m_dp, .int (nI no), .ref m_nm, .ref m_sz, .int (nI na), .ref m_aa, .ref m_asz, .int m_elements, .int m_most, .int m_values, .int m_place, .int m_phase, .int m_state, .int (nI t), .int m_begin, .int m_name, .int m_refr, .int m_tag, .int m_tagsz, .int m_quote, .int m_chars, .int m_brackets, .int m_matched, .long m_number, .int m_fault])), (m_re, .inl (cI, 500, .inl gr))] → va_S A s.heap H locs → ∀ (ls : Array Slot), lv_has ls 7 [(6, .int (nI i)), (5, .int x_l), (0, .ref mh), (1, .int p1), (2, .int p2), (3, .int p3), (4, .int p4)] → W p l e (headSpec (.code yX4_same cX4_same 7 (some .boolean) :: tbW) { frames := 0, cells := 0, slots := 0, locals := 0 }).room s m (([.ref mh, .int p1, .int p2, .int p3, .int p4] : List Value).toArray) below meth c H locs 0 0 Q (F0 m 16 ls []) := by
      intro fu
      induction fu with
      | zero =>
        intro i x_l H locs hm
        exact absurd hm (Nat.not_lt_zero _)
      | succ fu ih_16 =>
        intro i x_l H locs hm_16 hx5 hb5 hiv hP hD hS ls hl
        refine lv_iload hx hb dX4_same_16 (lv_at hl 0 rfl) ?_
        refine lv_iload_n hx hb dX4_same_18 rfl (lv_at hl 4 rfl) ?_
        refine lv_icmp_ge (tgt := 61) hx hb dX4_same_19 (by decide) (fun c_19 => ?_) (fun c_19 => ?_)
        · skip
          refine lv_iload hx hb dX4_same_61 (lv_at hl 1 rfl) ?_
          have hP9 := hP.sub (ws' := [(mh, .inr (4, [.ref m_te, .int m_size, .ref m_re, .int m_len, .int (nI np), .ref m_kn, .ref m_bg, .ref m_en, .ref m_dp, .int (nI no), .ref m_nm, .ref m_sz, .int (nI na), .ref m_aa, .ref m_asz, .int m_elements, .int m_most, .int m_values, .int m_place, .int m_phase, .int m_state, .int (nI t), .int m_begin, .int m_name, .int m_refr, .int m_tag, .int m_tagsz, .int m_quote, .int m_chars, .int m_brackets, .int m_matched, .long m_number, .int m_fault])), (m_re, .inl (cI, 500, .inl gr))]) [0, 1] rfl
          have hD9 := hD.sub (ws' := [(mh, .inr (4, [.ref m_te, .int m_size, .ref m_re, .int m_len, .int (nI np), .ref m_kn, .ref m_bg, .ref m_en, .ref m_dp, .int (nI no), .ref m_nm, .ref m_sz, .int (nI na), .ref m_aa, .ref m_asz, .int m_elements, .int m_most, .int m_values, .int m_place, .int m_phase, .int m_state, .int (nI t), .int m_begin, .int m_name, .int m_refr, .int m_tag, .int m_tagsz, .int m_quote, .int m_chars, .int m_brackets, .int m_matched, .long m_number, .int m_fault])), (m_re, .inl (cI, 500, .inl gr))]) [0, 1] (by decide) rfl
          rw [← hQ]
          exact W.zret (v := x_l) (ty := .boolean) hx hb hr (nb01 hb5) (fun t9 ht9 hW => ⟨⟨x_l, (), rfl, hb5, by rw [ht9]; exact hP9, va_K.moved hW.alike hK, hD9⟩, hS.F ht9⟩) hS.2.2 dX4_same_63
        · skip
          refine lv_iload hx hb dX4_same_22 (lv_at hl 1 rfl) ?_
          refine lv_if_eq (tgt := 61) hx hb dX4_same_24 (by decide) (fun c_24 => ?_) (fun c_24 => ?_)
          · skip
            refine lv_iload hx hb dX4_same_61 (lv_at hl 1 rfl) ?_
            have hP9 := hP.sub (ws' := [(mh, .inr (4, [.ref m_te, .int m_size, .ref m_re, .int m_len, .int (nI np), .ref m_kn, .ref m_bg, .ref m_en, .ref m_dp, .int (nI no), .ref m_nm, .ref m_sz, .int (nI na), .ref m_aa, .ref m_asz, .int m_elements, .int m_most, .int m_values, .int m_place, .int m_phase, .int m_state, .int (nI t), .int m_begin, .int m_name, .int m_refr, .int m_tag, .int m_tagsz, .int m_quote, .int m_chars, .int m_brackets, .int m_matched, .long m_number, .int m_fault])), (m_re, .inl (cI, 500, .inl gr))]) [0, 1] rfl
            have hD9 := hD.sub (ws' := [(mh, .inr (4, [.ref m_te, .int m_size, .ref m_re, .int m_len, .int (nI np), .ref m_kn, .ref m_bg, .ref m_en, .ref m_dp, .int (nI no), .ref m_nm, .ref m_sz, .int (nI na), .ref m_aa, .ref m_asz, .int m_elements, .int m_most, .int m_values, .int m_place, .int m_phase, .int m_state, .int (nI t), .int m_begin, .int m_name, .int m_refr, .int m_tag, .int m_tagsz, .int m_quote, .int m_chars, .int m_brackets, .int m_matched, .long m_number, .int m_fault])), (m_re, .inl (cI, 500, .inl gr))]) [0, 1] (by decide) rfl
            rw [← hQ]
            exact W.zret (v := x_l) (ty := .boolean) hx hb hr (nb01 hb5) (fun t9 ht9 hW => ⟨⟨x_l, (), rfl, hb5, by rw [ht9]; exact hP9, va_K.moved hW.alike hK, hD9⟩, hS.F ht9⟩) hS.2.2 dX4_same_63
          · skip
            have hlt : i < v := nI_lt_of (by omega) (by rw [← e2]; exact c_19)
            have hvv : v = v2 := hx5.resolve_left c_24
            refine lv_aload_n hx hb dX4_same_27 rfl (lv_at hl 2 rfl) ?_
            refine va_get (D := D) (ci := 4) (v := .ref m_re) (C := RX4) (T := TX4) (N := 33) hx hb hts inX4 hown hK hP 0 rfl rfl 2 (by decide) (hts (Cond.fieldLink "NestedTagsModel" 13 "NestedTagsModel" "read" "[I") kk_2_214) (fun _ h9 => h9) rfl dX4_same_28 ?_
            refine lv_iload_n hx hb dX4_same_31 rfl (lv_at hl 3 rfl) ?_
            refine lv_iload hx hb dX4_same_32 (lv_at hl 0 rfl) ?_
            refine lv_iadd hx hb dX4_same_34 ?_
            refine lv_topi (fun x_1 ex_1 => ?_)
            refine va_iald hx hb hK hP 1 0 rfl rfl (by rw [ex_1, e1, nI_add]; exact vp_in_nI (by omega) (by decide)) dX4_same_35 ?_
            refine lv_topi (fun x_2 ex_2 => ?_)
            refine lv_aload_n hx hb dX4_same_36 rfl (lv_at hl 2 rfl) ?_
            refine va_get (D := D) (ci := 4) (v := .ref m_re) (C := RX4) (T := TX4) (N := 33) hx hb hts inX4 hown hK hP 0 rfl rfl 2 (by decide) (hts (Cond.fieldLink "NestedTagsModel" 13 "NestedTagsModel" "read" "[I") kk_2_214) (fun _ h9 => h9) rfl dX4_same_37 ?_
            refine lv_iload_n hx hb dX4_same_40 rfl (lv_at hl 5 rfl) ?_
            refine lv_iload hx hb dX4_same_41 (lv_at hl 0 rfl) ?_
            refine lv_iadd hx hb dX4_same_43 ?_
            refine lv_topi (fun x_3 ex_3 => ?_)
            refine va_iald hx hb hK hP 1 0 rfl rfl (by rw [ex_3, e3, nI_add]; exact vp_in_nI (by omega) (by decide)) dX4_same_44 ?_
            refine lv_topi (fun x_4 ex_4 => ?_)
            refine lv_icmp_ne (tgt := 52) hx hb dX4_same_45 (by decide) (fun c_45 => ?_) (fun c_45 => ?_)
            · skip
              refine lv_iconst (v := 0) hx hb dX4_same_52 (by decide) ?_
              refine lv_istore (lv' := [(5, .int 0), (6, .int (nI i)), (0, .ref mh), (1, .int p1), (2, .int p2), (3, .int p3), (4, .int p4)]) hx hb dX4_same_53 hl (by decide) rfl (fun ls hl => ?_)
              obtain ⟨x_5, ex_5⟩ : ∃ y : Int32, y = (nI i) + 1 := ⟨_, rfl⟩
              refine lv_iinc (v := x_5) (lv' := [(6, .int x_5), (5, .int 0), (0, .ref mh), (1, .int p1), (2, .int p2), (3, .int p3), (4, .int p4)]) hx hb dX4_same_55 hl (k := 1) rfl (by rw [ex_5]; rfl) (by decide) rfl (fun ls hl => ?_)
              refine lv_goto (tgt := 16) hx hb dX4_same_58 (by decide) ?_
              have ei : x_5 = nI (i + 1) := by rw [ex_5]; exact nI_1 i
              rw [ei] at hl
              exact ih_16 (i + 1) 0 _ _ (by omega) (Or.inr hvv) (Or.inl rfl) (by omega) (hP.sub [0, 1] rfl) (hD.sub [0, 1] (by decide) rfl) hS ls (lv_sub hl [0, 1, 2, 3, 4, 5, 6] rfl)
            · skip
              refine lv_iconst (v := 1) hx hb dX4_same_48 (by decide) ?_
              refine lv_goto (tgt := 53) hx hb dX4_same_49 (by decide) ?_
              refine lv_istore (lv' := [(5, .int 1), (6, .int (nI i)), (0, .ref mh), (1, .int p1), (2, .int p2), (3, .int p3), (4, .int p4)]) hx hb dX4_same_53 hl (by decide) rfl (fun ls hl => ?_)
              obtain ⟨x_6, ex_6⟩ : ∃ y : Int32, y = (nI i) + 1 := ⟨_, rfl⟩
              refine lv_iinc (v := x_6) (lv' := [(6, .int x_6), (5, .int 1), (0, .ref mh), (1, .int p1), (2, .int p2), (3, .int p3), (4, .int p4)]) hx hb dX4_same_55 hl (k := 1) rfl (by rw [ex_6]; rfl) (by decide) rfl (fun ls hl => ?_)
              refine lv_goto (tgt := 16) hx hb dX4_same_58 (by decide) ?_
              have ei : x_6 = nI (i + 1) := by rw [ex_6]; exact nI_1 i
              rw [ei] at hl
              exact ih_16 (i + 1) 1 _ _ (by omega) (Or.inr hvv) (Or.inr rfl) (by omega) (hP.sub [0, 1] rfl) (hD.sub [0, 1] (by decide) rfl) hS ls (lv_sub hl [0, 1, 2, 3, 4, 5, 6] rfl)
    exact loop_16 _ 0 0 _ _ (Nat.lt_succ_self _) (Or.inl rfl) (Or.inl rfl) (Nat.zero_le _) hP hD hS ls hl
  · skip
    refine lv_iconst (v := 1) hx hb dX4_same_6 (by decide) ?_
    refine lv_goto (tgt := 11) hx hb dX4_same_7 (by decide) ?_
    refine lv_istore (lv' := [(5, .int 1), (0, .ref mh), (1, .int p1), (2, .int p2), (3, .int p3), (4, .int p4)]) hx hb dX4_same_11 hl (by decide) rfl (fun ls hl => ?_)
    refine lv_iconst (v := 0) hx hb dX4_same_13 (by decide) ?_
    refine lv_istore (lv' := [(6, .int 0), (5, .int 1), (0, .ref mh), (1, .int p1), (2, .int p2), (3, .int p3), (4, .int p4)]) hx hb dX4_same_14 hl (by decide) rfl (fun ls hl => ?_)
    have loop_16 : ∀ (fu : Nat) (i : Nat) (x_l : Int32) (H : Heap) (locs : List Loc), v - i < fu → (x_l = 0 ∨ v = v2) → (x_l = 0 ∨ x_l = 1) → i ≤ v → va_P D classes [(mh, .inr (4, [.ref m_te, .int m_size, .ref m_re, .int m_len, .int (nI np), .ref m_kn, .ref m_bg, .ref m_en, .ref m_dp, .int (nI no), .ref m_nm, .ref m_sz, .int (nI na), .ref m_aa, .ref m_asz, .int m_elements, .int m_most, .int m_values, .int m_place, .int m_phase, .int m_state, .int (nI t), .int m_begin, .int m_name, .int m_refr, .int m_tag, .int m_tagsz, .int m_quote, .int m_chars, .int m_brackets, .int m_matched, .long m_number, .int m_fault])), (m_re, .inl (cI, 500, .inl gr))] H → va_D A [(mh, .inr (4, [.ref m_te, .int m_size, .ref m_re, .int m_len, .int (nI np), .ref m_kn, .ref m_bg, .ref m_en, .ref m_dp, .int (nI no), .ref m_nm, .ref m_sz, .int (nI na), .ref m_aa, .ref m_asz, .int m_elements, .int m_most, .int m_values, .int m_place, .int m_phase, .int m_state, .int (nI t), .int m_begin, .int m_name, .int m_refr, .int m_tag, .int m_tagsz, .int m_quote, .int m_chars, .int m_brackets, .int m_matched, .long m_number, .int m_fault])), (m_re, .inl (cI, 500, .inl gr))] → va_S A s.heap H locs → ∀ (ls : Array Slot), lv_has ls 7 [(6, .int (nI i)), (5, .int x_l), (0, .ref mh), (1, .int p1), (2, .int p2), (3, .int p3), (4, .int p4)] → W p l e (headSpec (.code yX4_same cX4_same 7 (some .boolean) :: tbW) { frames := 0, cells := 0, slots := 0, locals := 0 }).room s m (([.ref mh, .int p1, .int p2, .int p3, .int p4] : List Value).toArray) below meth c H locs 0 0 Q (F0 m 16 ls []) := by
      intro fu
      induction fu with
      | zero =>
        intro i x_l H locs hm
        exact absurd hm (Nat.not_lt_zero _)
      | succ fu ih_16 =>
        intro i x_l H locs hm_16 hx5 hb5 hiv hP hD hS ls hl
        refine lv_iload hx hb dX4_same_16 (lv_at hl 0 rfl) ?_
        refine lv_iload_n hx hb dX4_same_18 rfl (lv_at hl 4 rfl) ?_
        refine lv_icmp_ge (tgt := 61) hx hb dX4_same_19 (by decide) (fun c_19 => ?_) (fun c_19 => ?_)
        · skip
          refine lv_iload hx hb dX4_same_61 (lv_at hl 1 rfl) ?_
          have hP9 := hP.sub (ws' := [(mh, .inr (4, [.ref m_te, .int m_size, .ref m_re, .int m_len, .int (nI np), .ref m_kn, .ref m_bg, .ref m_en, .ref m_dp, .int (nI no), .ref m_nm, .ref m_sz, .int (nI na), .ref m_aa, .ref m_asz, .int m_elements, .int m_most, .int m_values, .int m_place, .int m_phase, .int m_state, .int (nI t), .int m_begin, .int m_name, .int m_refr, .int m_tag, .int m_tagsz, .int m_quote, .int m_chars, .int m_brackets, .int m_matched, .long m_number, .int m_fault])), (m_re, .inl (cI, 500, .inl gr))]) [0, 1] rfl
          have hD9 := hD.sub (ws' := [(mh, .inr (4, [.ref m_te, .int m_size, .ref m_re, .int m_len, .int (nI np), .ref m_kn, .ref m_bg, .ref m_en, .ref m_dp, .int (nI no), .ref m_nm, .ref m_sz, .int (nI na), .ref m_aa, .ref m_asz, .int m_elements, .int m_most, .int m_values, .int m_place, .int m_phase, .int m_state, .int (nI t), .int m_begin, .int m_name, .int m_refr, .int m_tag, .int m_tagsz, .int m_quote, .int m_chars, .int m_brackets, .int m_matched, .long m_number, .int m_fault])), (m_re, .inl (cI, 500, .inl gr))]) [0, 1] (by decide) rfl
          rw [← hQ]
          exact W.zret (v := x_l) (ty := .boolean) hx hb hr (nb01 hb5) (fun t9 ht9 hW => ⟨⟨x_l, (), rfl, hb5, by rw [ht9]; exact hP9, va_K.moved hW.alike hK, hD9⟩, hS.F ht9⟩) hS.2.2 dX4_same_63
        · skip
          refine lv_iload hx hb dX4_same_22 (lv_at hl 1 rfl) ?_
          refine lv_if_eq (tgt := 61) hx hb dX4_same_24 (by decide) (fun c_24 => ?_) (fun c_24 => ?_)
          · skip
            refine lv_iload hx hb dX4_same_61 (lv_at hl 1 rfl) ?_
            have hP9 := hP.sub (ws' := [(mh, .inr (4, [.ref m_te, .int m_size, .ref m_re, .int m_len, .int (nI np), .ref m_kn, .ref m_bg, .ref m_en, .ref m_dp, .int (nI no), .ref m_nm, .ref m_sz, .int (nI na), .ref m_aa, .ref m_asz, .int m_elements, .int m_most, .int m_values, .int m_place, .int m_phase, .int m_state, .int (nI t), .int m_begin, .int m_name, .int m_refr, .int m_tag, .int m_tagsz, .int m_quote, .int m_chars, .int m_brackets, .int m_matched, .long m_number, .int m_fault])), (m_re, .inl (cI, 500, .inl gr))]) [0, 1] rfl
            have hD9 := hD.sub (ws' := [(mh, .inr (4, [.ref m_te, .int m_size, .ref m_re, .int m_len, .int (nI np), .ref m_kn, .ref m_bg, .ref m_en, .ref m_dp, .int (nI no), .ref m_nm, .ref m_sz, .int (nI na), .ref m_aa, .ref m_asz, .int m_elements, .int m_most, .int m_values, .int m_place, .int m_phase, .int m_state, .int (nI t), .int m_begin, .int m_name, .int m_refr, .int m_tag, .int m_tagsz, .int m_quote, .int m_chars, .int m_brackets, .int m_matched, .long m_number, .int m_fault])), (m_re, .inl (cI, 500, .inl gr))]) [0, 1] (by decide) rfl
            rw [← hQ]
            exact W.zret (v := x_l) (ty := .boolean) hx hb hr (nb01 hb5) (fun t9 ht9 hW => ⟨⟨x_l, (), rfl, hb5, by rw [ht9]; exact hP9, va_K.moved hW.alike hK, hD9⟩, hS.F ht9⟩) hS.2.2 dX4_same_63
          · skip
            have hlt : i < v := nI_lt_of (by omega) (by rw [← e2]; exact c_19)
            have hvv : v = v2 := hx5.resolve_left c_24
            refine lv_aload_n hx hb dX4_same_27 rfl (lv_at hl 2 rfl) ?_
            refine va_get (D := D) (ci := 4) (v := .ref m_re) (C := RX4) (T := TX4) (N := 33) hx hb hts inX4 hown hK hP 0 rfl rfl 2 (by decide) (hts (Cond.fieldLink "NestedTagsModel" 13 "NestedTagsModel" "read" "[I") kk_2_214) (fun _ h9 => h9) rfl dX4_same_28 ?_
            refine lv_iload_n hx hb dX4_same_31 rfl (lv_at hl 3 rfl) ?_
            refine lv_iload hx hb dX4_same_32 (lv_at hl 0 rfl) ?_
            refine lv_iadd hx hb dX4_same_34 ?_
            refine lv_topi (fun x_7 ex_7 => ?_)
            refine va_iald hx hb hK hP 1 0 rfl rfl (by rw [ex_7, e1, nI_add]; exact vp_in_nI (by omega) (by decide)) dX4_same_35 ?_
            refine lv_topi (fun x_8 ex_8 => ?_)
            refine lv_aload_n hx hb dX4_same_36 rfl (lv_at hl 2 rfl) ?_
            refine va_get (D := D) (ci := 4) (v := .ref m_re) (C := RX4) (T := TX4) (N := 33) hx hb hts inX4 hown hK hP 0 rfl rfl 2 (by decide) (hts (Cond.fieldLink "NestedTagsModel" 13 "NestedTagsModel" "read" "[I") kk_2_214) (fun _ h9 => h9) rfl dX4_same_37 ?_
            refine lv_iload_n hx hb dX4_same_40 rfl (lv_at hl 5 rfl) ?_
            refine lv_iload hx hb dX4_same_41 (lv_at hl 0 rfl) ?_
            refine lv_iadd hx hb dX4_same_43 ?_
            refine lv_topi (fun x_9 ex_9 => ?_)
            refine va_iald hx hb hK hP 1 0 rfl rfl (by rw [ex_9, e3, nI_add]; exact vp_in_nI (by omega) (by decide)) dX4_same_44 ?_
            refine lv_topi (fun x_10 ex_10 => ?_)
            refine lv_icmp_ne (tgt := 52) hx hb dX4_same_45 (by decide) (fun c_45 => ?_) (fun c_45 => ?_)
            · skip
              refine lv_iconst (v := 0) hx hb dX4_same_52 (by decide) ?_
              refine lv_istore (lv' := [(5, .int 0), (6, .int (nI i)), (0, .ref mh), (1, .int p1), (2, .int p2), (3, .int p3), (4, .int p4)]) hx hb dX4_same_53 hl (by decide) rfl (fun ls hl => ?_)
              obtain ⟨x_11, ex_11⟩ : ∃ y : Int32, y = (nI i) + 1 := ⟨_, rfl⟩
              refine lv_iinc (v := x_11) (lv' := [(6, .int x_11), (5, .int 0), (0, .ref mh), (1, .int p1), (2, .int p2), (3, .int p3), (4, .int p4)]) hx hb dX4_same_55 hl (k := 1) rfl (by rw [ex_11]; rfl) (by decide) rfl (fun ls hl => ?_)
              refine lv_goto (tgt := 16) hx hb dX4_same_58 (by decide) ?_
              have ei : x_11 = nI (i + 1) := by rw [ex_11]; exact nI_1 i
              rw [ei] at hl
              exact ih_16 (i + 1) 0 _ _ (by omega) (Or.inr hvv) (Or.inl rfl) (by omega) (hP.sub [0, 1] rfl) (hD.sub [0, 1] (by decide) rfl) hS ls (lv_sub hl [0, 1, 2, 3, 4, 5, 6] rfl)
            · skip
              refine lv_iconst (v := 1) hx hb dX4_same_48 (by decide) ?_
              refine lv_goto (tgt := 53) hx hb dX4_same_49 (by decide) ?_
              refine lv_istore (lv' := [(5, .int 1), (6, .int (nI i)), (0, .ref mh), (1, .int p1), (2, .int p2), (3, .int p3), (4, .int p4)]) hx hb dX4_same_53 hl (by decide) rfl (fun ls hl => ?_)
              obtain ⟨x_12, ex_12⟩ : ∃ y : Int32, y = (nI i) + 1 := ⟨_, rfl⟩
              refine lv_iinc (v := x_12) (lv' := [(6, .int x_12), (5, .int 1), (0, .ref mh), (1, .int p1), (2, .int p2), (3, .int p3), (4, .int p4)]) hx hb dX4_same_55 hl (k := 1) rfl (by rw [ex_12]; rfl) (by decide) rfl (fun ls hl => ?_)
              refine lv_goto (tgt := 16) hx hb dX4_same_58 (by decide) ?_
              have ei : x_12 = nI (i + 1) := by rw [ex_12]; exact nI_1 i
              rw [ei] at hl
              exact ih_16 (i + 1) 1 _ _ (by omega) (Or.inr hvv) (Or.inr rfl) (by omega) (hP.sub [0, 1] rfl) (hD.sub [0, 1] (by decide) rfl) hS ls (lv_sub hl [0, 1, 2, 3, 4, 5, 6] rfl)
    exact loop_16 _ 0 1 _ _ (Nat.lt_succ_self _) (Or.inr (nI_inj_of e2 e4 hv hv2 c_3)) (Or.inr rfl) (Nat.zero_le _) hP hD hS ls hl
