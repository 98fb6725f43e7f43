/-! The tables' good words as one list; contracts over it; the frame rule of a call in one row. -/
def tbW : List Cond := lw_tbl.filter goodWord
theorem tb_mem {w : Cond} (h : w ∈ lw_tbl) (g : goodWord w = true) : w ∈ tbW := List.mem_filter.mpr ⟨h, g⟩
theorem tb_0 {w : Cond} (i : Nat) (h : (k2_sels lw_privs)[i]? = some w) (g : goodWord w = true) : w ∈ tbW := tb_mem (List.mem_append_left _ (List.mem_of_getElem? h)) g
theorem tb_1 {w : Cond} (i : Nat) (h : tables_1_1[i]? = some w) (g : goodWord w = true) : w ∈ tbW := tb_mem (List.mem_append_right _ (List.mem_append_left _ (List.mem_of_getElem? h))) g
theorem tb_2 {w : Cond} (i : Nat) (h : tables_1_2[i]? = some w) (g : goodWord w = true) : w ∈ tbW := tb_mem (List.mem_append_right _ (List.mem_append_right _ (List.mem_append_left _ (List.mem_of_getElem? h)))) g
theorem tb_3 {w : Cond} (i : Nat) (h : tables_1_3[i]? = some w) (g : goodWord w = true) : w ∈ tbW := tb_mem (List.mem_append_right _ (List.mem_append_right _ (List.mem_append_right _ (List.mem_append_left _ (List.mem_of_getElem? h))))) g
theorem tb_4 {w : Cond} (i : Nat) (h : tables_1_4[i]? = some w) (g : goodWord w = true) : w ∈ tbW := tb_mem (List.mem_append_right _ (List.mem_append_right _ (List.mem_append_right _ (List.mem_append_right _ (List.mem_of_getElem? h))))) g
theorem tb_in {w : Cond} (h : w ∈ tbW) : w ∈ lw_tbl := (List.mem_filter.mp h).1
theorem tb_ok {w : Cond} (h : w ∈ tbW) : (w.onTables && w.keeps) = true ∨ ∃ ty, w = .arrayClass ty := good_of_word (List.mem_filter.mp h).2
theorem tb_good {b : Cond} (hb : b ∈ tbW) : GoodIn tbW (b :: tbW) := by
  intro w hw
  have h1 : w ∈ tbW := by
    rcases List.mem_cons.mp hw with h | h
    · rw [h]; exact hb
    · exact h
  exact ⟨h1, tb_ok h1⟩
theorem tb_goodV {own : String} {idx : Nat} {C : String} {y : MethodName} {b : Cond} (h1 : Cond.methodLink own idx y ∈ tbW) (h2 : Cond.instanceMethod y ∈ tbW) (h3 : Cond.selects C y y ∈ tbW) (h4 : Cond.initialized C ∈ tbW) (hb : b ∈ tbW) : GoodIn tbW (wsV own idx C y (b :: tbW)) := by
  intro w hw
  unfold wsV at hw
  rcases List.mem_append.mp hw with h | h
  · simp only [List.mem_cons, List.not_mem_nil, or_false] at h
    rcases h with rfl | rfl | rfl | rfl
    · exact ⟨h1, tb_ok h1⟩
    · exact ⟨h2, tb_ok h2⟩
    · exact ⟨h3, tb_ok h3⟩
    · exact ⟨h4, tb_ok h4⟩
  · exact tb_good hb w h
theorem tb_goodS {own : String} {idx : Nat} {y : MethodName} {b : Cond} (h1 : Cond.methodLink own idx y ∈ tbW) (h2 : Cond.static y ∈ tbW) (h3 : Cond.initialized y.cls ∈ tbW) (hb : b ∈ tbW) : GoodIn tbW (va_wsS own idx y (b :: tbW)) := by
  intro w hw
  unfold va_wsS at hw
  rcases List.mem_append.mp hw with h | h
  · simp only [List.mem_cons, List.not_mem_nil, or_false] at h
    rcases h with rfl | rfl | rfl
    · exact ⟨h1, tb_ok h1⟩
    · exact ⟨h2, tb_ok h2⟩
    · exact ⟨h3, tb_ok h3⟩
  · exact tb_good hb w h
theorem tb_hts {a : Cond} {args : Array Value} {s : State} (h : ∀ w ∈ a :: tbW, w.before args s = true) : ∀ w ∈ tbW, w.before args s = true := fun w hw => h w (List.mem_cons_of_mem _ hw)
abbrev classes : List vw_C := [(RX0, TX0, 5), (RX1, TX1, 4), (RX2, TX2, 6), (RX3, TX3, 14), (RX4, TX4, 33)]
def nvF : List (String × Nat × String × String × String × String) := [("NestedTags", 182, "NestedTags$Cursor", "length", "I", "NestedTags"), ("NestedTags", 123, "NestedTags$Cursor", "at", "I", "NestedTags"), ("NestedTags", 69, "NestedTags$Cursor", "fault", "I", "NestedTags"), ("NestedTags", 75, "NestedTags$Cursor", "faultPlace", "I", "NestedTags"), ("NestedTags", 72, "NestedTags$Pieces", "size", "I", "NestedTags"), ("NestedTags", 92, "NestedTags$Pieces", "attributes", "I", "NestedTags"), ("NestedTags", 103, "NestedTags$Names", "size", "I", "NestedTags")]
def nvM : List (String × Nat × MethodName × String) := [("NestedTags$Cursor", 66, yX3_digitOf, "NestedTags"), ("NestedTags$Cursor", 60, yX3_isNameStart, "NestedTags"), ("NestedTags$Cursor", 63, yX3_isNamePart, "NestedTags"), ("NestedTags$Cursor", 56, yX3_isBlank, "NestedTags"), ("NestedTags$Cursor", 75, yX3_isCharacter, "NestedTags")]
def nv (U : State) : Prop := (∀ q ∈ nvF, va_Nw (.fieldLinkNest q.1 q.2.1 q.2.2.1 q.2.2.2.1 q.2.2.2.2.1 q.2.2.2.2.2) U) ∧ ∀ q ∈ nvM, va_Nw (.methodLinkNest q.1 q.2.1 q.2.2.1 q.2.2.2) U
theorem nv.warm {s U : State} (hW : s.WarmedH U.vm) (h : nv s) : nv U := ⟨fun q hq => va_Nw.warmF hW (h.1 q hq), fun q hq => va_Nw.warmM hW (h.2 q hq)⟩
theorem nv.same {u U : State} (e : u.vm = U.vm) (h : nv u) : nv U := ⟨fun q hq => va_Nw.same rfl e (h.1 q hq), fun q hq => va_Nw.same rfl e (h.2 q hq)⟩
theorem nv_f {U : State} (h : nv U) (i : Nat) {q : String × Nat × String × String × String × String} (hq : nvF[i]? = some q) : va_Nw (.fieldLinkNest q.1 q.2.1 q.2.2.1 q.2.2.2.1 q.2.2.2.2.1 q.2.2.2.2.2) U := h.1 q (List.mem_of_getElem? hq)
theorem nv_m {U : State} (h : nv U) (i : Nat) {q : String × Nat × MethodName × String} (hq : nvM[i]? = some q) : va_Nw (.methodLinkNest q.1 q.2.1 q.2.2.1 q.2.2.2) U := h.2 q (List.mem_of_getElem? hq)
abbrev gP (D : va_G) (cI : ClassId) (ws : va_W) (sz : Nat) (U : State) : Prop := U.heap.size = sz ∧ va_P D classes ws U.heap ∧ va_K D classes [(cI, .int)] U ∧ va_D (fun _ => True) ws ∧ nv U
abbrev gB (D : va_G) (cI : ClassId) (A : Nat → Prop) (ws : va_W) (t : State) : Prop := va_P D classes ws t.heap ∧ va_K D classes [(cI, .int)] t ∧ va_D A ws
theorem gblind {D : va_G} {cI : ClassId} {ws : va_W} {sz : Nat} {av : List Value} : FrameBlind (va_Pc av (gP D cI ws sz)) := fun a U g mk q => by
  obtain ⟨q0, q1, q2, q3, q4, q5⟩ := q
  exact ⟨q0, q1, q2, va_K.moved (u := U) (U := U.calling g mk a) (Vm.Alike.refl U.vm) q3, q4, nv.same rfl q5⟩
theorem gpreV {s : State} {H : Heap} {D : va_G} {cI : ClassId} {wc : va_W} {A : Nat → Prop} {C : String} {b : Addr} {As : List Value} (hK : va_K D classes [(cI, .int)] s) (hN : nv s) (hP : va_P D classes wc H) (hD : va_D A wc) (hr : ∃ cell : Cell, H[b]? = some cell ∧ cell.vm.isStatics = false ∧ s.vm.findClass C = some cell.cls) : PreV s H C b (va_Pc (.ref b :: As) (gP D cI wc H.size)) As :=
  ⟨gblind, hr, fun U hU hW => ⟨rfl, by rw [hU], by rw [hU]; exact hP, va_K.moved hW.alike hK, hD.weaken (fun _ _ _ _ => trivial), nv.warm hW hN⟩⟩
theorem gpreS {s : State} {H : Heap} {D : va_G} {cI : ClassId} {wc : va_W} {A : Nat → Prop} {As : List Value} (hK : va_K D classes [(cI, .int)] s) (hN : nv s) (hP : va_P D classes wc H) (hD : va_D A wc) : PreS s H (va_Pc As (gP D cI wc H.size)) As :=
  ⟨gblind, fun U hU hW => ⟨rfl, by rw [hU], by rw [hU]; exact hP, va_K.moved hW.alike hK, hD.weaken (fun _ _ _ _ => trivial), nv.warm hW hN⟩⟩
theorem cA_eq {D : va_G} {s : State} {cI cA : ClassId} (h1 : va_K D classes [(cI, .int)] s) (h2 : va_K D classes ([(cI, .int)] ++ [(cA, .int)]) s) : cI = cA := by
  have a := va_nm_int (h1.2 0 _ rfl).2
  have b := va_nm_int (h2.2 1 _ rfl).2
  exact Option.some.inj (a.symm.trans b)
theorem vin_of {i : Int32} {N : Nat} (h0 : ¬ i < 0) (h1 : ¬ nI N ≤ i) (hN : N < 2 ^ 31) : vp_in i N := by
  rcases pk_ix i hN with h | h | ⟨j, hj, rfl⟩
  · exact absurd h h0
  · exact absurd h h1
  · exact vp_in_nI hj hN
theorem nb01 {v : Int32} (h : v = 0 ∨ v = 1) : narrow .boolean (.int v) = .int v := by
  rcases h with rfl | rfl <;> rfl
section GCALL
variable {p : Program} {l : Launch} {e : Env} {R : Room} {s : State} {m : MethodId} {args : Array Value} {below : List Frame} {meth : Method} {c : Code} {H : Heap} {locs : List Loc} {cells slots : Nat} {Q : State → Prop}
variable {D : va_G} {cI : ClassId} {A : Nat → Prop} {ws wc wr : va_W} {pc : Nat} {ls : Array Slot} {rest st0 : List Value} {a : Array Value} {mc ms : Nat}
theorem gcall_i {S : Type} {post : Int32 → S → Prop} {out : S → va_W}
    (hr : va_Run p l e R s m args below meth c H locs cells slots mc ms (F0 m pc ls st0) rest (va_Qi post (fun u => gB D cI (va_A wc H.size) (out u)) (va_A wc H.size) a) (va_A wc H.size))
    (hP : va_P D classes ws H) (hD : va_D A ws) (hS : va_S A s.heap H locs) (hA : ∀ q, s.heap.size ≤ q → A q)
    (isC isR : List Nat) (hC : isC.map (fun i => ws[i]?) = wc.map some) (hR : isR.map (fun i => ws[i]?) = wr.map some) (hn : va_nd isR = true) (hdis : ∀ i ∈ isR, i ∉ isC)
    (kk : ∀ (r : Int32) (u : S) (H1 : Heap) (locs1 : List Loc), post r u → va_P D classes (wr ++ out u) H1 → va_D A (wr ++ out u) → va_S A s.heap H1 locs1 → W p l e R s m args below meth c H1 locs1 (cells + mc) (slots + ms) Q (F0 m (pc + 3) ls (.int r :: rest))) :
    W p l e R s m args below meth c H locs cells slots Q (F0 m pc ls st0) := by
  have hF := va_free (wc := wc) hD hS hA isC hC
  refine va_calli hr hS (fun q _ h => hF q h) hF (fun r u t H1 locs1 ht hvm hw hB hz1 hk1 hS1 => ?_)
  obtain ⟨hP1, -, hD1⟩ := hB
  rw [ht] at hP1
  obtain ⟨hP2, hD2⟩ := va_join (wr := wr) (w1 := out u) hP hD isC isR hC hR hn hdis hk1 hF hP1 hD1
  exact kk r u H1 locs1 hw hP2 hD2 hS1
theorem gcall_v {S : Type} {post : S → Prop} {out : S → va_W}
    (hr : va_Run p l e R s m args below meth c H locs cells slots mc ms (F0 m pc ls st0) rest (va_Qv post (fun u => gB D cI (va_A wc H.size) (out u)) (va_A wc H.size) a) (va_A wc H.size))
    (hP : va_P D classes ws H) (hD : va_D A ws) (hS : va_S A s.heap H locs) (hA : ∀ q, s.heap.size ≤ q → A q)
    (isC isR : List Nat) (hC : isC.map (fun i => ws[i]?) = wc.map some) (hR : isR.map (fun i => ws[i]?) = wr.map some) (hn : va_nd isR = true) (hdis : ∀ i ∈ isR, i ∉ isC)
    (kk : ∀ (u : S) (H1 : Heap) (locs1 : List Loc), post u → va_P D classes (wr ++ out u) H1 → va_D A (wr ++ out u) → va_S A s.heap H1 locs1 → W p l e R s m args below meth c H1 locs1 (cells + mc) (slots + ms) Q (F0 m (pc + 3) ls rest)) :
    W p l e R s m args below meth c H locs cells slots Q (F0 m pc ls st0) := by
  have hF := va_free (wc := wc) hD hS hA isC hC
  refine va_callv hr hS (fun q _ h => hF q h) hF (fun u t H1 locs1 ht hvm hw hB hz1 hk1 hS1 => ?_)
  obtain ⟨hP1, -, hD1⟩ := hB
  rw [ht] at hP1
  obtain ⟨hP2, hD2⟩ := va_join (wr := wr) (w1 := out u) hP hD isC isR hC hR hn hdis hk1 hF hP1 hD1
  exact kk u H1 locs1 hw hP2 hD2 hS1
theorem gcall_r {S : Type} {post : S → Prop} {out : S → va_W} {rp : S → Nat → Prop}
    (hr : va_Run p l e R s m args below meth c H locs cells slots mc ms (F0 m pc ls st0) rest (va_Qr post (fun u ra t => gB D cI (va_A wc H.size) (out u) t ∧ rp u ra) (va_A wc H.size) a) (va_A wc H.size))
    (hP : va_P D classes ws H) (hD : va_D A ws) (hS : va_S A s.heap H locs) (hA : ∀ q, s.heap.size ≤ q → A q)
    (isC isR : List Nat) (hC : isC.map (fun i => ws[i]?) = wc.map some) (hR : isR.map (fun i => ws[i]?) = wr.map some) (hn : va_nd isR = true) (hdis : ∀ i ∈ isR, i ∉ isC)
    (kk : ∀ (u : S) (ra : Nat) (H1 : Heap) (locs1 : List Loc), (post u ∧ rp u ra) → va_P D classes (wr ++ out u) H1 → va_D A (wr ++ out u) → va_S A s.heap H1 locs1 → W p l e R s m args below meth c H1 locs1 (cells + mc) (slots + ms) Q (F0 m (pc + 3) ls (.ref ra :: rest))) :
    W p l e R s m args below meth c H locs cells slots Q (F0 m pc ls st0) := by
  have hF := va_free (wc := wc) hD hS hA isC hC
  refine va_callr hr hS (fun q _ h => hF q h) hF (fun u ra t H1 locs1 ht hvm hw hB hz1 hk1 hS1 => ?_)
  obtain ⟨⟨hP1, -, hD1⟩, hrp⟩ := hB
  rw [ht] at hP1
  obtain ⟨hP2, hD2⟩ := va_join (wr := wr) (w1 := out u) hP hD isC isR hC hR hn hdis hk1 hF hP1 hD1
  exact kk u ra H1 locs1 ⟨hw, hrp⟩ hP2 hD2 hS1
end GCALL
theorem nv_t1 {w : Cond} (i : Nat) (h : tables_1_1[i]? = some w) : w ∈ lw_tbl := List.mem_append_right _ (List.mem_append_left _ (List.mem_of_getElem? h))
theorem nv_t2 {w : Cond} (i : Nat) (h : tables_1_2[i]? = some w) : w ∈ lw_tbl := List.mem_append_right _ (List.mem_append_right _ (List.mem_append_left _ (List.mem_of_getElem? h)))
theorem nv_t3 {w : Cond} (i : Nat) (h : tables_1_3[i]? = some w) : w ∈ lw_tbl := List.mem_append_right _ (List.mem_append_right _ (List.mem_append_right _ (List.mem_append_left _ (List.mem_of_getElem? h))))
theorem nv_of {args : Array Value} {s : State} (hts : ∀ w ∈ lw_tbl, w.before args s = true) : nv s := by
  refine ⟨fun q hq => ?_, fun q hq => ?_⟩
  · simp only [nvF, List.mem_cons, List.not_mem_nil, or_false] at hq
    rcases hq with rfl | rfl | rfl | rfl | rfl | rfl | rfl
    · exact va_Nw.of rfl (hts _ (nv_t1 27 rfl))
    · exact va_Nw.of rfl (hts _ (nv_t1 29 rfl))
    · exact va_Nw.of rfl (hts _ (nv_t1 31 rfl))
    · exact va_Nw.of rfl (hts _ (nv_t1 33 rfl))
    · exact va_Nw.of rfl (hts _ (nv_t1 57 rfl))
    · exact va_Nw.of rfl (hts _ (nv_t1 59 rfl))
    · exact va_Nw.of rfl (hts _ (nv_t1 86 rfl))
  · simp only [nvM, List.mem_cons, List.not_mem_nil, or_false] at hq
    rcases hq with rfl | rfl | rfl | rfl | rfl
    · exact va_Nw.of rfl (hts _ (nv_t2 22 rfl))
    · exact va_Nw.of rfl (hts _ (nv_t2 40 rfl))
    · exact va_Nw.of rfl (hts _ (nv_t2 43 rfl))
    · exact va_Nw.of rfl (hts _ (nv_t2 75 rfl))
    · exact va_Nw.of rfl (hts _ (nv_t2 139 rfl))
theorem kk_0_0 : Cond.selects "NestedTags" yX3_beginText yX3_beginText ∈ tbW := tb_0 0 rfl rfl
theorem kk_0_22 : Cond.selects "NestedTags" yX3_endText yX3_endText ∈ tbW := tb_0 22 rfl rfl
theorem kk_0_25 : Cond.selects "NestedTagsModel" yX4_wrong yX4_wrong ∈ tbW := tb_0 25 rfl rfl
theorem kk_0_26 : Cond.selects "NestedTagsModel" yX4_fail yX4_fail ∈ tbW := tb_0 26 rfl rfl
theorem kk_1_1 : Cond.initialized "NestedTags" ∈ tbW := tb_1 1 rfl rfl
theorem kk_1_2 : Cond.initialized "NestedTags$Cursor" ∈ tbW := tb_1 2 rfl rfl
theorem kk_1_3 : Cond.initialized "NestedTags$Pieces" ∈ tbW := tb_1 3 rfl rfl
theorem kk_1_4 : Cond.initialized "NestedTags$Names" ∈ tbW := tb_1 4 rfl rfl
theorem kk_1_5 : Cond.initialized "java/lang/Math" ∈ tbW := tb_1 5 rfl rfl
theorem kk_1_6 : Cond.initialized "NestedTagsModel" ∈ tbW := tb_1 6 rfl rfl
theorem kk_1_11 : Cond.classLink "NestedTagsLaw" 7 "NestedTags" ∈ tbW := tb_1 11 rfl rfl
theorem kk_1_12 : Cond.instantiable "NestedTags" 14 ∈ tbW := tb_1 12 rfl rfl
theorem kk_1_13 : Cond.methodLink "NestedTagsLaw" 9 yX3_init ∈ tbW := tb_1 13 rfl rfl
theorem kk_1_14 : Cond.instanceMethod yX3_init ∈ tbW := tb_1 14 rfl rfl
theorem kk_1_15 : Cond.code yX3_init cX3_init 1 none ∈ tbW := tb_1 15 rfl rfl
theorem kk_1_16 : Cond.methodLink "NestedTags" 1 objectInit ∈ tbW := tb_1 16 rfl rfl
theorem kk_1_17 : Cond.instanceMethod objectInit ∈ tbW := tb_1 17 rfl rfl
theorem kk_1_19 : Cond.classLink "NestedTags" 13 "NestedTags$Cursor" ∈ tbW := tb_1 19 rfl rfl
theorem kk_1_20 : Cond.instantiable "NestedTags$Cursor" 5 ∈ tbW := tb_1 20 rfl rfl
theorem kk_1_21 : Cond.methodLink "NestedTags" 15 yX0_init ∈ tbW := tb_1 21 rfl rfl
theorem kk_1_22 : Cond.instanceMethod yX0_init ∈ tbW := tb_1 22 rfl rfl
theorem kk_1_23 : Cond.code yX0_init cX0_init 1 none ∈ tbW := tb_1 23 rfl rfl
theorem kk_1_24 : Cond.methodLink "NestedTags$Cursor" 3 objectInit ∈ tbW := tb_1 24 rfl rfl
theorem kk_1_25 : Cond.fieldLink "NestedTags$Cursor" 9 "NestedTags$Cursor" "bytes" "[I" ∈ tbW := tb_1 25 rfl rfl
theorem kk_1_26 : Cond.fieldLink "NestedTags$Cursor" 22 "NestedTags$Cursor" "length" "I" ∈ tbW := tb_1 26 rfl rfl
theorem kk_1_28 : Cond.fieldLink "NestedTags$Cursor" 25 "NestedTags$Cursor" "at" "I" ∈ tbW := tb_1 28 rfl rfl
theorem kk_1_30 : Cond.fieldLink "NestedTags$Cursor" 15 "NestedTags$Cursor" "fault" "I" ∈ tbW := tb_1 30 rfl rfl
theorem kk_1_32 : Cond.fieldLink "NestedTags$Cursor" 19 "NestedTags$Cursor" "faultPlace" "I" ∈ tbW := tb_1 32 rfl rfl
theorem kk_1_45 : Cond.arrayClass .int ∈ tbW := tb_1 45 rfl rfl
theorem kk_1_46 : Cond.classLink "NestedTags" 20 "NestedTags$Pieces" ∈ tbW := tb_1 46 rfl rfl
theorem kk_1_47 : Cond.instantiable "NestedTags$Pieces" 6 ∈ tbW := tb_1 47 rfl rfl
theorem kk_1_48 : Cond.methodLink "NestedTags" 22 yX2_init ∈ tbW := tb_1 48 rfl rfl
theorem kk_1_49 : Cond.instanceMethod yX2_init ∈ tbW := tb_1 49 rfl rfl
theorem kk_1_50 : Cond.code yX2_init cX2_init 1 none ∈ tbW := tb_1 50 rfl rfl
theorem kk_1_51 : Cond.methodLink "NestedTags$Pieces" 3 objectInit ∈ tbW := tb_1 51 rfl rfl
theorem kk_1_52 : Cond.fieldLink "NestedTags$Pieces" 9 "NestedTags$Pieces" "kinds" "[I" ∈ tbW := tb_1 52 rfl rfl
theorem kk_1_53 : Cond.fieldLink "NestedTags$Pieces" 15 "NestedTags$Pieces" "begins" "[I" ∈ tbW := tb_1 53 rfl rfl
theorem kk_1_54 : Cond.fieldLink "NestedTags$Pieces" 18 "NestedTags$Pieces" "ends" "[I" ∈ tbW := tb_1 54 rfl rfl
theorem kk_1_55 : Cond.fieldLink "NestedTags$Pieces" 21 "NestedTags$Pieces" "depths" "[I" ∈ tbW := tb_1 55 rfl rfl
theorem kk_1_56 : Cond.fieldLink "NestedTags$Pieces" 24 "NestedTags$Pieces" "size" "I" ∈ tbW := tb_1 56 rfl rfl
theorem kk_1_58 : Cond.fieldLink "NestedTags$Pieces" 28 "NestedTags$Pieces" "attributes" "I" ∈ tbW := tb_1 58 rfl rfl
theorem kk_1_73 : Cond.classLink "NestedTags" 27 "NestedTags$Names" ∈ tbW := tb_1 73 rfl rfl
theorem kk_1_74 : Cond.instantiable "NestedTags$Names" 4 ∈ tbW := tb_1 74 rfl rfl
theorem kk_1_75 : Cond.methodLink "NestedTags" 29 yX1_init ∈ tbW := tb_1 75 rfl rfl
theorem kk_1_76 : Cond.instanceMethod yX1_init ∈ tbW := tb_1 76 rfl rfl
theorem kk_1_77 : Cond.code yX1_init cX1_init 2 none ∈ tbW := tb_1 77 rfl rfl
theorem kk_1_78 : Cond.methodLink "NestedTags$Names" 1 objectInit ∈ tbW := tb_1 78 rfl rfl
theorem kk_1_79 : Cond.methodLink "NestedTags$Names" 7 Lib.Math.max.name ∈ tbW := tb_1 79 rfl rfl
theorem kk_1_80 : Cond.static Lib.Math.max.name ∈ tbW := tb_1 80 rfl rfl
theorem kk_1_82 : Cond.fieldLink "NestedTags$Names" 19 "NestedTags$Names" "begins" "[I" ∈ tbW := tb_1 82 rfl rfl
theorem kk_1_83 : Cond.fieldLink "NestedTags$Names" 23 "NestedTags$Names" "ends" "[I" ∈ tbW := tb_1 83 rfl rfl
theorem kk_1_84 : Cond.fieldLink "NestedTags$Names" 13 "NestedTags$Names" "limit" "I" ∈ tbW := tb_1 84 rfl rfl
theorem kk_1_85 : Cond.fieldLink "NestedTags$Names" 26 "NestedTags$Names" "size" "I" ∈ tbW := tb_1 85 rfl rfl
theorem kk_1_96 : Cond.fieldLink "NestedTags" 9 "NestedTags" "coming" "[I" ∈ tbW := tb_1 96 rfl rfl
theorem kk_1_97 : Cond.fieldLink "NestedTags" 43 "NestedTags" "comingLength" "I" ∈ tbW := tb_1 97 rfl rfl
theorem kk_1_98 : Cond.fieldLink "NestedTags" 16 "NestedTags" "cursor" "LNestedTags$Cursor;" ∈ tbW := tb_1 98 rfl rfl
theorem kk_1_99 : Cond.fieldLink "NestedTags" 23 "NestedTags" "pieces" "LNestedTags$Pieces;" ∈ tbW := tb_1 99 rfl rfl
theorem kk_1_100 : Cond.fieldLink "NestedTags" 32 "NestedTags" "openElements" "LNestedTags$Names;" ∈ tbW := tb_1 100 rfl rfl
theorem kk_1_101 : Cond.fieldLink "NestedTags" 36 "NestedTags" "tagAttributes" "LNestedTags$Names;" ∈ tbW := tb_1 101 rfl rfl
theorem kk_1_102 : Cond.fieldLink "NestedTags" 86 "NestedTags" "elements" "I" ∈ tbW := tb_1 102 rfl rfl
theorem kk_1_103 : Cond.fieldLink "NestedTags" 89 "NestedTags" "mostOpen" "I" ∈ tbW := tb_1 103 rfl rfl
theorem kk_1_104 : Cond.fieldLink "NestedTags" 56 "NestedTags" "inTag" "Z" ∈ tbW := tb_1 104 rfl rfl
theorem kk_1_109 : Cond.fieldLink "NestedTags" 39 "NestedTags" "quote" "I" ∈ tbW := tb_1 109 rfl rfl
theorem kk_1_139 : Cond.methodLink "NestedTagsLaw" 15 yX3_put ∈ tbW := tb_1 139 rfl rfl
theorem kk_1_140 : Cond.instanceMethod yX3_put ∈ tbW := tb_1 140 rfl rfl
theorem kk_1_141 : Cond.selects "NestedTags" yX3_put yX3_put ∈ tbW := tb_1 141 rfl rfl
theorem kk_1_142 : Cond.code yX3_put cX3_put 5 (some .boolean) ∈ tbW := tb_1 142 rfl rfl
theorem kk_1_143 : Cond.methodLink "NestedTagsLaw" 20 yX3_read ∈ tbW := tb_1 143 rfl rfl
theorem kk_1_144 : Cond.instanceMethod yX3_read ∈ tbW := tb_1 144 rfl rfl
theorem kk_1_145 : Cond.selects "NestedTags" yX3_read yX3_read ∈ tbW := tb_1 145 rfl rfl
theorem kk_1_146 : Cond.code yX3_read cX3_read 2 (some .int) ∈ tbW := tb_1 146 rfl rfl
theorem kk_1_147 : Cond.methodLink "NestedTags" 46 yX3_beginText ∈ tbW := tb_1 147 rfl rfl
theorem kk_1_149 : Cond.instanceMethod yX3_beginText ∈ tbW := tb_1 149 rfl rfl
theorem kk_1_150 : Cond.code yX3_beginText cX3_beginText 1 none ∈ tbW := tb_1 150 rfl rfl
theorem kk_1_151 : Cond.methodLink "NestedTags" 95 yX0_begin ∈ tbW := tb_1 151 rfl rfl
theorem kk_1_152 : Cond.instanceMethod yX0_begin ∈ tbW := tb_1 152 rfl rfl
theorem kk_1_153 : Cond.selects "NestedTags$Cursor" yX0_begin yX0_begin ∈ tbW := tb_1 153 rfl rfl
theorem kk_1_154 : Cond.code yX0_begin cX0_begin 4 (some (.array .int)) ∈ tbW := tb_1 154 rfl rfl
theorem kk_1_155 : Cond.methodLink "NestedTags" 99 yX2_clear ∈ tbW := tb_1 155 rfl rfl
theorem kk_1_156 : Cond.instanceMethod yX2_clear ∈ tbW := tb_1 156 rfl rfl
theorem kk_1_157 : Cond.selects "NestedTags$Pieces" yX2_clear yX2_clear ∈ tbW := tb_1 157 rfl rfl
theorem kk_1_158 : Cond.code yX2_clear cX2_clear 1 none ∈ tbW := tb_1 158 rfl rfl
theorem kk_1_159 : Cond.methodLink "NestedTags" 102 yX1_clear ∈ tbW := tb_1 159 rfl rfl
theorem kk_1_160 : Cond.instanceMethod yX1_clear ∈ tbW := tb_1 160 rfl rfl
theorem kk_1_161 : Cond.selects "NestedTags$Names" yX1_clear yX1_clear ∈ tbW := tb_1 161 rfl rfl
theorem kk_1_162 : Cond.code yX1_clear cX1_clear 1 none ∈ tbW := tb_1 162 rfl rfl
theorem kk_1_163 : Cond.methodLink "NestedTags" 49 yX0_goesOn ∈ tbW := tb_1 163 rfl rfl
theorem kk_1_164 : Cond.instanceMethod yX0_goesOn ∈ tbW := tb_1 164 rfl rfl
theorem kk_1_165 : Cond.selects "NestedTags$Cursor" yX0_goesOn yX0_goesOn ∈ tbW := tb_1 165 rfl rfl
theorem kk_1_166 : Cond.code yX0_goesOn cX0_goesOn 1 (some .boolean) ∈ tbW := tb_1 166 rfl rfl
theorem kk_1_176 : Cond.instanceMethod yX0_byteAt ∈ tbW := tb_1 176 rfl rfl
theorem kk_1_177 : Cond.selects "NestedTags$Cursor" yX0_byteAt yX0_byteAt ∈ tbW := tb_1 177 rfl rfl
theorem kk_1_178 : Cond.code yX0_byteAt cX0_byteAt 2 (some .int) ∈ tbW := tb_1 178 rfl rfl
theorem kk_1_188 : Cond.instanceMethod yX0_fail ∈ tbW := tb_1 188 rfl rfl
theorem kk_1_189 : Cond.selects "NestedTags$Cursor" yX0_fail yX0_fail ∈ tbW := tb_1 189 rfl rfl
theorem kk_1_190 : Cond.code yX0_fail cX0_fail 3 (some .boolean) ∈ tbW := tb_1 190 rfl rfl
theorem kk_2_10 : Cond.instanceMethod yX0_failHere ∈ tbW := tb_2 10 rfl rfl
theorem kk_2_11 : Cond.selects "NestedTags$Cursor" yX0_failHere yX0_failHere ∈ tbW := tb_2 11 rfl rfl
theorem kk_2_12 : Cond.code yX0_failHere cX0_failHere 1 (some .boolean) ∈ tbW := tb_2 12 rfl rfl
theorem kk_2_13 : Cond.methodLink "NestedTags$Cursor" 32 yX0_fail ∈ tbW := tb_2 13 rfl rfl
theorem kk_2_28 : Cond.methodLink "NestedTags" 104 yX0_failHere ∈ tbW := tb_2 28 rfl rfl
theorem kk_2_124 : Cond.methodLink "NestedTags" 82 yX0_byteAt ∈ tbW := tb_2 124 rfl rfl
theorem kk_2_181 : Cond.methodLink "NestedTags" 66 yX3_endText ∈ tbW := tb_2 181 rfl rfl
theorem kk_2_183 : Cond.instanceMethod yX3_endText ∈ tbW := tb_2 183 rfl rfl
theorem kk_2_184 : Cond.code yX3_endText cX3_endText 2 none ∈ tbW := tb_2 184 rfl rfl
theorem kk_2_186 : Cond.methodLink "NestedTagsLaw" 25 yX3_place ∈ tbW := tb_2 186 rfl rfl
theorem kk_2_187 : Cond.instanceMethod yX3_place ∈ tbW := tb_2 187 rfl rfl
theorem kk_2_188 : Cond.selects "NestedTags" yX3_place yX3_place ∈ tbW := tb_2 188 rfl rfl
theorem kk_2_189 : Cond.code yX3_place cX3_place 1 (some .int) ∈ tbW := tb_2 189 rfl rfl
theorem kk_2_190 : Cond.methodLink "NestedTagsLaw" 29 yX3_piece ∈ tbW := tb_2 190 rfl rfl
theorem kk_2_191 : Cond.instanceMethod yX3_piece ∈ tbW := tb_2 191 rfl rfl
theorem kk_2_192 : Cond.selects "NestedTags" yX3_piece yX3_piece ∈ tbW := tb_2 192 rfl rfl
theorem kk_2_193 : Cond.code yX3_piece cX3_piece 3 (some .int) ∈ tbW := tb_2 193 rfl rfl
theorem kk_2_194 : Cond.methodLink "NestedTags" 78 yX2_tell ∈ tbW := tb_2 194 rfl rfl
theorem kk_2_195 : Cond.instanceMethod yX2_tell ∈ tbW := tb_2 195 rfl rfl
theorem kk_2_196 : Cond.selects "NestedTags$Pieces" yX2_tell yX2_tell ∈ tbW := tb_2 196 rfl rfl
theorem kk_2_197 : Cond.code yX2_tell cX2_tell 3 (some .int) ∈ tbW := tb_2 197 rfl rfl
theorem kk_2_198 : Cond.methodLink "NestedTagsLaw" 34 yX3_byteOf ∈ tbW := tb_2 198 rfl rfl
theorem kk_2_199 : Cond.instanceMethod yX3_byteOf ∈ tbW := tb_2 199 rfl rfl
theorem kk_2_200 : Cond.selects "NestedTags" yX3_byteOf yX3_byteOf ∈ tbW := tb_2 200 rfl rfl
theorem kk_2_201 : Cond.code yX3_byteOf cX3_byteOf 2 (some .int) ∈ tbW := tb_2 201 rfl rfl
theorem kk_2_202 : Cond.methodLink "NestedTagsLaw" 39 yX3_count ∈ tbW := tb_2 202 rfl rfl
theorem kk_2_203 : Cond.instanceMethod yX3_count ∈ tbW := tb_2 203 rfl rfl
theorem kk_2_204 : Cond.selects "NestedTags" yX3_count yX3_count ∈ tbW := tb_2 204 rfl rfl
theorem kk_2_205 : Cond.code yX3_count cX3_count 2 (some .int) ∈ tbW := tb_2 205 rfl rfl
theorem kk_2_206 : Cond.classLink "NestedTagsLaw" 10 "NestedTagsModel" ∈ tbW := tb_2 206 rfl rfl
theorem kk_2_207 : Cond.instantiable "NestedTagsModel" 33 ∈ tbW := tb_2 207 rfl rfl
theorem kk_2_208 : Cond.methodLink "NestedTagsLaw" 12 yX4_init ∈ tbW := tb_2 208 rfl rfl
theorem kk_2_209 : Cond.instanceMethod yX4_init ∈ tbW := tb_2 209 rfl rfl
theorem kk_2_210 : Cond.code yX4_init cX4_init 1 none ∈ tbW := tb_2 210 rfl rfl
theorem kk_2_211 : Cond.methodLink "NestedTagsModel" 1 objectInit ∈ tbW := tb_2 211 rfl rfl
theorem kk_2_212 : Cond.fieldLink "NestedTagsModel" 7 "NestedTagsModel" "text" "[I" ∈ tbW := tb_2 212 rfl rfl
theorem kk_2_213 : Cond.fieldLink "NestedTagsModel" 44 "NestedTagsModel" "size" "I" ∈ tbW := tb_2 213 rfl rfl
theorem kk_2_214 : Cond.fieldLink "NestedTagsModel" 13 "NestedTagsModel" "read" "[I" ∈ tbW := tb_2 214 rfl rfl
theorem kk_2_215 : Cond.fieldLink "NestedTagsModel" 234 "NestedTagsModel" "length" "I" ∈ tbW := tb_2 215 rfl rfl
theorem kk_2_216 : Cond.fieldLink "NestedTagsModel" 66 "NestedTagsModel" "pieces" "I" ∈ tbW := tb_2 216 rfl rfl
theorem kk_2_217 : Cond.fieldLink "NestedTagsModel" 16 "NestedTagsModel" "kinds" "[I" ∈ tbW := tb_2 217 rfl rfl
theorem kk_2_218 : Cond.fieldLink "NestedTagsModel" 19 "NestedTagsModel" "begins" "[I" ∈ tbW := tb_2 218 rfl rfl
theorem kk_2_219 : Cond.fieldLink "NestedTagsModel" 22 "NestedTagsModel" "ends" "[I" ∈ tbW := tb_2 219 rfl rfl
theorem kk_2_220 : Cond.fieldLink "NestedTagsModel" 25 "NestedTagsModel" "depths" "[I" ∈ tbW := tb_2 220 rfl rfl
theorem kk_2_221 : Cond.fieldLink "NestedTagsModel" 72 "NestedTagsModel" "open" "I" ∈ tbW := tb_2 221 rfl rfl
theorem kk_2_222 : Cond.fieldLink "NestedTagsModel" 28 "NestedTagsModel" "names" "[I" ∈ tbW := tb_2 222 rfl rfl
theorem kk_2_223 : Cond.fieldLink "NestedTagsModel" 31 "NestedTagsModel" "sizes" "[I" ∈ tbW := tb_2 223 rfl rfl
theorem kk_2_224 : Cond.fieldLink "NestedTagsModel" 121 "NestedTagsModel" "attributes" "I" ∈ tbW := tb_2 224 rfl rfl
theorem kk_2_225 : Cond.fieldLink "NestedTagsModel" 34 "NestedTagsModel" "attributeAt" "[I" ∈ tbW := tb_2 225 rfl rfl
theorem kk_2_226 : Cond.fieldLink "NestedTagsModel" 37 "NestedTagsModel" "attributeSize" "[I" ∈ tbW := tb_2 226 rfl rfl
theorem kk_2_227 : Cond.fieldLink "NestedTagsModel" 118 "NestedTagsModel" "elements" "I" ∈ tbW := tb_2 227 rfl rfl
theorem kk_2_228 : Cond.fieldLink "NestedTagsModel" 102 "NestedTagsModel" "most" "I" ∈ tbW := tb_2 228 rfl rfl
theorem kk_2_229 : Cond.fieldLink "NestedTagsModel" 133 "NestedTagsModel" "values" "I" ∈ tbW := tb_2 229 rfl rfl
theorem kk_2_230 : Cond.fieldLink "NestedTagsModel" 40 "NestedTagsModel" "place" "I" ∈ tbW := tb_2 230 rfl rfl
theorem kk_2_231 : Cond.fieldLink "NestedTagsModel" 79 "NestedTagsModel" "phase" "I" ∈ tbW := tb_2 231 rfl rfl
theorem kk_2_232 : Cond.fieldLink "NestedTagsModel" 56 "NestedTagsModel" "state" "I" ∈ tbW := tb_2 232 rfl rfl
theorem kk_2_233 : Cond.fieldLink "NestedTagsModel" 59 "NestedTagsModel" "at" "I" ∈ tbW := tb_2 233 rfl rfl
theorem kk_2_239 : Cond.fieldLink "NestedTagsModel" 130 "NestedTagsModel" "quote" "I" ∈ tbW := tb_2 239 rfl rfl
theorem kk_3_0 : Cond.fieldLink "NestedTagsModel" 149 "NestedTagsModel" "characters" "I" ∈ tbW := tb_3 0 rfl rfl
theorem kk_3_1 : Cond.fieldLink "NestedTagsModel" 152 "NestedTagsModel" "brackets" "I" ∈ tbW := tb_3 1 rfl rfl
theorem kk_3_4 : Cond.fieldLink "NestedTagsModel" 53 "NestedTagsModel" "fault" "I" ∈ tbW := tb_3 4 rfl rfl
theorem kk_3_72 : Cond.methodLink "NestedTagsLaw" 19 yX4_put ∈ tbW := tb_3 72 rfl rfl
theorem kk_3_73 : Cond.instanceMethod yX4_put ∈ tbW := tb_3 73 rfl rfl
theorem kk_3_74 : Cond.selects "NestedTagsModel" yX4_put yX4_put ∈ tbW := tb_3 74 rfl rfl
theorem kk_3_75 : Cond.code yX4_put cX4_put 5 (some .boolean) ∈ tbW := tb_3 75 rfl rfl
theorem kk_3_76 : Cond.constantLong "NestedTagsModel" 47 255 ∈ tbW := tb_3 76 rfl rfl
theorem kk_3_77 : Cond.methodLink "NestedTagsLaw" 24 yX4_read ∈ tbW := tb_3 77 rfl rfl
theorem kk_3_78 : Cond.instanceMethod yX4_read ∈ tbW := tb_3 78 rfl rfl
theorem kk_3_79 : Cond.selects "NestedTagsModel" yX4_read yX4_read ∈ tbW := tb_3 79 rfl rfl
theorem kk_3_80 : Cond.code yX4_read cX4_read 2 (some .int) ∈ tbW := tb_3 80 rfl rfl
theorem kk_3_92 : Cond.methodLink "NestedTagsModel" 92 yX4_wrong ∈ tbW := tb_3 92 rfl rfl
theorem kk_3_94 : Cond.instanceMethod yX4_wrong ∈ tbW := tb_3 94 rfl rfl
theorem kk_3_95 : Cond.code yX4_wrong cX4_wrong 1 (some .int) ∈ tbW := tb_3 95 rfl rfl
theorem kk_3_96 : Cond.methodLink "NestedTagsModel" 62 yX4_fail ∈ tbW := tb_3 96 rfl rfl
theorem kk_3_98 : Cond.instanceMethod yX4_fail ∈ tbW := tb_3 98 rfl rfl
theorem kk_3_99 : Cond.code yX4_fail cX4_fail 3 (some .int) ∈ tbW := tb_3 99 rfl rfl
theorem kk_3_223 : Cond.methodLink "NestedTagsLaw" 28 yX4_place ∈ tbW := tb_3 223 rfl rfl
theorem kk_3_224 : Cond.instanceMethod yX4_place ∈ tbW := tb_3 224 rfl rfl
theorem kk_3_225 : Cond.selects "NestedTagsModel" yX4_place yX4_place ∈ tbW := tb_3 225 rfl rfl
theorem kk_3_226 : Cond.code yX4_place cX4_place 1 (some .int) ∈ tbW := tb_3 226 rfl rfl
theorem kk_3_227 : Cond.methodLink "NestedTagsLaw" 33 yX4_piece ∈ tbW := tb_3 227 rfl rfl
theorem kk_3_228 : Cond.instanceMethod yX4_piece ∈ tbW := tb_3 228 rfl rfl
theorem kk_3_229 : Cond.selects "NestedTagsModel" yX4_piece yX4_piece ∈ tbW := tb_3 229 rfl rfl
theorem kk_3_230 : Cond.code yX4_piece cX4_piece 3 (some .int) ∈ tbW := tb_3 230 rfl rfl
theorem kk_3_231 : Cond.methodLink "NestedTagsLaw" 38 yX4_byteOf ∈ tbW := tb_3 231 rfl rfl
theorem kk_3_232 : Cond.instanceMethod yX4_byteOf ∈ tbW := tb_3 232 rfl rfl
theorem kk_3_233 : Cond.selects "NestedTagsModel" yX4_byteOf yX4_byteOf ∈ tbW := tb_3 233 rfl rfl
theorem kk_3_234 : Cond.code yX4_byteOf cX4_byteOf 2 (some .int) ∈ tbW := tb_3 234 rfl rfl
theorem kk_3_235 : Cond.methodLink "NestedTagsLaw" 42 yX4_count ∈ tbW := tb_3 235 rfl rfl
theorem kk_3_236 : Cond.instanceMethod yX4_count ∈ tbW := tb_3 236 rfl rfl
theorem kk_3_237 : Cond.selects "NestedTagsModel" yX4_count yX4_count ∈ tbW := tb_3 237 rfl rfl
theorem kk_3_238 : Cond.code yX4_count cX4_count 2 (some .int) ∈ tbW := tb_3 238 rfl rfl
theorem kk_3_239 : Cond.constantLong "NestedTagsLaw" 13 4294967295 ∈ tbW := tb_3 239 rfl rfl
theorem kk_obj : Cond.code objectInit ⟨#[0xb1]⟩ 1 none ∈ tbW := tb_1 18 rfl rfl
theorem kk_mmax : Cond.code Lib.Math.max.name Lib.Math.max.code 2 (some .int) ∈ tbW := tb_1 81 rfl rfl
theorem kk_mmin : Cond.code Lib.Math.min.name Lib.Math.min.code 2 (some .int) ∈ tbW := tb_2 27 rfl rfl
theorem inX0 : ∀ w ∈ wsX00, w ∈ tbW := fun w h => tb_mem ((by decide +kernel : ∀ w ∈ wsX00, w ∈ tables_1) w h |> List.mem_append_right _) ((by decide +kernel : ∀ w ∈ wsX00, goodWord w = true) w h)
theorem inX1 : ∀ w ∈ wsX10, w ∈ tbW := fun w h => tb_mem ((by decide +kernel : ∀ w ∈ wsX10, w ∈ tables_1) w h |> List.mem_append_right _) ((by decide +kernel : ∀ w ∈ wsX10, goodWord w = true) w h)
theorem inX2 : ∀ w ∈ wsX20, w ∈ tbW := fun w h => tb_mem ((by decide +kernel : ∀ w ∈ wsX20, w ∈ tables_1) w h |> List.mem_append_right _) ((by decide +kernel : ∀ w ∈ wsX20, goodWord w = true) w h)
theorem inX3 : ∀ w ∈ wsX30, w ∈ tbW := fun w h => tb_mem ((by decide +kernel : ∀ w ∈ wsX30, w ∈ tables_1) w h |> List.mem_append_right _) ((by decide +kernel : ∀ w ∈ wsX30, goodWord w = true) w h)
theorem inX4 : ∀ w ∈ wsX40, w ∈ tbW := fun w h => tb_mem ((by decide +kernel : ∀ w ∈ wsX40, w ∈ tables_1) w h |> List.mem_append_right _) ((by decide +kernel : ∀ w ∈ wsX40, goodWord w = true) w h)
theorem k_start {args : Array Value} {s : State} (hts : ∀ w ∈ tbW, w.before args s = true) : ∃ (D : va_G) (cI : ClassId), va_K D classes [(cI, .int)] s := by
  obtain ⟨c0, i0, h0⟩ := u_known (C := RX0) (T := TX0) (N := 5) (n := 5) hts inX0 (hts (Cond.instantiable "NestedTags$Cursor" 5) kk_1_20)
  obtain ⟨c1, i1, h1⟩ := u_known (C := RX1) (T := TX1) (N := 4) (n := 4) hts inX1 (hts (Cond.instantiable "NestedTags$Names" 4) kk_1_74)
  obtain ⟨c2, i2, h2⟩ := u_known (C := RX2) (T := TX2) (N := 6) (n := 6) hts inX2 (hts (Cond.instantiable "NestedTags$Pieces" 6) kk_1_47)
  obtain ⟨c3, i3, h3⟩ := u_known (C := RX3) (T := TX3) (N := 14) (n := 14) hts inX3 (hts (Cond.instantiable "NestedTags" 14) kk_1_12)
  obtain ⟨c4, i4, h4⟩ := u_known (C := RX4) (T := TX4) (N := 33) (n := 33) hts inX4 (hts (Cond.instantiable "NestedTagsModel" 33) kk_2_207)
  obtain ⟨cI, kA, comp, q1, q2, q3⟩ := Cond.arrayClass_spec (type := .int) (hts (Cond.arrayClass .int) kk_1_45)
  refine ⟨(fun k => if k = 0 then c0 else if k = 1 then c1 else if k = 2 then c2 else if k = 3 then c3 else c4, fun k => if k = 0 then i0 else if k = 1 then i1 else if k = 2 then i2 else if k = 3 then i3 else i4), cI, ?_, ?_⟩
  · intro k q hq
    match k, hq with
    | 0, hq => cases hq; exact h0
    | 1, hq => cases hq; exact h1
    | 2, hq => cases hq; exact h2
    | 3, hq => cases hq; exact h3
    | 4, hq => cases hq; exact h4
    | k + 5, hq => simp [classes] at hq
  · intro k q hq
    match k, hq with
    | 0, hq => cases hq; exact ⟨fun n z => ⟨fun k h => (by cases h), kA, q2, comp, q3⟩, q1⟩
    | k + 1, hq => simp at hq
