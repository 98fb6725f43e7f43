/-! The tables' good words as one list; contracts over it; the frame rule of a call in one row. -/
def tbW : List Cond := lw_tbl.filter goodWord
theorem tb_mem {w : Cond} (h : w ∈ lw_tbl) (g : goodWord w = true) : w ∈ tbW := List.mem_filter.mpr ⟨h, g⟩
theorem tb_0 {w : Cond} (i : Nat) (h : (k2_sels lw_privs)[i]? = some w) (g : goodWord w = true) : w ∈ tbW := tb_mem (List.mem_append_left _ (List.mem_of_getElem? h)) g
theorem tb_1 {w : Cond} (i : Nat) (h : tables_1_1[i]? = some w) (g : goodWord w = true) : w ∈ tbW := tb_mem (List.mem_append_right _ (List.mem_append_left _ (List.mem_of_getElem? h))) g
theorem tb_2 {w : Cond} (i : Nat) (h : tables_1_2[i]? = some w) (g : goodWord w = true) : w ∈ tbW := tb_mem (List.mem_append_right _ (List.mem_append_right _ (List.mem_append_left _ (List.mem_of_getElem? h)))) g
theorem tb_3 {w : Cond} (i : Nat) (h : tables_1_3[i]? = some w) (g : goodWord w = true) : w ∈ tbW := tb_mem (List.mem_append_right _ (List.mem_append_right _ (List.mem_append_right _ (List.mem_append_left _ (List.mem_of_getElem? h))))) g
theorem tb_4 {w : Cond} (i : Nat) (h : tables_1_4[i]? = some w) (g : goodWord w = true) : w ∈ tbW := tb_mem (List.mem_append_right _ (List.mem_append_right _ (List.mem_append_right _ (List.mem_append_right _ (List.mem_of_getElem? h))))) g
theorem tb_in {w : Cond} (h : w ∈ tbW) : w ∈ lw_tbl := (List.mem_filter.mp h).1
theorem tb_ok {w : Cond} (h : w ∈ tbW) : (w.onTables && w.keeps) = true ∨ ∃ ty, w = .arrayClass ty := good_of_word (List.mem_filter.mp h).2
theorem tb_good {b : Cond} (hb : b ∈ tbW) : GoodIn tbW (b :: tbW) := by
  intro w hw
  have h1 : w ∈ tbW := by
    rcases List.mem_cons.mp hw with h | h
    · rw [h]; exact hb
    · exact h
  exact ⟨h1, tb_ok h1⟩
theorem tb_goodV {own : String} {idx : Nat} {C : String} {y : MethodName} {b : Cond} (h1 : Cond.methodLink own idx y ∈ tbW) (h2 : Cond.instanceMethod y ∈ tbW) (h3 : Cond.selects C y y ∈ tbW) (h4 : Cond.initialized C ∈ tbW) (hb : b ∈ tbW) : GoodIn tbW (wsV own idx C y (b :: tbW)) := by
  intro w hw
  unfold wsV at hw
  rcases List.mem_append.mp hw with h | h
  · simp only [List.mem_cons, List.not_mem_nil, or_false] at h
    rcases h with rfl | rfl | rfl | rfl
    · exact ⟨h1, tb_ok h1⟩
    · exact ⟨h2, tb_ok h2⟩
    · exact ⟨h3, tb_ok h3⟩
    · exact ⟨h4, tb_ok h4⟩
  · exact tb_good hb w h
theorem tb_goodS {own : String} {idx : Nat} {y : MethodName} {b : Cond} (h1 : Cond.methodLink own idx y ∈ tbW) (h2 : Cond.static y ∈ tbW) (h3 : Cond.initialized y.cls ∈ tbW) (hb : b ∈ tbW) : GoodIn tbW (va_wsS own idx y (b :: tbW)) := by
  intro w hw
  unfold va_wsS at hw
  rcases List.mem_append.mp hw with h | h
  · simp only [List.mem_cons, List.not_mem_nil, or_false] at h
    rcases h with rfl | rfl | rfl
    · exact ⟨h1, tb_ok h1⟩
    · exact ⟨h2, tb_ok h2⟩
    · exact ⟨h3, tb_ok h3⟩
  · exact tb_good hb w h
theorem tb_hts {a : Cond} {args : Array Value} {s : State} (h : ∀ w ∈ a :: tbW, w.before args s = true) : ∀ w ∈ tbW, w.before args s = true := fun w hw => h w (List.mem_cons_of_mem _ hw)
abbrev classes : List vw_C := [(RX0, TX0, 5), (RX1, TX1, 4), (RX2, TX2, 6), (RX3, TX3, 14), (RX4, TX4, 33)]
def nvF : List (String × Nat × String × String × String × String) := [("NestedTags", 182, "NestedTags$Cursor", "length", "I", "NestedTags"), ("NestedTags", 123, "NestedTags$Cursor", "at", "I", "NestedTags"), ("NestedTags", 69, "NestedTags$Cursor", "fault", "I", "NestedTags"), ("NestedTags", 75, "NestedTags$Cursor", "faultPlace", "I", "NestedTags"), ("NestedTags", 72, "NestedTags$Pieces", "size", "I", "NestedTags"), ("NestedTags", 92, "NestedTags$Pieces", "attributes", "I", "NestedTags"), ("NestedTags", 103, "NestedTags$Names", "size", "I", "NestedTags")]
def nvM : List (String × Nat × MethodName × String) := [("NestedTags$Cursor", 66, yX3_digitOf, "NestedTags"), ("NestedTags$Cursor", 60, yX3_isNameStart, "NestedTags"), ("NestedTags$Cursor", 63, yX3_isNamePart, "NestedTags"), ("NestedTags$Cursor", 56, yX3_isBlank, "NestedTags"), ("NestedTags$Cursor", 75, yX3_isCharacter, "NestedTags")]
def nv (U : State) : Prop := (∀ q ∈ nvF, va_Nw (.fieldLinkNest q.1 q.2.1 q.2.2.1 q.2.2.2.1 q.2.2.2.2.1 q.2.2.2.2.2) U) ∧ ∀ q ∈ nvM, va_Nw (.methodLinkNest q.1 q.2.1 q.2.2.1 q.2.2.2) U
theorem nv.warm {s U : State} (hW : s.WarmedH U.vm) (h : nv s) : nv U := ⟨fun q hq => va_Nw.warmF hW (h.1 q hq), fun q hq => va_Nw.warmM hW (h.2 q hq)⟩
theorem nv.same {u U : State} (e : u.vm = U.vm) (h : nv u) : nv U := ⟨fun q hq => va_Nw.same rfl e (h.1 q hq), fun q hq => va_Nw.same rfl e (h.2 q hq)⟩
theorem nv_f {U : State} (h : nv U) (i : Nat) {q : String × Nat × String × String × String × String} (hq : nvF[i]? = some q) : va_Nw (.fieldLinkNest q.1 q.2.1 q.2.2.1 q.2.2.2.1 q.2.2.2.2.1 q.2.2.2.2.2) U := h.1 q (List.mem_of_getElem? hq)
theorem nv_m {U : State} (h : nv U) (i : Nat) {q : String × Nat × MethodName × String} (hq : nvM[i]? = some q) : va_Nw (.methodLinkNest q.1 q.2.1 q.2.2.1 q.2.2.2) U := h.2 q (List.mem_of_getElem? hq)
abbrev gP (D : va_G) (cI : ClassId) (ws : va_W) (sz : Nat) (U : State) : Prop := U.heap.size = sz ∧ va_P D classes ws U.heap ∧ va_K D classes [(cI, .int)] U ∧ va_D (fun _ => True) ws ∧ nv U
abbrev gB (D : va_G) (cI : ClassId) (A : Nat → Prop) (ws : va_W) (t : State) : Prop := va_P D classes ws t.heap ∧ va_K D classes [(cI, .int)] t ∧ va_D A ws
theorem gblind {D : va_G} {cI : ClassId} {ws : va_W} {sz : Nat} {av : List Value} : FrameBlind (va_Pc av (gP D cI ws sz)) := fun a U g mk q => by
  obtain ⟨q0, q1, q2, q3, q4, q5⟩ := q
  exact ⟨q0, q1, q2, va_K.moved (u := U) (U := U.calling g mk a) (Vm.Alike.refl U.vm) q3, q4, nv.same rfl q5⟩
theorem gpreV {s : State} {H : Heap} {D : va_G} {cI : ClassId} {wc : va_W} {A : Nat → Prop} {C : String} {b : Addr} {As : List Value} (hK : va_K D classes [(cI, .int)] s) (hN : nv s) (hP : va_P D classes wc H) (hD : va_D A wc) (hr : ∃ cell : Cell, H[b]? = some cell ∧ cell.vm.isStatics = false ∧ s.vm.findClass C = some cell.cls) : PreV s H C b (va_Pc (.ref b :: As) (gP D cI wc H.size)) As :=
  ⟨gblind, hr, fun U hU hW => ⟨rfl, by rw [hU], by rw [hU]; exact hP, va_K.moved hW.alike hK, hD.weaken (fun _ _ _ _ => trivial), nv.warm hW hN⟩⟩
theorem gpreS {s : State} {H : Heap} {D : va_G} {cI : ClassId} {wc : va_W} {A : Nat → Prop} {As : List Value} (hK : va_K D classes [(cI, .int)] s) (hN : nv s) (hP : va_P D classes wc H) (hD : va_D A wc) : PreS s H (va_Pc As (gP D cI wc H.size)) As :=
  ⟨gblind, fun U hU hW => ⟨rfl, by rw [hU], by rw [hU]; exact hP, va_K.moved hW.alike hK, hD.weaken (fun _ _ _ _ => trivial), nv.warm hW hN⟩⟩
theorem cA_eq {D : va_G} {s : State} {cI cA : ClassId} (h1 : va_K D classes [(cI, .int)] s) (h2 : va_K D classes ([(cI, .int)] ++ [(cA, .int)]) s) : cI = cA := by
  have a := va_nm_int (h1.2 0 _ rfl).2
  have b := va_nm_int (h2.2 1 _ rfl).2
  exact Option.some.inj (a.symm.trans b)
theorem vin_of {i : Int32} {N : Nat} (h0 : ¬ i < 0) (h1 : ¬ nI N ≤ i) (hN : N < 2 ^ 31) : vp_in i N := by
  rcases pk_ix i hN with h | h | ⟨j, hj, rfl⟩
  · exact absurd h h0
  · exact absurd h h1
  · exact vp_in_nI hj hN
theorem nb01 {v : Int32} (h : v = 0 ∨ v = 1) : narrow .boolean (.int v) = .int v := by
  rcases h with rfl | rfl <;> rfl
section GCALL
variable {p : Program} {l : Launch} {e : Env} {R : Room} {s : State} {m : MethodId} {args : Array Value} {below : List Frame} {meth : Method} {c : Code} {H : Heap} {locs : List Loc} {cells slots : Nat} {Q : State → Prop}
variable {D : va_G} {cI : ClassId} {A : Nat → Prop} {ws wc wr : va_W} {pc : Nat} {ls : Array Slot} {rest st0 : List Value} {a : Array Value} {mc ms : Nat}
theorem gcall_i {S : Type} {post : Int32 → S → Prop} {out : S → va_W}
    (hr : va_Run p l e R s m args below meth c H locs cells slots mc ms (F0 m pc ls st0) rest (va_Qi post (fun u => gB D cI (va_A wc H.size) (out u)) (va_A wc H.size) a) (va_A wc H.size))
    (hP : va_P D classes ws H) (hD : va_D A ws) (hS : va_S A s.heap H locs) (hA : ∀ q, s.heap.size ≤ q → A q)
    (isC isR : List Nat) (hC : isC.map (fun i => ws[i]?) = wc.map some) (hR : isR.map (fun i => ws[i]?) = wr.map some) (hn : va_nd isR = true) (hdis : ∀ i ∈ isR, i ∉ isC)
    (kk : ∀ (r : Int32) (u : S) (H1 : Heap) (locs1 : List Loc), post r u → va_P D classes (wr ++ out u) H1 → va_D A (wr ++ out u) → va_S A s.heap H1 locs1 → W p l e R s m args below meth c H1 locs1 (cells + mc) (slots + ms) Q (F0 m (pc + 3) ls (.int r :: rest))) :
    W p l e R s m args below meth c H locs cells slots Q (F0 m pc ls st0) := by
  have hF := va_free (wc := wc) hD hS hA isC hC
  refine va_calli hr hS (fun q _ h => hF q h) hF (fun r u t H1 locs1 ht hvm hw hB hz1 hk1 hS1 => ?_)
  obtain ⟨hP1, -, hD1⟩ := hB
  rw [ht] at hP1
  obtain ⟨hP2, hD2⟩ := va_join (wr := wr) (w1 := out u) hP hD isC isR hC hR hn hdis hk1 hF hP1 hD1
  exact kk r u H1 locs1 hw hP2 hD2 hS1
theorem gcall_v {S : Type} {post : S → Prop} {out : S → va_W}
    (hr : va_Run p l e R s m args below meth c H locs cells slots mc ms (F0 m pc ls st0) rest (va_Qv post (fun u => gB D cI (va_A wc H.size) (out u)) (va_A wc H.size) a) (va_A wc H.size))
    (hP : va_P D classes ws H) (hD : va_D A ws) (hS : va_S A s.heap H locs) (hA : ∀ q, s.heap.size ≤ q → A q)
    (isC isR : List Nat) (hC : isC.map (fun i => ws[i]?) = wc.map some) (hR : isR.map (fun i => ws[i]?) = wr.map some) (hn : va_nd isR = true) (hdis : ∀ i ∈ isR, i ∉ isC)
    (kk : ∀ (u : S) (H1 : Heap) (locs1 : List Loc), post u → va_P D classes (wr ++ out u) H1 → va_D A (wr ++ out u) → va_S A s.heap H1 locs1 → W p l e R s m args below meth c H1 locs1 (cells + mc) (slots + ms) Q (F0 m (pc + 3) ls rest)) :
    W p l e R s m args below meth c H locs cells slots Q (F0 m pc ls st0) := by
  have hF := va_free (wc := wc) hD hS hA isC hC
  refine va_callv hr hS (fun q _ h => hF q h) hF (fun u t H1 locs1 ht hvm hw hB hz1 hk1 hS1 => ?_)
  obtain ⟨hP1, -, hD1⟩ := hB
  rw [ht] at hP1
  obtain ⟨hP2, hD2⟩ := va_join (wr := wr) (w1 := out u) hP hD isC isR hC hR hn hdis hk1 hF hP1 hD1
  exact kk u H1 locs1 hw hP2 hD2 hS1
theorem gcall_r {S : Type} {post : S → Prop} {out : S → va_W} {rp : S → Nat → Prop}
    (hr : va_Run p l e R s m args below meth c H locs cells slots mc ms (F0 m pc ls st0) rest (va_Qr post (fun u ra t => gB D cI (va_A wc H.size) (out u) t ∧ rp u ra) (va_A wc H.size) a) (va_A wc H.size))
    (hP : va_P D classes ws H) (hD : va_D A ws) (hS : va_S A s.heap H locs) (hA : ∀ q, s.heap.size ≤ q → A q)
    (isC isR : List Nat) (hC : isC.map (fun i => ws[i]?) = wc.map some) (hR : isR.map (fun i => ws[i]?) = wr.map some) (hn : va_nd isR = true) (hdis : ∀ i ∈ isR, i ∉ isC)
    (kk : ∀ (u : S) (ra : Nat) (H1 : Heap) (locs1 : List Loc), (post u ∧ rp u ra) → va_P D classes (wr ++ out u) H1 → va_D A (wr ++ out u) → va_S A s.heap H1 locs1 → W p l e R s m args below meth c H1 locs1 (cells + mc) (slots + ms) Q (F0 m (pc + 3) ls (.ref ra :: rest))) :
    W p l e R s m args below meth c H locs cells slots Q (F0 m pc ls st0) := by
  have hF := va_free (wc := wc) hD hS hA isC hC
  refine va_callr hr hS (fun q _ h => hF q h) hF (fun u ra t H1 locs1 ht hvm hw hB hz1 hk1 hS1 => ?_)
  obtain ⟨⟨hP1, -, hD1⟩, hrp⟩ := hB
  rw [ht] at hP1
  obtain ⟨hP2, hD2⟩ := va_join (wr := wr) (w1 := out u) hP hD isC isR hC hR hn hdis hk1 hF hP1 hD1
  exact kk u ra H1 locs1 ⟨hw, hrp⟩ hP2 hD2 hS1
end GCALL
theorem nv_t1 {w : Cond} (i : Nat) (h : tables_1_1[i]? = some w) : w ∈ lw_tbl := List.mem_append_right _ (List.mem_append_left _ (List.mem_of_getElem? h))
theorem nv_t2 {w : Cond} (i : Nat) (h : tables_1_2[i]? = some w) : w ∈ lw_tbl := List.mem_append_right _ (List.mem_append_right _ (List.mem_append_left _ (List.mem_of_getElem? h)))
theorem nv_t3 {w : Cond} (i : Nat) (h : tables_1_3[i]? = some w) : w ∈ lw_tbl := List.mem_append_right _ (List.mem_append_right _ (List.mem_append_right _ (List.mem_append_left _ (List.mem_of_getElem? h))))
theorem nv_of {args : Array Value} {s : State} (hts : ∀ w ∈ lw_tbl, w.before args s = true) : nv s := by
  refine ⟨fun q hq => ?_, fun q hq => ?_⟩
  · simp only [nvF, List.mem_cons, List.not_mem_nil, or_false] at hq
    rcases hq with rfl | rfl | rfl | rfl | rfl | rfl | rfl
    · exact va_Nw.of rfl (hts _ (nv_t1 27 rfl))
    · exact va_Nw.of rfl (hts _ (nv_t1 29 rfl))
    · exact va_Nw.of rfl (hts _ (nv_t1 31 rfl))
    · exact va_Nw.of rfl (hts _ (nv_t1 33 rfl))
    · exact va_Nw.of rfl (hts _ (nv_t1 57 rfl))
    · exact va_Nw.of rfl (hts _ (nv_t1 59 rfl))
    · exact va_Nw.of rfl (hts _ (nv_t1 86 rfl))
  · simp only [nvM, List.mem_cons, List.not_mem_nil, or_false] at hq
    rcases hq with rfl | rfl | rfl | rfl | rfl
    · exact va_Nw.of rfl (hts _ (nv_t2 22 rfl))
    · exact va_Nw.of rfl (hts _ (nv_t2 40 rfl))
    · exact va_Nw.of rfl (hts _ (nv_t2 43 rfl))
    · exact va_Nw.of rfl (hts _ (nv_t2 75 rfl))
    · exact va_Nw.of rfl (hts _ (nv_t2 139 rfl))
theorem kk_1_2 : Cond.initialized "NestedTags$Cursor" ∈ tbW := tb_1 2 rfl rfl
theorem kk_1_3 : Cond.initialized "NestedTags$Pieces" ∈ tbW := tb_1 3 rfl rfl
theorem kk_1_4 : Cond.initialized "NestedTags$Names" ∈ tbW := tb_1 4 rfl rfl
theorem kk_1_5 : Cond.initialized "java/lang/Math" ∈ tbW := tb_1 5 rfl rfl
theorem kk_1_16 : Cond.methodLink "NestedTags" 1 objectInit ∈ tbW := tb_1 16 rfl rfl
theorem kk_1_17 : Cond.instanceMethod objectInit ∈ tbW := tb_1 17 rfl rfl
theorem kk_1_19 : Cond.classLink "NestedTags" 13 "NestedTags$Cursor" ∈ tbW := tb_1 19 rfl rfl
theorem kk_1_20 : Cond.instantiable "NestedTags$Cursor" 5 ∈ tbW := tb_1 20 rfl rfl
theorem kk_1_21 : Cond.methodLink "NestedTags" 15 yX0_init ∈ tbW := tb_1 21 rfl rfl
theorem kk_1_22 : Cond.instanceMethod yX0_init ∈ tbW := tb_1 22 rfl rfl
theorem kk_1_23 : Cond.code yX0_init cX0_init 1 none ∈ tbW := tb_1 23 rfl rfl
theorem kk_1_24 : Cond.methodLink "NestedTags$Cursor" 3 objectInit ∈ tbW := tb_1 24 rfl rfl
theorem kk_1_25 : Cond.fieldLink "NestedTags$Cursor" 9 "NestedTags$Cursor" "bytes" "[I" ∈ tbW := tb_1 25 rfl rfl
theorem kk_1_26 : Cond.fieldLink "NestedTags$Cursor" 22 "NestedTags$Cursor" "length" "I" ∈ tbW := tb_1 26 rfl rfl
theorem kk_1_28 : Cond.fieldLink "NestedTags$Cursor" 25 "NestedTags$Cursor" "at" "I" ∈ tbW := tb_1 28 rfl rfl
theorem kk_1_30 : Cond.fieldLink "NestedTags$Cursor" 15 "NestedTags$Cursor" "fault" "I" ∈ tbW := tb_1 30 rfl rfl
theorem kk_1_32 : Cond.fieldLink "NestedTags$Cursor" 19 "NestedTags$Cursor" "faultPlace" "I" ∈ tbW := tb_1 32 rfl rfl
theorem kk_1_45 : Cond.arrayClass .int ∈ tbW := tb_1 45 rfl rfl
theorem kk_1_46 : Cond.classLink "NestedTags" 20 "NestedTags$Pieces" ∈ tbW := tb_1 46 rfl rfl
theorem kk_1_47 : Cond.instantiable "NestedTags$Pieces" 6 ∈ tbW := tb_1 47 rfl rfl
theorem kk_1_48 : Cond.methodLink "NestedTags" 22 yX2_init ∈ tbW := tb_1 48 rfl rfl
theorem kk_1_49 : Cond.instanceMethod yX2_init ∈ tbW := tb_1 49 rfl rfl
theorem kk_1_50 : Cond.code yX2_init cX2_init 1 none ∈ tbW := tb_1 50 rfl rfl
theorem kk_1_51 : Cond.methodLink "NestedTags$Pieces" 3 objectInit ∈ tbW := tb_1 51 rfl rfl
theorem kk_1_52 : Cond.fieldLink "NestedTags$Pieces" 9 "NestedTags$Pieces" "kinds" "[I" ∈ tbW := tb_1 52 rfl rfl
theorem kk_1_53 : Cond.fieldLink "NestedTags$Pieces" 15 "NestedTags$Pieces" "begins" "[I" ∈ tbW := tb_1 53 rfl rfl
theorem kk_1_54 : Cond.fieldLink "NestedTags$Pieces" 18 "NestedTags$Pieces" "ends" "[I" ∈ tbW := tb_1 54 rfl rfl
theorem kk_1_55 : Cond.fieldLink "NestedTags$Pieces" 21 "NestedTags$Pieces" "depths" "[I" ∈ tbW := tb_1 55 rfl rfl
theorem kk_1_56 : Cond.fieldLink "NestedTags$Pieces" 24 "NestedTags$Pieces" "size" "I" ∈ tbW := tb_1 56 rfl rfl
theorem kk_1_58 : Cond.fieldLink "NestedTags$Pieces" 28 "NestedTags$Pieces" "attributes" "I" ∈ tbW := tb_1 58 rfl rfl
theorem kk_1_73 : Cond.classLink "NestedTags" 27 "NestedTags$Names" ∈ tbW := tb_1 73 rfl rfl
theorem kk_1_74 : Cond.instantiable "NestedTags$Names" 4 ∈ tbW := tb_1 74 rfl rfl
theorem kk_1_75 : Cond.methodLink "NestedTags" 29 yX1_init ∈ tbW := tb_1 75 rfl rfl
theorem kk_1_76 : Cond.instanceMethod yX1_init ∈ tbW := tb_1 76 rfl rfl
theorem kk_1_77 : Cond.code yX1_init cX1_init 2 none ∈ tbW := tb_1 77 rfl rfl
theorem kk_1_78 : Cond.methodLink "NestedTags$Names" 1 objectInit ∈ tbW := tb_1 78 rfl rfl
theorem kk_1_79 : Cond.methodLink "NestedTags$Names" 7 Lib.Math.max.name ∈ tbW := tb_1 79 rfl rfl
theorem kk_1_80 : Cond.static Lib.Math.max.name ∈ tbW := tb_1 80 rfl rfl
theorem kk_1_82 : Cond.fieldLink "NestedTags$Names" 19 "NestedTags$Names" "begins" "[I" ∈ tbW := tb_1 82 rfl rfl
theorem kk_1_83 : Cond.fieldLink "NestedTags$Names" 23 "NestedTags$Names" "ends" "[I" ∈ tbW := tb_1 83 rfl rfl
theorem kk_1_84 : Cond.fieldLink "NestedTags$Names" 13 "NestedTags$Names" "limit" "I" ∈ tbW := tb_1 84 rfl rfl
theorem kk_1_85 : Cond.fieldLink "NestedTags$Names" 26 "NestedTags$Names" "size" "I" ∈ tbW := tb_1 85 rfl rfl
theorem kk_1_96 : Cond.fieldLink "NestedTags" 9 "NestedTags" "coming" "[I" ∈ tbW := tb_1 96 rfl rfl
theorem kk_1_97 : Cond.fieldLink "NestedTags" 43 "NestedTags" "comingLength" "I" ∈ tbW := tb_1 97 rfl rfl
theorem kk_1_98 : Cond.fieldLink "NestedTags" 16 "NestedTags" "cursor" "LNestedTags$Cursor;" ∈ tbW := tb_1 98 rfl rfl
theorem kk_1_99 : Cond.fieldLink "NestedTags" 23 "NestedTags" "pieces" "LNestedTags$Pieces;" ∈ tbW := tb_1 99 rfl rfl
theorem kk_1_100 : Cond.fieldLink "NestedTags" 32 "NestedTags" "openElements" "LNestedTags$Names;" ∈ tbW := tb_1 100 rfl rfl
theorem kk_1_101 : Cond.fieldLink "NestedTags" 36 "NestedTags" "tagAttributes" "LNestedTags$Names;" ∈ tbW := tb_1 101 rfl rfl
theorem kk_1_102 : Cond.fieldLink "NestedTags" 86 "NestedTags" "elements" "I" ∈ tbW := tb_1 102 rfl rfl
theorem kk_1_103 : Cond.fieldLink "NestedTags" 89 "NestedTags" "mostOpen" "I" ∈ tbW := tb_1 103 rfl rfl
theorem kk_1_109 : Cond.fieldLink "NestedTags" 39 "NestedTags" "quote" "I" ∈ tbW := tb_1 109 rfl rfl
theorem kk_1_176 : Cond.instanceMethod yX0_byteAt ∈ tbW := tb_1 176 rfl rfl
theorem kk_1_177 : Cond.selects "NestedTags$Cursor" yX0_byteAt yX0_byteAt ∈ tbW := tb_1 177 rfl rfl
theorem kk_1_178 : Cond.code yX0_byteAt cX0_byteAt 2 (some .int) ∈ tbW := tb_1 178 rfl rfl
theorem kk_1_188 : Cond.instanceMethod yX0_fail ∈ tbW := tb_1 188 rfl rfl
theorem kk_1_189 : Cond.selects "NestedTags$Cursor" yX0_fail yX0_fail ∈ tbW := tb_1 189 rfl rfl
theorem kk_1_190 : Cond.code yX0_fail cX0_fail 3 (some .boolean) ∈ tbW := tb_1 190 rfl rfl
theorem kk_2_13 : Cond.methodLink "NestedTags$Cursor" 32 yX0_fail ∈ tbW := tb_2 13 rfl rfl
theorem kk_2_124 : Cond.methodLink "NestedTags" 82 yX0_byteAt ∈ tbW := tb_2 124 rfl rfl
theorem kk_2_194 : Cond.methodLink "NestedTags" 78 yX2_tell ∈ tbW := tb_2 194 rfl rfl
theorem kk_2_195 : Cond.instanceMethod yX2_tell ∈ tbW := tb_2 195 rfl rfl
theorem kk_2_196 : Cond.selects "NestedTags$Pieces" yX2_tell yX2_tell ∈ tbW := tb_2 196 rfl rfl
theorem kk_2_197 : Cond.code yX2_tell cX2_tell 3 (some .int) ∈ tbW := tb_2 197 rfl rfl
theorem kk_obj : Cond.code objectInit ⟨#[0xb1]⟩ 1 none ∈ tbW := tb_1 18 rfl rfl
theorem kk_mmax : Cond.code Lib.Math.max.name Lib.Math.max.code 2 (some .int) ∈ tbW := tb_1 81 rfl rfl
theorem kk_mmin : Cond.code Lib.Math.min.name Lib.Math.min.code 2 (some .int) ∈ tbW := tb_2 27 rfl rfl
theorem inX0 : ∀ w ∈ wsX00, w ∈ tbW := fun w h => tb_mem ((by decide +kernel : ∀ w ∈ wsX00, w ∈ tables_1) w h |> List.mem_append_right _) ((by decide +kernel : ∀ w ∈ wsX00, goodWord w = true) w h)
theorem inX1 : ∀ w ∈ wsX10, w ∈ tbW := fun w h => tb_mem ((by decide +kernel : ∀ w ∈ wsX10, w ∈ tables_1) w h |> List.mem_append_right _) ((by decide +kernel : ∀ w ∈ wsX10, goodWord w = true) w h)
theorem inX2 : ∀ w ∈ wsX20, w ∈ tbW := fun w h => tb_mem ((by decide +kernel : ∀ w ∈ wsX20, w ∈ tables_1) w h |> List.mem_append_right _) ((by decide +kernel : ∀ w ∈ wsX20, goodWord w = true) w h)
theorem inX3 : ∀ w ∈ wsX30, w ∈ tbW := fun w h => tb_mem ((by decide +kernel : ∀ w ∈ wsX30, w ∈ tables_1) w h |> List.mem_append_right _) ((by decide +kernel : ∀ w ∈ wsX30, goodWord w = true) w h)
theorem inX4 : ∀ w ∈ wsX40, w ∈ tbW := fun w h => tb_mem ((by decide +kernel : ∀ w ∈ wsX40, w ∈ tables_1) w h |> List.mem_append_right _) ((by decide +kernel : ∀ w ∈ wsX40, goodWord w = true) w h)
