/-! The tables' good words as one list; contracts over it; the frame rule of a call in one row. -/
def tbW : List Cond := lw_tbl.filter goodWord
theorem tb_mem {w : Cond} (h : w ∈ lw_tbl) (g : goodWord w = true) : w ∈ tbW := List.mem_filter.mpr ⟨h, g⟩
theorem tb_0 {w : Cond} (i : Nat) (h : (k2_sels lw_privs)[i]? = some w) (g : goodWord w = true) : w ∈ tbW := tb_mem (List.mem_append_left _ (List.mem_of_getElem? h)) g
theorem tb_1 {w : Cond} (i : Nat) (h : tables_1_1[i]? = some w) (g : goodWord w = true) : w ∈ tbW := tb_mem (List.mem_append_right _ (List.mem_append_left _ (List.mem_of_getElem? h))) g
theorem tb_2 {w : Cond} (i : Nat) (h : tables_1_2[i]? = some w) (g : goodWord w = true) : w ∈ tbW := tb_mem (List.mem_append_right _ (List.mem_append_right _ (List.mem_append_left _ (List.mem_of_getElem? h)))) g
theorem tb_3 {w : Cond} (i : Nat) (h : tables_1_3[i]? = some w) (g : goodWord w = true) : w ∈ tbW := tb_mem (List.mem_append_right _ (List.mem_append_right _ (List.mem_append_right _ (List.mem_append_left _ (List.mem_of_getElem? h))))) g
theorem tb_4 {w : Cond} (i : Nat) (h : tables_1_4[i]? = some w) (g : goodWord w = true) : w ∈ tbW := tb_mem (List.mem_append_right _ (List.mem_append_right _ (List.mem_append_right _ (List.mem_append_right _ (List.mem_of_getElem? h))))) g
theorem tb_in {w : Cond} (h : w ∈ tbW) : w ∈ lw_tbl := (List.mem_filter.mp h).1
theorem tb_ok {w : Cond} (h : w ∈ tbW) : (w.onTables && w.keeps) = true ∨ ∃ ty, w = .arrayClass ty := good_of_word (List.mem_filter.mp h).2
theorem tb_good {b : Cond} (hb : b ∈ tbW) : GoodIn tbW (b :: tbW) := by
  intro w hw
  have h1 : w ∈ tbW := by
    rcases List.mem_cons.mp hw with h | h
    · rw [h]; exact hb
    · exact h
  exact ⟨h1, tb_ok h1⟩
theorem tb_goodV {own : String} {idx : Nat} {C : String} {y : MethodName} {b : Cond} (h1 : Cond.methodLink own idx y ∈ tbW) (h2 : Cond.instanceMethod y ∈ tbW) (h3 : Cond.selects C y y ∈ tbW) (h4 : Cond.initialized C ∈ tbW) (hb : b ∈ tbW) : GoodIn tbW (wsV own idx C y (b :: tbW)) := by
  intro w hw
  unfold wsV at hw
  rcases List.mem_append.mp hw with h | h
  · simp only [List.mem_cons, List.not_mem_nil, or_false] at h
    rcases h with rfl | rfl | rfl | rfl
    · exact ⟨h1, tb_ok h1⟩
    · exact ⟨h2, tb_ok h2⟩
    · exact ⟨h3, tb_ok h3⟩
    · exact ⟨h4, tb_ok h4⟩
  · exact tb_good hb w h
theorem tb_goodS {own : String} {idx : Nat} {y : MethodName} {b : Cond} (h1 : Cond.methodLink own idx y ∈ tbW) (h2 : Cond.static y ∈ tbW) (h3 : Cond.initialized y.cls ∈ tbW) (hb : b ∈ tbW) : GoodIn tbW (va_wsS own idx y (b :: tbW)) := by
  intro w hw
  unfold va_wsS at hw
  rcases List.mem_append.mp hw with h | h
  · simp only [List.mem_cons, List.not_mem_nil, or_false] at h
    rcases h with rfl | rfl | rfl
    · exact ⟨h1, tb_ok h1⟩
    · exact ⟨h2, tb_ok h2⟩
    · exact ⟨h3, tb_ok h3⟩
  · exact tb_good hb w h
theorem tb_hts {a : Cond} {args : Array Value} {s : State} (h : ∀ w ∈ a :: tbW, w.before args s = true) : ∀ w ∈ tbW, w.before args s = true := fun w hw => h w (List.mem_cons_of_mem _ hw)
abbrev classes : List vw_C := [(RX0, TX0, 5), (RX1, TX1, 4), (RX2, TX2, 6), (RX3, TX3, 14), (RX4, TX4, 33)]
def nvF : List (String × Nat × String × String × String × String) := [("NestedTags", 182, "NestedTags$Cursor", "length", "I", "NestedTags"), ("NestedTags", 123, "NestedTags$Cursor", "at", "I", "NestedTags"), ("NestedTags", 69, "NestedTags$Cursor", "fault", "I", "NestedTags"), ("NestedTags", 75, "NestedTags$Cursor", "faultPlace", "I", "NestedTags"), ("NestedTags", 72, "NestedTags$Pieces", "size", "I", "NestedTags"), ("NestedTags", 92, "NestedTags$Pieces", "attributes", "I", "NestedTags"), ("NestedTags", 103, "NestedTags$Names", "size", "I", "NestedTags")]
def nvM : List (String × Nat × MethodName × String) := [("NestedTags$Cursor", 66, yX3_digitOf, "NestedTags"), ("NestedTags$Cursor", 60, yX3_isNameStart, "NestedTags"), ("NestedTags$Cursor", 63, yX3_isNamePart, "NestedTags"), ("NestedTags$Cursor", 56, yX3_isBlank, "NestedTags"), ("NestedTags$Cursor", 75, yX3_isCharacter, "NestedTags")]
def nv (U : State) : Prop := (∀ q ∈ nvF, va_Nw (.fieldLinkNest q.1 q.2.1 q.2.2.1 q.2.2.2.1 q.2.2.2.2.1 q.2.2.2.2.2) U) ∧ ∀ q ∈ nvM, va_Nw (.methodLinkNest q.1 q.2.1 q.2.2.1 q.2.2.2) U
theorem nv.warm {s U : State} (hW : s.WarmedH U.vm) (h : nv s) : nv U := ⟨fun q hq => va_Nw.warmF hW (h.1 q hq), fun q hq => va_Nw.warmM hW (h.2 q hq)⟩
theorem nv.same {u U : State} (e : u.vm = U.vm) (h : nv u) : nv U := ⟨fun q hq => va_Nw.same rfl e (h.1 q hq), fun q hq => va_Nw.same rfl e (h.2 q hq)⟩
theorem nv_f {U : State} (h : nv U) (i : Nat) {q : String × Nat × String × String × String × String} (hq : nvF[i]? = some q) : va_Nw (.fieldLinkNest q.1 q.2.1 q.2.2.1 q.2.2.2.1 q.2.2.2.2.1 q.2.2.2.2.2) U := h.1 q (List.mem_of_getElem? hq)
theorem nv_m {U : State} (h : nv U) (i : Nat) {q : String × Nat × MethodName × String} (hq : nvM[i]? = some q) : va_Nw (.methodLinkNest q.1 q.2.1 q.2.2.1 q.2.2.2) U := h.2 q (List.mem_of_getElem? hq)
def lenS : List Nat := [1, 1, 2, 2, 3, 4, 4, 1, 1, 2, 2, 2, 4, 2, 9, 3, 2, 1, 2]
def bytS : List (List Int32) := [[38], [59], [108, 116], [103, 116], [97, 109, 112], [97, 112, 111, 115], [113, 117, 111, 116], [61], [62], [47, 62], [60, 63], [63, 62], [60, 33, 45, 45], [45, 45], [60, 33, 91, 67, 68, 65, 84, 65, 91], [93, 93, 62], [60, 47], [60], [93, 93]]
def idxS : List Nat := [197, 205, 270, 276, 278, 280, 282, 265, 176, 254, 149, 164, 172, 174, 178, 180, 213, 228, 188]
def txtS : List String := ["&", ";", "lt", "gt", "amp", "apos", "quot", "=", ">", "/>", "<?", "?>", "<!--", "--", "<![CDATA[", "]]>", "</", "<", "]]"]
/-- the String constants and the two statics of the JDK, outside of what may change -/
def sv (V : (Nat → Nat) × (Nat → Nat)) (A : Nat → Prop) (U : State) (H : Heap) : Prop := vk_S 19 lenS bytS V.1 V.2 A U H ∧ (∀ i : Nat, i < 19 → vk_R "NestedTags" (idxS.getD i 0) (txtS.getD i "") (V.1 i) U) ∧ va_Z "java/lang/String" "COMPACT_STRINGS" "Z" (.int 1) A U H ∧ va_Zq "jdk/internal/util/Preconditions" "SIOOBE_FORMATTER" "Ljava/util/function/BiFunction;" A U H
theorem sv.call {V : (Nat → Nat) × (Nat → Nat)} {A B : Nat → Prop} {s U : State} {H : Heap} {locs : List Loc} (hW : s.WarmedH U.vm) (h : sv V A s s.heap) (hS : va_S A s.heap H locs) (hU : U.heap = H) (hF : ∀ q, B q → A q) : sv V B U U.heap := by
  rw [hU]
  exact ⟨vk_S.moved hW.alike ((h.1.kept hS.2.1).narrow hF), fun i hi => vk_R.warm hW (h.2.1 i hi), va_Z.moved hW.alike ((h.2.2.1.kept hS.2.1).narrow hF), va_Zq.moved hW.alike ((h.2.2.2.kept hS.2.1).narrow hF)⟩
theorem sv.same {V : (Nat → Nat) × (Nat → Nat)} {A : Nat → Prop} {u U : State} {H : Heap} (e : u.vm = U.vm) (h : sv V A u H) : sv V A U H := by
  have ha : u.vm.Alike U.vm := by rw [e]; exact Vm.Alike.refl _
  exact ⟨vk_S.moved ha h.1, fun i hi => vk_R.same e.symm (h.2.1 i hi), va_Z.moved ha h.2.2.1, va_Zq.moved ha h.2.2.2⟩
abbrev gP (D : va_G) (cI : ClassId) (V : (Nat → Nat) × (Nat → Nat)) (ws : va_W) (sz : Nat) (U : State) : Prop := U.heap.size = sz ∧ va_P D classes ws U.heap ∧ va_K D classes [(cI, .int)] U ∧ va_D (fun _ => True) ws ∧ nv U ∧ sv V (va_A ws sz) U U.heap
abbrev gB (D : va_G) (cI : ClassId) (A : Nat → Prop) (ws : va_W) (t : State) : Prop := va_P D classes ws t.heap ∧ va_K D classes [(cI, .int)] t ∧ va_D A ws
theorem gblind {D : va_G} {cI : ClassId} {V : (Nat → Nat) × (Nat → Nat)} {ws : va_W} {sz : Nat} {av : List Value} : FrameBlind (va_Pc av (gP D cI V ws sz)) := fun a U g mk q => by
  obtain ⟨q0, q1, q2, q3, q4, q5, q6⟩ := q
  exact ⟨q0, q1, q2, va_K.moved (u := U) (U := U.calling g mk a) (Vm.Alike.refl U.vm) q3, q4, nv.same rfl q5, sv.same (u := U) (U := U.calling g mk a) rfl q6⟩
theorem gpreV {s : State} {H : Heap} {locs : List Loc} {D : va_G} {cI : ClassId} {V : (Nat → Nat) × (Nat → Nat)} {ws wc : va_W} {A : Nat → Prop} {C : String} {b : Addr} {As : List Value} (hK : va_K D classes [(cI, .int)] s) (hN : nv s) (hV : sv V A s s.heap) (hS : va_S A s.heap H locs) (hA : ∀ q, s.heap.size ≤ q → A q) (hP0 : va_P D classes ws H) (hD0 : va_D A ws) (isC : List Nat) (hC : isC.map (fun i => ws[i]?) = wc.map some) (hs : isC.filterMap (fun i => ws[i]?) = wc) (hn : va_nd isC = true) (hr : ∃ cell : Cell, H[b]? = some cell ∧ cell.vm.isStatics = false ∧ s.vm.findClass C = some cell.cls) : PreV s H C b (va_Pc (.ref b :: As) (gP D cI V wc H.size)) As :=
  ⟨gblind, hr, fun U hU hW => ⟨rfl, by rw [hU], by rw [hU]; exact hP0.sub isC hs, va_K.moved hW.alike hK, (hD0.sub isC hn hC).weaken (fun _ _ _ _ => trivial), nv.warm hW hN, sv.call hW hV hS hU (va_free hD0 hS hA isC hC)⟩⟩
theorem gpreS {s : State} {H : Heap} {locs : List Loc} {D : va_G} {cI : ClassId} {V : (Nat → Nat) × (Nat → Nat)} {ws wc : va_W} {A : Nat → Prop} {As : List Value} (hK : va_K D classes [(cI, .int)] s) (hN : nv s) (hV : sv V A s s.heap) (hS : va_S A s.heap H locs) (hA : ∀ q, s.heap.size ≤ q → A q) (hP0 : va_P D classes ws H) (hD0 : va_D A ws) (isC : List Nat) (hC : isC.map (fun i => ws[i]?) = wc.map some) (hs : isC.filterMap (fun i => ws[i]?) = wc) (hn : va_nd isC = true) : PreS s H (va_Pc As (gP D cI V wc H.size)) As :=
  ⟨gblind, fun U hU hW => ⟨rfl, by rw [hU], by rw [hU]; exact hP0.sub isC hs, va_K.moved hW.alike hK, (hD0.sub isC hn hC).weaken (fun _ _ _ _ => trivial), nv.warm hW hN, sv.call hW hV hS hU (va_free hD0 hS hA isC hC)⟩⟩
theorem cA_eq {D : va_G} {s : State} {cI cA : ClassId} (h1 : va_K D classes [(cI, .int)] s) (h2 : va_K D classes ([(cI, .int)] ++ [(cA, .int)]) s) : cI = cA := by
  have a := va_nm_int (h1.2 0 _ rfl).2
  have b := va_nm_int (h2.2 1 _ rfl).2
  exact Option.some.inj (a.symm.trans b)
theorem vin_of {i : Int32} {N : Nat} (h0 : ¬ i < 0) (h1 : ¬ nI N ≤ i) (hN : N < 2 ^ 31) : vp_in i N := by
  rcases pk_ix i hN with h | h | ⟨j, hj, rfl⟩
  · exact absurd h h0
  · exact absurd h h1
  · exact vp_in_nI hj hN
theorem nb01 {v : Int32} (h : v = 0 ∨ v = 1) : narrow .boolean (.int v) = .int v := by
  rcases h with rfl | rfl <;> rfl
section GCALL
variable {p : Program} {l : Launch} {e : Env} {R : Room} {s : State} {m : MethodId} {args : Array Value} {below : List Frame} {meth : Method} {c : Code} {H : Heap} {locs : List Loc} {cells slots : Nat} {Q : State → Prop}
variable {D : va_G} {cI : ClassId} {A : Nat → Prop} {ws wc wr : va_W} {pc : Nat} {ls : Array Slot} {rest st0 : List Value} {a : Array Value} {mc ms : Nat}
theorem gcall_i {S : Type} {post : Int32 → S → Prop} {out : S → va_W}
    (hr : va_Run p l e R s m args below meth c H locs cells slots mc ms (F0 m pc ls st0) rest (va_Qi post (fun u => gB D cI (va_A wc H.size) (out u)) (va_A wc H.size) a) (va_A wc H.size))
    (hP : va_P D classes ws H) (hD : va_D A ws) (hS : va_S A s.heap H locs) (hA : ∀ q, s.heap.size ≤ q → A q)
    (isC isR : List Nat) (hC : isC.map (fun i => ws[i]?) = wc.map some) (hR : isR.map (fun i => ws[i]?) = wr.map some) (hn : va_nd isR = true) (hdis : ∀ i ∈ isR, i ∉ isC)
    (kk : ∀ (r : Int32) (u : S) (H1 : Heap) (locs1 : List Loc), post r u → va_P D classes (wr ++ out u) H1 → va_D A (wr ++ out u) → va_S A s.heap H1 locs1 → W p l e R s m args below meth c H1 locs1 (cells + mc) (slots + ms) Q (F0 m (pc + 3) ls (.int r :: rest))) :
    W p l e R s m args below meth c H locs cells slots Q (F0 m pc ls st0) := by
  have hF := va_free (wc := wc) hD hS hA isC hC
  refine va_calli hr hS (fun q _ h => hF q h) hF (fun r u t H1 locs1 ht hvm hw hB hz1 hk1 hS1 => ?_)
  obtain ⟨hP1, -, hD1⟩ := hB
  rw [ht] at hP1
  obtain ⟨hP2, hD2⟩ := va_join (wr := wr) (w1 := out u) hP hD isC isR hC hR hn hdis hk1 hF hP1 hD1
  exact kk r u H1 locs1 hw hP2 hD2 hS1
theorem gcall_v {S : Type} {post : S → Prop} {out : S → va_W}
    (hr : va_Run p l e R s m args below meth c H locs cells slots mc ms (F0 m pc ls st0) rest (va_Qv post (fun u => gB D cI (va_A wc H.size) (out u)) (va_A wc H.size) a) (va_A wc H.size))
    (hP : va_P D classes ws H) (hD : va_D A ws) (hS : va_S A s.heap H locs) (hA : ∀ q, s.heap.size ≤ q → A q)
    (isC isR : List Nat) (hC : isC.map (fun i => ws[i]?) = wc.map some) (hR : isR.map (fun i => ws[i]?) = wr.map some) (hn : va_nd isR = true) (hdis : ∀ i ∈ isR, i ∉ isC)
    (kk : ∀ (u : S) (H1 : Heap) (locs1 : List Loc), post u → va_P D classes (wr ++ out u) H1 → va_D A (wr ++ out u) → va_S A s.heap H1 locs1 → W p l e R s m args below meth c H1 locs1 (cells + mc) (slots + ms) Q (F0 m (pc + 3) ls rest)) :
    W p l e R s m args below meth c H locs cells slots Q (F0 m pc ls st0) := by
  have hF := va_free (wc := wc) hD hS hA isC hC
  refine va_callv hr hS (fun q _ h => hF q h) hF (fun u t H1 locs1 ht hvm hw hB hz1 hk1 hS1 => ?_)
  obtain ⟨hP1, -, hD1⟩ := hB
  rw [ht] at hP1
  obtain ⟨hP2, hD2⟩ := va_join (wr := wr) (w1 := out u) hP hD isC isR hC hR hn hdis hk1 hF hP1 hD1
  exact kk u H1 locs1 hw hP2 hD2 hS1
theorem gcall_r {S : Type} {post : S → Prop} {out : S → va_W} {rp : S → Nat → Prop}
    (hr : va_Run p l e R s m args below meth c H locs cells slots mc ms (F0 m pc ls st0) rest (va_Qr post (fun u ra t => gB D cI (va_A wc H.size) (out u) t ∧ rp u ra) (va_A wc H.size) a) (va_A wc H.size))
    (hP : va_P D classes ws H) (hD : va_D A ws) (hS : va_S A s.heap H locs) (hA : ∀ q, s.heap.size ≤ q → A q)
    (isC isR : List Nat) (hC : isC.map (fun i => ws[i]?) = wc.map some) (hR : isR.map (fun i => ws[i]?) = wr.map some) (hn : va_nd isR = true) (hdis : ∀ i ∈ isR, i ∉ isC)
    (kk : ∀ (u : S) (ra : Nat) (H1 : Heap) (locs1 : List Loc), (post u ∧ rp u ra) → va_P D classes (wr ++ out u) H1 → va_D A (wr ++ out u) → va_S A s.heap H1 locs1 → W p l e R s m args below meth c H1 locs1 (cells + mc) (slots + ms) Q (F0 m (pc + 3) ls (.ref ra :: rest))) :
    W p l e R s m args below meth c H locs cells slots Q (F0 m pc ls st0) := by
  have hF := va_free (wc := wc) hD hS hA isC hC
  refine va_callr hr hS (fun q _ h => hF q h) hF (fun u ra t H1 locs1 ht hvm hw hB hz1 hk1 hS1 => ?_)
  obtain ⟨⟨hP1, -, hD1⟩, hrp⟩ := hB
  rw [ht] at hP1
  obtain ⟨hP2, hD2⟩ := va_join (wr := wr) (w1 := out u) hP hD isC isR hC hR hn hdis hk1 hF hP1 hD1
  exact kk u ra H1 locs1 ⟨hw, hrp⟩ hP2 hD2 hS1
end GCALL
section LDCW
variable {p : Program} {l : Launch} {e : Env} {R : Room} {s : State} {m : MethodId} {args : Array Value} {below : List Frame} {meth : Method} {c : Code} {H : Heap} {locs : List Loc} {cells slots : Nat} {Q : State → Prop} {cc : ByteArray} {pc : Nat} {ls : Array Slot} {rest : List Value}
theorem ldcw_step {T : State} (X : Stand p l e R s m args below meth c T locs cells slots) (hexec : p.tables.exec = Jvm.exec) {own text : String} {index : Nat} {a : Addr} {av : Array Value} (hown : s.vm.findClass own = some m.cls)
    (hconst : (Cond.stringRef own index text).before av s = true) (hev : (Term.string own index).eval av s none [] s = some (.ref a)) {g : JFrame} (hg : g.method = m) (hdg : decode c.code g.pc = .ok (.ldc_w index, 3)) :
    ∀ target, Steps p.tables e below (T.setTop { g with pc := g.pc + 3, stack := .ref a :: g.stack }) target → Steps p.tables e below (T.setTop g) target := by
  obtain ⟨k, cf, i, a', hk, hcf, hcp, -, hr, hev'⟩ := Cond.stringRef_spec hown hconst
  cases hev.symm.trans hev'
  obtain ⟨k', hk', he⟩ := X.warmed.alike.2.2 _ _ hk
  have hr' : k'.resolved[index]? = some (some (.string a)) := by
    rcases X.warmed.entry hk hk' index with h | ⟨h, -⟩
    · rw [h]; exact hr
    · rw [hr] at h; cases h
  intro target hrest
  subst hg
  jvm_step X.here [hexec, hdg, ldc_w.wp_string (e := e) (s := T) (f := g) X.here.top hk' (by rw [he]; exact hcf) hcp hr']
  exact hrest
theorem ldcwS (hexec : p.tables.exec = Jvm.exec) (hb : c.code = cc) {own tx : String} {index q : Nat} (hown : s.vm.findClass own = some m.cls) (hZ : vk_R own index tx q s) (hdg : decode cc pc = .ok (.ldc_w index, 3))
    (k : W p l e R s m args below meth c H locs cells slots Q (F0 m (pc + 3) ls (.ref q :: rest))) : W p l e R s m args below meth c H locs cells slots Q (F0 m pc ls rest) := by
  intro T hT X
  obtain ⟨t, a1, b1⟩ := k T hT X
  exact ⟨t, ldcw_step X hexec hown (text := tx) (a := q) hZ.1 hZ.2 (g := F0 m pc ls rest) rfl (by rw [hb]; exact hdg) t a1, b1⟩
end LDCW
theorem mu_up {x y z : Int32} {n : Nat} (c : ¬ y ≤ x) (e : z = x + 1) (h : (y.toInt - x.toInt).toNat < n + 1) : (y.toInt - z.toInt).toNat < n := by
  have h1 : x.toInt < y.toInt := Int32.lt_iff_toInt_lt.mp (Int32.not_le.mp c)
  have h2 : y.toInt < 2 ^ 31 := Int32.toInt_lt y
  have h3 : -2 ^ 31 ≤ x.toInt := Int32.le_toInt x
  have h4 : z.toInt = x.toInt + 1 := by
    rw [e, Int32.toInt_add]
    have e1 : (1 : Int32).toInt = 1 := by decide
    rw [e1, Int.bmod_def]
    omega
  omega
theorem nv_t1 {w : Cond} (i : Nat) (h : tables_1_1[i]? = some w) : w ∈ lw_tbl := List.mem_append_right _ (List.mem_append_left _ (List.mem_of_getElem? h))
theorem nv_t2 {w : Cond} (i : Nat) (h : tables_1_2[i]? = some w) : w ∈ lw_tbl := List.mem_append_right _ (List.mem_append_right _ (List.mem_append_left _ (List.mem_of_getElem? h)))
theorem nv_t3 {w : Cond} (i : Nat) (h : tables_1_3[i]? = some w) : w ∈ lw_tbl := List.mem_append_right _ (List.mem_append_right _ (List.mem_append_right _ (List.mem_append_left _ (List.mem_of_getElem? h))))
theorem nv_of {args : Array Value} {s : State} (hts : ∀ w ∈ lw_tbl, w.before args s = true) : nv s := by
  refine ⟨fun q hq => ?_, fun q hq => ?_⟩
  · simp only [nvF, List.mem_cons, List.not_mem_nil, or_false] at hq
    rcases hq with rfl | rfl | rfl | rfl | rfl | rfl | rfl
    · exact va_Nw.of rfl (hts _ (nv_t1 27 rfl))
    · exact va_Nw.of rfl (hts _ (nv_t1 29 rfl))
    · exact va_Nw.of rfl (hts _ (nv_t1 31 rfl))
    · exact va_Nw.of rfl (hts _ (nv_t1 33 rfl))
    · exact va_Nw.of rfl (hts _ (nv_t1 57 rfl))
    · exact va_Nw.of rfl (hts _ (nv_t1 59 rfl))
    · exact va_Nw.of rfl (hts _ (nv_t1 86 rfl))
  · simp only [nvM, List.mem_cons, List.not_mem_nil, or_false] at hq
    rcases hq with rfl | rfl | rfl | rfl | rfl
    · exact va_Nw.of rfl (hts _ (nv_t2 22 rfl))
    · exact va_Nw.of rfl (hts _ (nv_t2 40 rfl))
    · exact va_Nw.of rfl (hts _ (nv_t2 43 rfl))
    · exact va_Nw.of rfl (hts _ (nv_t2 75 rfl))
    · exact va_Nw.of rfl (hts _ (nv_t2 139 rfl))
theorem kk_0_0 : Cond.selects "NestedTags" yX3_beginText yX3_beginText ∈ tbW := tb_0 0 rfl rfl
theorem kk_0_1 : Cond.selects "NestedTags" yX3_readInValue yX3_readInValue ∈ tbW := tb_0 1 rfl rfl
theorem kk_0_2 : Cond.selects "NestedTags" yX3_addPiece yX3_addPiece ∈ tbW := tb_0 2 rfl rfl
theorem kk_0_3 : Cond.selects "NestedTags" yX3_readReference yX3_readReference ∈ tbW := tb_0 3 rfl rfl
theorem kk_0_4 : Cond.selects "NestedTags" yX3_readNumber yX3_readNumber ∈ tbW := tb_0 4 rfl rfl
theorem kk_0_5 : Cond.selects "NestedTags" yX3_isKnownReference yX3_isKnownReference ∈ tbW := tb_0 5 rfl rfl
theorem kk_0_6 : Cond.selects "NestedTags" yX3_readInTag yX3_readInTag ∈ tbW := tb_0 6 rfl rfl
theorem kk_0_7 : Cond.selects "NestedTags" yX3_readAttributeName yX3_readAttributeName ∈ tbW := tb_0 7 rfl rfl
theorem kk_0_8 : Cond.selects "NestedTags$Names" yX1_isAt yX1_isAt ∈ tbW := tb_0 8 rfl rfl
theorem kk_0_9 : Cond.selects "NestedTags" yX3_readToValue yX3_readToValue ∈ tbW := tb_0 9 rfl rfl
theorem kk_0_10 : Cond.selects "NestedTags" yX3_endStartTag yX3_endStartTag ∈ tbW := tb_0 10 rfl rfl
theorem kk_0_11 : Cond.selects "NestedTags" yX3_endEmptyTag yX3_endEmptyTag ∈ tbW := tb_0 11 rfl rfl
theorem kk_0_12 : Cond.selects "NestedTags" yX3_readBetween yX3_readBetween ∈ tbW := tb_0 12 rfl rfl
theorem kk_0_13 : Cond.selects "NestedTags" yX3_readMarkup yX3_readMarkup ∈ tbW := tb_0 13 rfl rfl
theorem kk_0_14 : Cond.selects "NestedTags" yX3_readInstruction yX3_readInstruction ∈ tbW := tb_0 14 rfl rfl
theorem kk_0_15 : Cond.selects "NestedTags" yX3_isReserved yX3_isReserved ∈ tbW := tb_0 15 rfl rfl
theorem kk_0_16 : Cond.selects "NestedTags" yX3_readComment yX3_readComment ∈ tbW := tb_0 16 rfl rfl
theorem kk_0_17 : Cond.selects "NestedTags" yX3_readSection yX3_readSection ∈ tbW := tb_0 17 rfl rfl
theorem kk_0_18 : Cond.selects "NestedTags" yX3_readEndTag yX3_readEndTag ∈ tbW := tb_0 18 rfl rfl
theorem kk_0_19 : Cond.selects "NestedTags" yX3_readTagName yX3_readTagName ∈ tbW := tb_0 19 rfl rfl
theorem kk_0_20 : Cond.selects "NestedTags" yX3_readContentReference yX3_readContentReference ∈ tbW := tb_0 20 rfl rfl
theorem kk_0_21 : Cond.selects "NestedTags" yX3_readCharacters yX3_readCharacters ∈ tbW := tb_0 21 rfl rfl
theorem kk_0_22 : Cond.selects "NestedTags" yX3_endText yX3_endText ∈ tbW := tb_0 22 rfl rfl
theorem kk_0_23 : Cond.selects "NestedTagsModel" yX4_step yX4_step ∈ tbW := tb_0 23 rfl rfl
theorem kk_0_24 : Cond.selects "NestedTagsModel" yX4_go yX4_go ∈ tbW := tb_0 24 rfl rfl
theorem kk_0_25 : Cond.selects "NestedTagsModel" yX4_wrong yX4_wrong ∈ tbW := tb_0 25 rfl rfl
theorem kk_0_26 : Cond.selects "NestedTagsModel" yX4_fail yX4_fail ∈ tbW := tb_0 26 rfl rfl
theorem kk_0_27 : Cond.selects "NestedTagsModel" yX4_less yX4_less ∈ tbW := tb_0 27 rfl rfl
theorem kk_0_28 : Cond.selects "NestedTagsModel" yX4_bang yX4_bang ∈ tbW := tb_0 28 rfl rfl
theorem kk_0_29 : Cond.selects "NestedTagsModel" yX4_text yX4_text ∈ tbW := tb_0 29 rfl rfl
theorem kk_0_30 : Cond.selects "NestedTagsModel" yX4_closed yX4_closed ∈ tbW := tb_0 30 rfl rfl
theorem kk_0_31 : Cond.selects "NestedTagsModel" yX4_add yX4_add ∈ tbW := tb_0 31 rfl rfl
theorem kk_0_32 : Cond.selects "NestedTagsModel" yX4_nameFrom yX4_nameFrom ∈ tbW := tb_0 32 rfl rfl
theorem kk_0_33 : Cond.selects "NestedTagsModel" yX4_target yX4_target ∈ tbW := tb_0 33 rfl rfl
theorem kk_0_34 : Cond.selects "NestedTagsModel" yX4_isBarred yX4_isBarred ∈ tbW := tb_0 34 rfl rfl
theorem kk_0_35 : Cond.selects "NestedTagsModel" yX4_endName yX4_endName ∈ tbW := tb_0 35 rfl rfl
theorem kk_0_36 : Cond.selects "NestedTagsModel" yX4_same yX4_same ∈ tbW := tb_0 36 rfl rfl
theorem kk_0_37 : Cond.selects "NestedTagsModel" yX4_end yX4_end ∈ tbW := tb_0 37 rfl rfl
theorem kk_0_38 : Cond.selects "NestedTagsModel" yX4_tagName yX4_tagName ∈ tbW := tb_0 38 rfl rfl
theorem kk_0_39 : Cond.selects "NestedTagsModel" yX4_start yX4_start ∈ tbW := tb_0 39 rfl rfl
theorem kk_0_40 : Cond.selects "NestedTagsModel" yX4_inTag yX4_inTag ∈ tbW := tb_0 40 rfl rfl
theorem kk_0_41 : Cond.selects "NestedTagsModel" yX4_attributeName yX4_attributeName ∈ tbW := tb_0 41 rfl rfl
theorem kk_0_42 : Cond.selects "NestedTagsModel" yX4_equal yX4_equal ∈ tbW := tb_0 42 rfl rfl
theorem kk_0_43 : Cond.selects "NestedTagsModel" yX4_value yX4_value ∈ tbW := tb_0 43 rfl rfl
theorem kk_0_44 : Cond.selects "NestedTagsModel" yX4_empty yX4_empty ∈ tbW := tb_0 44 rfl rfl
theorem kk_0_45 : Cond.selects "NestedTagsModel" yX4_section yX4_section ∈ tbW := tb_0 45 rfl rfl
theorem kk_0_46 : Cond.selects "NestedTagsModel" yX4_content yX4_content ∈ tbW := tb_0 46 rfl rfl
theorem kk_0_47 : Cond.selects "NestedTagsModel" yX4_closeCharacters yX4_closeCharacters ∈ tbW := tb_0 47 rfl rfl
theorem kk_0_48 : Cond.selects "NestedTagsModel" yX4_refer yX4_refer ∈ tbW := tb_0 48 rfl rfl
theorem kk_0_49 : Cond.selects "NestedTagsModel" yX4_referredName yX4_referredName ∈ tbW := tb_0 49 rfl rfl
theorem kk_0_50 : Cond.selects "NestedTagsModel" yX4_is yX4_is ∈ tbW := tb_0 50 rfl rfl
theorem kk_0_51 : Cond.selects "NestedTagsModel" yX4_referred yX4_referred ∈ tbW := tb_0 51 rfl rfl
theorem kk_0_52 : Cond.selects "NestedTagsModel" yX4_digit yX4_digit ∈ tbW := tb_0 52 rfl rfl
theorem kk_1_0 : Cond.initialized "NestedTagsLaw" ∈ tbW := tb_1 0 rfl rfl
theorem kk_1_1 : Cond.initialized "NestedTags" ∈ tbW := tb_1 1 rfl rfl
theorem kk_1_2 : Cond.initialized "NestedTags$Cursor" ∈ tbW := tb_1 2 rfl rfl
theorem kk_1_3 : Cond.initialized "NestedTags$Pieces" ∈ tbW := tb_1 3 rfl rfl
theorem kk_1_4 : Cond.initialized "NestedTags$Names" ∈ tbW := tb_1 4 rfl rfl
theorem kk_1_5 : Cond.initialized "java/lang/Math" ∈ tbW := tb_1 5 rfl rfl
theorem kk_1_6 : Cond.initialized "NestedTagsModel" ∈ tbW := tb_1 6 rfl rfl
theorem kk_1_7 : Cond.initialized "java/lang/String" ∈ tbW := tb_1 7 rfl rfl
theorem kk_1_8 : Cond.initialized "java/lang/StringLatin1" ∈ tbW := tb_1 8 rfl rfl
theorem kk_1_9 : Cond.initialized "jdk/internal/util/Preconditions" ∈ tbW := tb_1 9 rfl rfl
theorem kk_1_10 : Cond.initialized "java/lang/StringUTF16" ∈ tbW := tb_1 10 rfl rfl
theorem kk_1_11 : Cond.classLink "NestedTagsLaw" 7 "NestedTags" ∈ tbW := tb_1 11 rfl rfl
theorem kk_1_12 : Cond.instantiable "NestedTags" 14 ∈ tbW := tb_1 12 rfl rfl
theorem kk_1_13 : Cond.methodLink "NestedTagsLaw" 9 yX3_init ∈ tbW := tb_1 13 rfl rfl
theorem kk_1_14 : Cond.instanceMethod yX3_init ∈ tbW := tb_1 14 rfl rfl
theorem kk_1_15 : Cond.code yX3_init cX3_init 1 none ∈ tbW := tb_1 15 rfl rfl
theorem kk_1_16 : Cond.methodLink "NestedTags" 1 objectInit ∈ tbW := tb_1 16 rfl rfl
theorem kk_1_17 : Cond.instanceMethod objectInit ∈ tbW := tb_1 17 rfl rfl
theorem kk_1_19 : Cond.classLink "NestedTags" 13 "NestedTags$Cursor" ∈ tbW := tb_1 19 rfl rfl
theorem kk_1_20 : Cond.instantiable "NestedTags$Cursor" 5 ∈ tbW := tb_1 20 rfl rfl
theorem kk_1_21 : Cond.methodLink "NestedTags" 15 yX0_init ∈ tbW := tb_1 21 rfl rfl
theorem kk_1_22 : Cond.instanceMethod yX0_init ∈ tbW := tb_1 22 rfl rfl
theorem kk_1_23 : Cond.code yX0_init cX0_init 1 none ∈ tbW := tb_1 23 rfl rfl
theorem kk_1_24 : Cond.methodLink "NestedTags$Cursor" 3 objectInit ∈ tbW := tb_1 24 rfl rfl
theorem kk_1_25 : Cond.fieldLink "NestedTags$Cursor" 9 "NestedTags$Cursor" "bytes" "[I" ∈ tbW := tb_1 25 rfl rfl
theorem kk_1_26 : Cond.fieldLink "NestedTags$Cursor" 22 "NestedTags$Cursor" "length" "I" ∈ tbW := tb_1 26 rfl rfl
theorem kk_1_28 : Cond.fieldLink "NestedTags$Cursor" 25 "NestedTags$Cursor" "at" "I" ∈ tbW := tb_1 28 rfl rfl
theorem kk_1_30 : Cond.fieldLink "NestedTags$Cursor" 15 "NestedTags$Cursor" "fault" "I" ∈ tbW := tb_1 30 rfl rfl
theorem kk_1_32 : Cond.fieldLink "NestedTags$Cursor" 19 "NestedTags$Cursor" "faultPlace" "I" ∈ tbW := tb_1 32 rfl rfl
theorem kk_1_45 : Cond.arrayClass .int ∈ tbW := tb_1 45 rfl rfl
theorem kk_1_46 : Cond.classLink "NestedTags" 20 "NestedTags$Pieces" ∈ tbW := tb_1 46 rfl rfl
theorem kk_1_47 : Cond.instantiable "NestedTags$Pieces" 6 ∈ tbW := tb_1 47 rfl rfl
theorem kk_1_48 : Cond.methodLink "NestedTags" 22 yX2_init ∈ tbW := tb_1 48 rfl rfl
theorem kk_1_49 : Cond.instanceMethod yX2_init ∈ tbW := tb_1 49 rfl rfl
theorem kk_1_50 : Cond.code yX2_init cX2_init 1 none ∈ tbW := tb_1 50 rfl rfl
theorem kk_1_51 : Cond.methodLink "NestedTags$Pieces" 3 objectInit ∈ tbW := tb_1 51 rfl rfl
theorem kk_1_52 : Cond.fieldLink "NestedTags$Pieces" 9 "NestedTags$Pieces" "kinds" "[I" ∈ tbW := tb_1 52 rfl rfl
theorem kk_1_53 : Cond.fieldLink "NestedTags$Pieces" 15 "NestedTags$Pieces" "begins" "[I" ∈ tbW := tb_1 53 rfl rfl
theorem kk_1_54 : Cond.fieldLink "NestedTags$Pieces" 18 "NestedTags$Pieces" "ends" "[I" ∈ tbW := tb_1 54 rfl rfl
theorem kk_1_55 : Cond.fieldLink "NestedTags$Pieces" 21 "NestedTags$Pieces" "depths" "[I" ∈ tbW := tb_1 55 rfl rfl
theorem kk_1_56 : Cond.fieldLink "NestedTags$Pieces" 24 "NestedTags$Pieces" "size" "I" ∈ tbW := tb_1 56 rfl rfl
theorem kk_1_58 : Cond.fieldLink "NestedTags$Pieces" 28 "NestedTags$Pieces" "attributes" "I" ∈ tbW := tb_1 58 rfl rfl
theorem kk_1_73 : Cond.classLink "NestedTags" 27 "NestedTags$Names" ∈ tbW := tb_1 73 rfl rfl
theorem kk_1_74 : Cond.instantiable "NestedTags$Names" 4 ∈ tbW := tb_1 74 rfl rfl
theorem kk_1_75 : Cond.methodLink "NestedTags" 29 yX1_init ∈ tbW := tb_1 75 rfl rfl
theorem kk_1_76 : Cond.instanceMethod yX1_init ∈ tbW := tb_1 76 rfl rfl
theorem kk_1_77 : Cond.code yX1_init cX1_init 2 none ∈ tbW := tb_1 77 rfl rfl
theorem kk_1_78 : Cond.methodLink "NestedTags$Names" 1 objectInit ∈ tbW := tb_1 78 rfl rfl
theorem kk_1_79 : Cond.methodLink "NestedTags$Names" 7 Lib.Math.max.name ∈ tbW := tb_1 79 rfl rfl
theorem kk_1_80 : Cond.static Lib.Math.max.name ∈ tbW := tb_1 80 rfl rfl
theorem kk_1_81 : Cond.code yJ9_max_7cf53 cJ9_max_7cf53 2 (some .int) ∈ tbW := tb_1 81 rfl rfl
theorem kk_1_82 : Cond.fieldLink "NestedTags$Names" 19 "NestedTags$Names" "begins" "[I" ∈ tbW := tb_1 82 rfl rfl
theorem kk_1_83 : Cond.fieldLink "NestedTags$Names" 23 "NestedTags$Names" "ends" "[I" ∈ tbW := tb_1 83 rfl rfl
theorem kk_1_84 : Cond.fieldLink "NestedTags$Names" 13 "NestedTags$Names" "limit" "I" ∈ tbW := tb_1 84 rfl rfl
theorem kk_1_85 : Cond.fieldLink "NestedTags$Names" 26 "NestedTags$Names" "size" "I" ∈ tbW := tb_1 85 rfl rfl
theorem kk_1_96 : Cond.fieldLink "NestedTags" 9 "NestedTags" "coming" "[I" ∈ tbW := tb_1 96 rfl rfl
theorem kk_1_97 : Cond.fieldLink "NestedTags" 43 "NestedTags" "comingLength" "I" ∈ tbW := tb_1 97 rfl rfl
theorem kk_1_98 : Cond.fieldLink "NestedTags" 16 "NestedTags" "cursor" "LNestedTags$Cursor;" ∈ tbW := tb_1 98 rfl rfl
theorem kk_1_99 : Cond.fieldLink "NestedTags" 23 "NestedTags" "pieces" "LNestedTags$Pieces;" ∈ tbW := tb_1 99 rfl rfl
theorem kk_1_100 : Cond.fieldLink "NestedTags" 32 "NestedTags" "openElements" "LNestedTags$Names;" ∈ tbW := tb_1 100 rfl rfl
theorem kk_1_101 : Cond.fieldLink "NestedTags" 36 "NestedTags" "tagAttributes" "LNestedTags$Names;" ∈ tbW := tb_1 101 rfl rfl
theorem kk_1_102 : Cond.fieldLink "NestedTags" 86 "NestedTags" "elements" "I" ∈ tbW := tb_1 102 rfl rfl
theorem kk_1_103 : Cond.fieldLink "NestedTags" 89 "NestedTags" "mostOpen" "I" ∈ tbW := tb_1 103 rfl rfl
theorem kk_1_104 : Cond.fieldLink "NestedTags" 56 "NestedTags" "inTag" "Z" ∈ tbW := tb_1 104 rfl rfl
theorem kk_1_105 : Cond.fieldLink "NestedTags" 222 "NestedTags" "tagBegin" "I" ∈ tbW := tb_1 105 rfl rfl
theorem kk_1_106 : Cond.fieldLink "NestedTags" 225 "NestedTags" "tagNameBegin" "I" ∈ tbW := tb_1 106 rfl rfl
theorem kk_1_107 : Cond.fieldLink "NestedTags" 230 "NestedTags" "tagNameEnd" "I" ∈ tbW := tb_1 107 rfl rfl
theorem kk_1_108 : Cond.fieldLink "NestedTags" 256 "NestedTags" "attributeBegin" "I" ∈ tbW := tb_1 108 rfl rfl
theorem kk_1_109 : Cond.fieldLink "NestedTags" 39 "NestedTags" "quote" "I" ∈ tbW := tb_1 109 rfl rfl
theorem kk_1_139 : Cond.methodLink "NestedTagsLaw" 15 yX3_put ∈ tbW := tb_1 139 rfl rfl
theorem kk_1_140 : Cond.instanceMethod yX3_put ∈ tbW := tb_1 140 rfl rfl
theorem kk_1_141 : Cond.selects "NestedTags" yX3_put yX3_put ∈ tbW := tb_1 141 rfl rfl
theorem kk_1_142 : Cond.code yX3_put cX3_put 5 (some .boolean) ∈ tbW := tb_1 142 rfl rfl
theorem kk_1_143 : Cond.methodLink "NestedTagsLaw" 20 yX3_read ∈ tbW := tb_1 143 rfl rfl
theorem kk_1_144 : Cond.instanceMethod yX3_read ∈ tbW := tb_1 144 rfl rfl
theorem kk_1_145 : Cond.selects "NestedTags" yX3_read yX3_read ∈ tbW := tb_1 145 rfl rfl
theorem kk_1_146 : Cond.code yX3_read cX3_read 2 (some .int) ∈ tbW := tb_1 146 rfl rfl
theorem kk_1_147 : Cond.methodLink "NestedTags" 46 yX3_beginText ∈ tbW := tb_1 147 rfl rfl
theorem kk_1_149 : Cond.instanceMethod yX3_beginText ∈ tbW := tb_1 149 rfl rfl
theorem kk_1_150 : Cond.code yX3_beginText cX3_beginText 1 none ∈ tbW := tb_1 150 rfl rfl
theorem kk_1_151 : Cond.methodLink "NestedTags" 95 yX0_begin ∈ tbW := tb_1 151 rfl rfl
theorem kk_1_152 : Cond.instanceMethod yX0_begin ∈ tbW := tb_1 152 rfl rfl
theorem kk_1_153 : Cond.selects "NestedTags$Cursor" yX0_begin yX0_begin ∈ tbW := tb_1 153 rfl rfl
theorem kk_1_154 : Cond.code yX0_begin cX0_begin 4 (some (.array .int)) ∈ tbW := tb_1 154 rfl rfl
theorem kk_1_155 : Cond.methodLink "NestedTags" 99 yX2_clear ∈ tbW := tb_1 155 rfl rfl
theorem kk_1_156 : Cond.instanceMethod yX2_clear ∈ tbW := tb_1 156 rfl rfl
theorem kk_1_157 : Cond.selects "NestedTags$Pieces" yX2_clear yX2_clear ∈ tbW := tb_1 157 rfl rfl
theorem kk_1_158 : Cond.code yX2_clear cX2_clear 1 none ∈ tbW := tb_1 158 rfl rfl
theorem kk_1_159 : Cond.methodLink "NestedTags" 102 yX1_clear ∈ tbW := tb_1 159 rfl rfl
theorem kk_1_160 : Cond.instanceMethod yX1_clear ∈ tbW := tb_1 160 rfl rfl
theorem kk_1_161 : Cond.selects "NestedTags$Names" yX1_clear yX1_clear ∈ tbW := tb_1 161 rfl rfl
theorem kk_1_162 : Cond.code yX1_clear cX1_clear 1 none ∈ tbW := tb_1 162 rfl rfl
theorem kk_1_163 : Cond.methodLink "NestedTags" 49 yX0_goesOn ∈ tbW := tb_1 163 rfl rfl
theorem kk_1_164 : Cond.instanceMethod yX0_goesOn ∈ tbW := tb_1 164 rfl rfl
theorem kk_1_165 : Cond.selects "NestedTags$Cursor" yX0_goesOn yX0_goesOn ∈ tbW := tb_1 165 rfl rfl
theorem kk_1_166 : Cond.code yX0_goesOn cX0_goesOn 1 (some .boolean) ∈ tbW := tb_1 166 rfl rfl
theorem kk_1_167 : Cond.methodLink "NestedTags" 53 yX3_readInValue ∈ tbW := tb_1 167 rfl rfl
theorem kk_1_169 : Cond.instanceMethod yX3_readInValue ∈ tbW := tb_1 169 rfl rfl
theorem kk_1_170 : Cond.code yX3_readInValue cX3_readInValue 2 none ∈ tbW := tb_1 170 rfl rfl
theorem kk_1_171 : Cond.methodLink "NestedTags" 107 yX0_here ∈ tbW := tb_1 171 rfl rfl
theorem kk_1_172 : Cond.instanceMethod yX0_here ∈ tbW := tb_1 172 rfl rfl
theorem kk_1_173 : Cond.selects "NestedTags$Cursor" yX0_here yX0_here ∈ tbW := tb_1 173 rfl rfl
theorem kk_1_174 : Cond.code yX0_here cX0_here 1 (some .int) ∈ tbW := tb_1 174 rfl rfl
theorem kk_1_175 : Cond.methodLink "NestedTags$Cursor" 28 yX0_byteAt ∈ tbW := tb_1 175 rfl rfl
theorem kk_1_176 : Cond.instanceMethod yX0_byteAt ∈ tbW := tb_1 176 rfl rfl
theorem kk_1_177 : Cond.selects "NestedTags$Cursor" yX0_byteAt yX0_byteAt ∈ tbW := tb_1 177 rfl rfl
theorem kk_1_178 : Cond.code yX0_byteAt cX0_byteAt 2 (some .int) ∈ tbW := tb_1 178 rfl rfl
theorem kk_1_179 : Cond.methodLink "NestedTags" 169 yX3_addPiece ∈ tbW := tb_1 179 rfl rfl
theorem kk_1_181 : Cond.instanceMethod yX3_addPiece ∈ tbW := tb_1 181 rfl rfl
theorem kk_1_182 : Cond.code yX3_addPiece cX3_addPiece 3 (some .boolean) ∈ tbW := tb_1 182 rfl rfl
theorem kk_1_183 : Cond.methodLink "NestedTags" 267 yX2_add ∈ tbW := tb_1 183 rfl rfl
theorem kk_1_184 : Cond.instanceMethod yX2_add ∈ tbW := tb_1 184 rfl rfl
theorem kk_1_185 : Cond.selects "NestedTags$Pieces" yX2_add yX2_add ∈ tbW := tb_1 185 rfl rfl
theorem kk_1_186 : Cond.code yX2_add cX2_add 5 (some .boolean) ∈ tbW := tb_1 186 rfl rfl
theorem kk_1_187 : Cond.methodLink "NestedTags" 135 yX0_fail ∈ tbW := tb_1 187 rfl rfl
theorem kk_1_188 : Cond.instanceMethod yX0_fail ∈ tbW := tb_1 188 rfl rfl
theorem kk_1_189 : Cond.selects "NestedTags$Cursor" yX0_fail yX0_fail ∈ tbW := tb_1 189 rfl rfl
theorem kk_1_190 : Cond.code yX0_fail cX0_fail 3 (some .boolean) ∈ tbW := tb_1 190 rfl rfl
theorem kk_1_191 : Cond.methodLink "NestedTags" 194 yX3_readReference ∈ tbW := tb_1 191 rfl rfl
theorem kk_1_193 : Cond.instanceMethod yX3_readReference ∈ tbW := tb_1 193 rfl rfl
theorem kk_1_194 : Cond.code yX3_readReference cX3_readReference 4 (some .boolean) ∈ tbW := tb_1 194 rfl rfl
theorem kk_1_196 : Cond.methodLink "NestedTags" 151 yX0_expect ∈ tbW := tb_1 196 rfl rfl
theorem kk_1_197 : Cond.instanceMethod yX0_expect ∈ tbW := tb_1 197 rfl rfl
theorem kk_1_198 : Cond.selects "NestedTags$Cursor" yX0_expect yX0_expect ∈ tbW := tb_1 198 rfl rfl
theorem kk_1_199 : Cond.code yX0_expect cX0_expect 3 (some .boolean) ∈ tbW := tb_1 199 rfl rfl
theorem kk_1_200 : Cond.methodLink "NestedTags$Cursor" 36 yJ0_length_8abf5 ∈ tbW := tb_1 200 rfl rfl
theorem kk_1_201 : Cond.instanceMethod yJ0_length_8abf5 ∈ tbW := tb_1 201 rfl rfl
theorem kk_1_202 : Cond.selects "java/lang/String" yJ0_length_8abf5 yJ0_length_8abf5 ∈ tbW := tb_1 202 rfl rfl
theorem kk_1_203 : Cond.code yJ0_length_8abf5 cJ0_length_8abf5 1 (some .int) ∈ tbW := tb_1 203 rfl rfl
theorem kk_1_204 : Cond.methodLink "java/lang/String" 335 yJ0_coder_7d493 ∈ tbW := tb_1 204 rfl rfl
theorem kk_1_205 : Cond.instanceMethod yJ0_coder_7d493 ∈ tbW := tb_1 205 rfl rfl
theorem kk_1_206 : Cond.selects "java/lang/String" yJ0_coder_7d493 yJ0_coder_7d493 ∈ tbW := tb_1 206 rfl rfl
theorem kk_1_207 : Cond.code yJ0_coder_7d493 cJ0_coder_7d493 1 (some .byte) ∈ tbW := tb_1 207 rfl rfl
theorem kk_1_208 : Cond.fieldLink "java/lang/String" 38 "java/lang/String" "COMPACT_STRINGS" "Z" ∈ tbW := tb_1 208 rfl rfl
theorem kk_1_210 : Cond.methodLink "NestedTags$Cursor" 49 yX0_here ∈ tbW := tb_1 210 rfl rfl
theorem kk_1_211 : Cond.methodLink "NestedTags$Cursor" 41 yJ0_charAt_5068e ∈ tbW := tb_1 211 rfl rfl
theorem kk_1_212 : Cond.instanceMethod yJ0_charAt_5068e ∈ tbW := tb_1 212 rfl rfl
theorem kk_1_213 : Cond.selects "java/lang/String" yJ0_charAt_5068e yJ0_charAt_5068e ∈ tbW := tb_1 213 rfl rfl
theorem kk_1_214 : Cond.code yJ0_charAt_5068e cJ0_charAt_5068e 2 (some .char) ∈ tbW := tb_1 214 rfl rfl
theorem kk_1_215 : Cond.methodLink "java/lang/String" 492 yJ0_isLatin1_aae02 ∈ tbW := tb_1 215 rfl rfl
theorem kk_1_216 : Cond.instanceMethod yJ0_isLatin1_aae02 ∈ tbW := tb_1 216 rfl rfl
theorem kk_1_217 : Cond.selects "java/lang/String" yJ0_isLatin1_aae02 yJ0_isLatin1_aae02 ∈ tbW := tb_1 217 rfl rfl
theorem kk_1_218 : Cond.code yJ0_isLatin1_aae02 cJ0_isLatin1_aae02 1 (some .boolean) ∈ tbW := tb_1 218 rfl rfl
theorem kk_1_219 : Cond.methodLink "java/lang/String" 495 yJ1_charAt_3b067 ∈ tbW := tb_1 219 rfl rfl
theorem kk_1_220 : Cond.static yJ1_charAt_3b067 ∈ tbW := tb_1 220 rfl rfl
theorem kk_1_221 : Cond.code yJ1_charAt_3b067 cJ1_charAt_3b067 2 (some .char) ∈ tbW := tb_1 221 rfl rfl
theorem kk_1_222 : Cond.methodLink "java/lang/StringLatin1" 9 yJ0_checkIndex_df160 ∈ tbW := tb_1 222 rfl rfl
theorem kk_1_223 : Cond.static yJ0_checkIndex_df160 ∈ tbW := tb_1 223 rfl rfl
theorem kk_1_224 : Cond.code yJ0_checkIndex_df160 cJ0_checkIndex_df160 2 none ∈ tbW := tb_1 224 rfl rfl
theorem kk_1_225 : Cond.fieldLink "java/lang/String" 1053 "jdk/internal/util/Preconditions" "SIOOBE_FORMATTER" "Ljava/util/function/BiFunction;" ∈ tbW := tb_1 225 rfl rfl
theorem kk_1_227 : Cond.methodLink "java/lang/String" 1059 yJ3_checkIndex_8e157 ∈ tbW := tb_1 227 rfl rfl
theorem kk_1_228 : Cond.static yJ3_checkIndex_8e157 ∈ tbW := tb_1 228 rfl rfl
theorem kk_1_229 : Cond.code yJ3_checkIndex_8e157 cJ3_checkIndex_8e157 3 (some .int) ∈ tbW := tb_1 229 rfl rfl
theorem kk_1_230 : Cond.methodLink "java/lang/String" 498 yJ2_charAt_3b067 ∈ tbW := tb_1 230 rfl rfl
theorem kk_1_231 : Cond.static yJ2_charAt_3b067 ∈ tbW := tb_1 231 rfl rfl
theorem kk_1_232 : Cond.code yJ2_charAt_3b067 cJ2_charAt_3b067 2 (some .char) ∈ tbW := tb_1 232 rfl rfl
theorem kk_1_233 : Cond.methodLink "java/lang/StringUTF16" 67 yJ2_checkIndex_2214a ∈ tbW := tb_1 233 rfl rfl
theorem kk_1_234 : Cond.static yJ2_checkIndex_2214a ∈ tbW := tb_1 234 rfl rfl
theorem kk_1_235 : Cond.code yJ2_checkIndex_2214a cJ2_checkIndex_2214a 2 none ∈ tbW := tb_1 235 rfl rfl
theorem kk_1_236 : Cond.methodLink "java/lang/StringUTF16" 48 yJ2_length_9d52b ∈ tbW := tb_1 236 rfl rfl
theorem kk_1_237 : Cond.static yJ2_length_9d52b ∈ tbW := tb_1 237 rfl rfl
theorem kk_1_238 : Cond.code yJ2_length_9d52b cJ2_length_9d52b 1 (some .int) ∈ tbW := tb_1 238 rfl rfl
theorem kk_1_239 : Cond.methodLink "java/lang/StringUTF16" 414 yJ0_checkIndex_df160 ∈ tbW := tb_1 239 rfl rfl
theorem kk_2_0 : Cond.methodLink "java/lang/StringUTF16" 71 yJ2_getChar_3b067 ∈ tbW := tb_2 0 rfl rfl
theorem kk_2_1 : Cond.static yJ2_getChar_3b067 ∈ tbW := tb_2 1 rfl rfl
theorem kk_2_2 : Cond.code yJ2_getChar_3b067 cJ2_getChar_3b067 2 (some .char) ∈ tbW := tb_2 2 rfl rfl
theorem kk_2_3 : Cond.fieldLink "java/lang/StringUTF16" 44 "java/lang/StringUTF16" "$assertionsDisabled" "Z" ∈ tbW := tb_2 3 rfl rfl
theorem kk_2_5 : Cond.fieldLink "java/lang/StringUTF16" 59 "java/lang/StringUTF16" "HI_BYTE_SHIFT" "I" ∈ tbW := tb_2 5 rfl rfl
theorem kk_2_7 : Cond.fieldLink "java/lang/StringUTF16" 63 "java/lang/StringUTF16" "LO_BYTE_SHIFT" "I" ∈ tbW := tb_2 7 rfl rfl
theorem kk_2_9 : Cond.methodLink "NestedTags$Cursor" 52 yX0_failHere ∈ tbW := tb_2 9 rfl rfl
theorem kk_2_10 : Cond.instanceMethod yX0_failHere ∈ tbW := tb_2 10 rfl rfl
theorem kk_2_11 : Cond.selects "NestedTags$Cursor" yX0_failHere yX0_failHere ∈ tbW := tb_2 11 rfl rfl
theorem kk_2_12 : Cond.code yX0_failHere cX0_failHere 1 (some .boolean) ∈ tbW := tb_2 12 rfl rfl
theorem kk_2_13 : Cond.methodLink "NestedTags$Cursor" 32 yX0_fail ∈ tbW := tb_2 13 rfl rfl
theorem kk_2_14 : Cond.methodLink "NestedTags" 199 yX3_readNumber ∈ tbW := tb_2 14 rfl rfl
theorem kk_2_16 : Cond.instanceMethod yX3_readNumber ∈ tbW := tb_2 16 rfl rfl
theorem kk_2_17 : Cond.code yX3_readNumber cX3_readNumber 5 (some .boolean) ∈ tbW := tb_2 17 rfl rfl
theorem kk_2_18 : Cond.methodLink "NestedTags" 207 yX0_passNumber ∈ tbW := tb_2 18 rfl rfl
theorem kk_2_19 : Cond.instanceMethod yX0_passNumber ∈ tbW := tb_2 19 rfl rfl
theorem kk_2_20 : Cond.selects "NestedTags$Cursor" yX0_passNumber yX0_passNumber ∈ tbW := tb_2 20 rfl rfl
theorem kk_2_21 : Cond.code yX0_passNumber cX0_passNumber 3 (some .int) ∈ tbW := tb_2 21 rfl rfl
theorem kk_2_23 : Cond.static yX3_digitOf ∈ tbW := tb_2 23 rfl rfl
theorem kk_2_24 : Cond.code yX3_digitOf cX3_digitOf 2 (some .int) ∈ tbW := tb_2 24 rfl rfl
theorem kk_2_25 : Cond.methodLink "NestedTags$Cursor" 70 Lib.Math.min.name ∈ tbW := tb_2 25 rfl rfl
theorem kk_2_26 : Cond.static Lib.Math.min.name ∈ tbW := tb_2 26 rfl rfl
theorem kk_2_27 : Cond.code yJ9_min_7cf53 cJ9_min_7cf53 2 (some .int) ∈ tbW := tb_2 27 rfl rfl
theorem kk_2_28 : Cond.methodLink "NestedTags" 104 yX0_failHere ∈ tbW := tb_2 28 rfl rfl
theorem kk_2_30 : Cond.methodLink "NestedTags" 210 yX3_isCharacter ∈ tbW := tb_2 30 rfl rfl
theorem kk_2_31 : Cond.static yX3_isCharacter ∈ tbW := tb_2 31 rfl rfl
theorem kk_2_32 : Cond.code yX3_isCharacter cX3_isCharacter 1 (some .boolean) ∈ tbW := tb_2 32 rfl rfl
theorem kk_2_33 : Cond.methodLink "NestedTags" 161 yX3_isBlank ∈ tbW := tb_2 33 rfl rfl
theorem kk_2_34 : Cond.static yX3_isBlank ∈ tbW := tb_2 34 rfl rfl
theorem kk_2_35 : Cond.code yX3_isBlank cX3_isBlank 1 (some .boolean) ∈ tbW := tb_2 35 rfl rfl
theorem kk_2_36 : Cond.methodLink "NestedTags" 155 yX0_passName ∈ tbW := tb_2 36 rfl rfl
theorem kk_2_37 : Cond.instanceMethod yX0_passName ∈ tbW := tb_2 37 rfl rfl
theorem kk_2_38 : Cond.selects "NestedTags$Cursor" yX0_passName yX0_passName ∈ tbW := tb_2 38 rfl rfl
theorem kk_2_39 : Cond.code yX0_passName cX0_passName 1 (some .boolean) ∈ tbW := tb_2 39 rfl rfl
theorem kk_2_41 : Cond.static yX3_isNameStart ∈ tbW := tb_2 41 rfl rfl
theorem kk_2_42 : Cond.code yX3_isNameStart cX3_isNameStart 1 (some .boolean) ∈ tbW := tb_2 42 rfl rfl
theorem kk_2_44 : Cond.static yX3_isNamePart ∈ tbW := tb_2 44 rfl rfl
theorem kk_2_45 : Cond.code yX3_isNamePart cX3_isNamePart 1 (some .boolean) ∈ tbW := tb_2 45 rfl rfl
theorem kk_2_46 : Cond.methodLink "NestedTags" 142 yX3_isNameStart ∈ tbW := tb_2 46 rfl rfl
theorem kk_2_47 : Cond.methodLink "NestedTags" 202 yX3_isKnownReference ∈ tbW := tb_2 47 rfl rfl
theorem kk_2_49 : Cond.instanceMethod yX3_isKnownReference ∈ tbW := tb_2 49 rfl rfl
theorem kk_2_50 : Cond.code yX3_isKnownReference cX3_isKnownReference 3 (some .boolean) ∈ tbW := tb_2 50 rfl rfl
theorem kk_2_52 : Cond.methodLink "NestedTags" 272 yX0_isWord ∈ tbW := tb_2 52 rfl rfl
theorem kk_2_53 : Cond.instanceMethod yX0_isWord ∈ tbW := tb_2 53 rfl rfl
theorem kk_2_54 : Cond.selects "NestedTags$Cursor" yX0_isWord yX0_isWord ∈ tbW := tb_2 54 rfl rfl
theorem kk_2_55 : Cond.code yX0_isWord cX0_isWord 4 (some .boolean) ∈ tbW := tb_2 55 rfl rfl
theorem kk_2_56 : Cond.methodLink "NestedTags$Cursor" 45 yX0_standsAt ∈ tbW := tb_2 56 rfl rfl
theorem kk_2_57 : Cond.instanceMethod yX0_standsAt ∈ tbW := tb_2 57 rfl rfl
theorem kk_2_58 : Cond.selects "NestedTags$Cursor" yX0_standsAt yX0_standsAt ∈ tbW := tb_2 58 rfl rfl
theorem kk_2_59 : Cond.code yX0_standsAt cX0_standsAt 4 (some .boolean) ∈ tbW := tb_2 59 rfl rfl
theorem kk_2_64 : Cond.methodLink "NestedTags" 185 yX3_isContentCharacter ∈ tbW := tb_2 64 rfl rfl
theorem kk_2_65 : Cond.static yX3_isContentCharacter ∈ tbW := tb_2 65 rfl rfl
theorem kk_2_66 : Cond.code yX3_isContentCharacter cX3_isContentCharacter 1 (some .boolean) ∈ tbW := tb_2 66 rfl rfl
theorem kk_2_67 : Cond.methodLink "NestedTags" 60 yX3_readInTag ∈ tbW := tb_2 67 rfl rfl
theorem kk_2_69 : Cond.instanceMethod yX3_readInTag ∈ tbW := tb_2 69 rfl rfl
theorem kk_2_70 : Cond.code yX3_readInTag cX3_readInTag 3 none ∈ tbW := tb_2 70 rfl rfl
theorem kk_2_71 : Cond.methodLink "NestedTags" 114 yX0_passBlanks ∈ tbW := tb_2 71 rfl rfl
theorem kk_2_72 : Cond.instanceMethod yX0_passBlanks ∈ tbW := tb_2 72 rfl rfl
theorem kk_2_73 : Cond.selects "NestedTags$Cursor" yX0_passBlanks yX0_passBlanks ∈ tbW := tb_2 73 rfl rfl
theorem kk_2_74 : Cond.code yX0_passBlanks cX0_passBlanks 2 (some .boolean) ∈ tbW := tb_2 74 rfl rfl
theorem kk_2_76 : Cond.methodLink "NestedTags" 236 yX3_readAttributeName ∈ tbW := tb_2 76 rfl rfl
theorem kk_2_78 : Cond.instanceMethod yX3_readAttributeName ∈ tbW := tb_2 78 rfl rfl
theorem kk_2_79 : Cond.code yX3_readAttributeName cX3_readAttributeName 1 none ∈ tbW := tb_2 79 rfl rfl
theorem kk_2_80 : Cond.methodLink "NestedTags" 259 yX1_has ∈ tbW := tb_2 80 rfl rfl
theorem kk_2_81 : Cond.instanceMethod yX1_has ∈ tbW := tb_2 81 rfl rfl
theorem kk_2_82 : Cond.selects "NestedTags$Names" yX1_has yX1_has ∈ tbW := tb_2 82 rfl rfl
theorem kk_2_83 : Cond.code yX1_has cX1_has 5 (some .boolean) ∈ tbW := tb_2 83 rfl rfl
theorem kk_2_84 : Cond.methodLink "NestedTags$Names" 29 yX1_isAt ∈ tbW := tb_2 84 rfl rfl
theorem kk_2_86 : Cond.instanceMethod yX1_isAt ∈ tbW := tb_2 86 rfl rfl
theorem kk_2_87 : Cond.code yX1_isAt cX1_isAt 5 (some .boolean) ∈ tbW := tb_2 87 rfl rfl
theorem kk_2_88 : Cond.methodLink "NestedTags$Names" 33 yX0_sameBytes ∈ tbW := tb_2 88 rfl rfl
theorem kk_2_89 : Cond.instanceMethod yX0_sameBytes ∈ tbW := tb_2 89 rfl rfl
theorem kk_2_90 : Cond.selects "NestedTags$Cursor" yX0_sameBytes yX0_sameBytes ∈ tbW := tb_2 90 rfl rfl
theorem kk_2_91 : Cond.code yX0_sameBytes cX0_sameBytes 5 (some .boolean) ∈ tbW := tb_2 91 rfl rfl
theorem kk_2_92 : Cond.methodLink "NestedTags" 233 yX1_isFull ∈ tbW := tb_2 92 rfl rfl
theorem kk_2_93 : Cond.instanceMethod yX1_isFull ∈ tbW := tb_2 93 rfl rfl
theorem kk_2_94 : Cond.selects "NestedTags$Names" yX1_isFull yX1_isFull ∈ tbW := tb_2 94 rfl rfl
theorem kk_2_95 : Cond.code yX1_isFull cX1_isFull 1 (some .boolean) ∈ tbW := tb_2 95 rfl rfl
theorem kk_2_96 : Cond.methodLink "NestedTags" 250 yX1_add ∈ tbW := tb_2 96 rfl rfl
theorem kk_2_97 : Cond.instanceMethod yX1_add ∈ tbW := tb_2 97 rfl rfl
theorem kk_2_98 : Cond.selects "NestedTags$Names" yX1_add yX1_add ∈ tbW := tb_2 98 rfl rfl
theorem kk_2_99 : Cond.code yX1_add cX1_add 3 none ∈ tbW := tb_2 99 rfl rfl
theorem kk_2_100 : Cond.methodLink "NestedTags" 262 yX3_readToValue ∈ tbW := tb_2 100 rfl rfl
theorem kk_2_102 : Cond.instanceMethod yX3_readToValue ∈ tbW := tb_2 102 rfl rfl
theorem kk_2_103 : Cond.code yX3_readToValue cX3_readToValue 2 none ∈ tbW := tb_2 103 rfl rfl
theorem kk_2_105 : Cond.methodLink "NestedTags" 239 yX3_endStartTag ∈ tbW := tb_2 105 rfl rfl
theorem kk_2_107 : Cond.instanceMethod yX3_endStartTag ∈ tbW := tb_2 107 rfl rfl
theorem kk_2_108 : Cond.code yX3_endStartTag cX3_endStartTag 1 none ∈ tbW := tb_2 108 rfl rfl
theorem kk_2_110 : Cond.methodLink "NestedTags" 245 Lib.Math.max.name ∈ tbW := tb_2 110 rfl rfl
theorem kk_2_111 : Cond.methodLink "NestedTags" 242 yX3_endEmptyTag ∈ tbW := tb_2 111 rfl rfl
theorem kk_2_113 : Cond.instanceMethod yX3_endEmptyTag ∈ tbW := tb_2 113 rfl rfl
theorem kk_2_114 : Cond.code yX3_endEmptyTag cX3_endEmptyTag 1 none ∈ tbW := tb_2 114 rfl rfl
theorem kk_2_116 : Cond.methodLink "NestedTags" 63 yX3_readBetween ∈ tbW := tb_2 116 rfl rfl
theorem kk_2_118 : Cond.instanceMethod yX3_readBetween ∈ tbW := tb_2 118 rfl rfl
theorem kk_2_119 : Cond.code yX3_readBetween cX3_readBetween 2 none ∈ tbW := tb_2 119 rfl rfl
theorem kk_2_120 : Cond.methodLink "NestedTags" 111 yX3_readMarkup ∈ tbW := tb_2 120 rfl rfl
theorem kk_2_122 : Cond.instanceMethod yX3_readMarkup ∈ tbW := tb_2 122 rfl rfl
theorem kk_2_123 : Cond.code yX3_readMarkup cX3_readMarkup 4 none ∈ tbW := tb_2 123 rfl rfl
theorem kk_2_124 : Cond.methodLink "NestedTags" 82 yX0_byteAt ∈ tbW := tb_2 124 rfl rfl
theorem kk_2_125 : Cond.methodLink "NestedTags" 126 yX3_readInstruction ∈ tbW := tb_2 125 rfl rfl
theorem kk_2_127 : Cond.instanceMethod yX3_readInstruction ∈ tbW := tb_2 127 rfl rfl
theorem kk_2_128 : Cond.code yX3_readInstruction cX3_readInstruction 4 none ∈ tbW := tb_2 128 rfl rfl
theorem kk_2_130 : Cond.methodLink "NestedTags" 158 yX3_isReserved ∈ tbW := tb_2 130 rfl rfl
theorem kk_2_132 : Cond.instanceMethod yX3_isReserved ∈ tbW := tb_2 132 rfl rfl
theorem kk_2_133 : Cond.code yX3_isReserved cX3_isReserved 3 (some .boolean) ∈ tbW := tb_2 133 rfl rfl
theorem kk_2_135 : Cond.methodLink "NestedTags" 166 yX0_passUntil ∈ tbW := tb_2 135 rfl rfl
theorem kk_2_136 : Cond.instanceMethod yX0_passUntil ∈ tbW := tb_2 136 rfl rfl
theorem kk_2_137 : Cond.selects "NestedTags$Cursor" yX0_passUntil yX0_passUntil ∈ tbW := tb_2 137 rfl rfl
theorem kk_2_138 : Cond.code yX0_passUntil cX0_passUntil 2 (some .boolean) ∈ tbW := tb_2 138 rfl rfl
theorem kk_2_140 : Cond.methodLink "NestedTags$Cursor" 78 yX0_expect ∈ tbW := tb_2 140 rfl rfl
theorem kk_2_141 : Cond.methodLink "NestedTags" 129 yX3_readComment ∈ tbW := tb_2 141 rfl rfl
theorem kk_2_143 : Cond.instanceMethod yX3_readComment ∈ tbW := tb_2 143 rfl rfl
theorem kk_2_144 : Cond.code yX3_readComment cX3_readComment 2 none ∈ tbW := tb_2 144 rfl rfl
theorem kk_2_147 : Cond.methodLink "NestedTags" 132 yX3_readSection ∈ tbW := tb_2 147 rfl rfl
theorem kk_2_149 : Cond.instanceMethod yX3_readSection ∈ tbW := tb_2 149 rfl rfl
theorem kk_2_150 : Cond.code yX3_readSection cX3_readSection 2 none ∈ tbW := tb_2 150 rfl rfl
theorem kk_2_153 : Cond.methodLink "NestedTags" 139 yX3_readEndTag ∈ tbW := tb_2 153 rfl rfl
theorem kk_2_155 : Cond.instanceMethod yX3_readEndTag ∈ tbW := tb_2 155 rfl rfl
theorem kk_2_156 : Cond.code yX3_readEndTag cX3_readEndTag 3 none ∈ tbW := tb_2 156 rfl rfl
theorem kk_2_158 : Cond.methodLink "NestedTags" 215 yX1_isLast ∈ tbW := tb_2 158 rfl rfl
theorem kk_2_159 : Cond.instanceMethod yX1_isLast ∈ tbW := tb_2 159 rfl rfl
theorem kk_2_160 : Cond.selects "NestedTags$Names" yX1_isLast yX1_isLast ∈ tbW := tb_2 160 rfl rfl
theorem kk_2_161 : Cond.code yX1_isLast cX1_isLast 4 (some .boolean) ∈ tbW := tb_2 161 rfl rfl
theorem kk_2_162 : Cond.methodLink "NestedTags" 219 yX1_dropLast ∈ tbW := tb_2 162 rfl rfl
theorem kk_2_163 : Cond.instanceMethod yX1_dropLast ∈ tbW := tb_2 163 rfl rfl
theorem kk_2_164 : Cond.selects "NestedTags$Names" yX1_dropLast yX1_dropLast ∈ tbW := tb_2 164 rfl rfl
theorem kk_2_165 : Cond.code yX1_dropLast cX1_dropLast 1 none ∈ tbW := tb_2 165 rfl rfl
theorem kk_2_166 : Cond.methodLink "NestedTags" 146 yX3_readTagName ∈ tbW := tb_2 166 rfl rfl
theorem kk_2_168 : Cond.instanceMethod yX3_readTagName ∈ tbW := tb_2 168 rfl rfl
theorem kk_2_169 : Cond.code yX3_readTagName cX3_readTagName 1 none ∈ tbW := tb_2 169 rfl rfl
theorem kk_2_171 : Cond.methodLink "NestedTags" 117 yX3_readContentReference ∈ tbW := tb_2 171 rfl rfl
theorem kk_2_173 : Cond.instanceMethod yX3_readContentReference ∈ tbW := tb_2 173 rfl rfl
theorem kk_2_174 : Cond.code yX3_readContentReference cX3_readContentReference 2 none ∈ tbW := tb_2 174 rfl rfl
theorem kk_2_175 : Cond.methodLink "NestedTags" 120 yX3_readCharacters ∈ tbW := tb_2 175 rfl rfl
theorem kk_2_177 : Cond.instanceMethod yX3_readCharacters ∈ tbW := tb_2 177 rfl rfl
theorem kk_2_178 : Cond.code yX3_readCharacters cX3_readCharacters 3 none ∈ tbW := tb_2 178 rfl rfl
theorem kk_2_180 : Cond.methodLink "NestedTags" 190 yX0_standsAt ∈ tbW := tb_2 180 rfl rfl
theorem kk_2_181 : Cond.methodLink "NestedTags" 66 yX3_endText ∈ tbW := tb_2 181 rfl rfl
theorem kk_2_183 : Cond.instanceMethod yX3_endText ∈ tbW := tb_2 183 rfl rfl
theorem kk_2_184 : Cond.code yX3_endText cX3_endText 2 none ∈ tbW := tb_2 184 rfl rfl
theorem kk_2_185 : Cond.arrayClass .byte ∈ tbW := tb_2 185 rfl rfl
theorem kk_2_186 : Cond.methodLink "NestedTagsLaw" 25 yX3_place ∈ tbW := tb_2 186 rfl rfl
theorem kk_2_187 : Cond.instanceMethod yX3_place ∈ tbW := tb_2 187 rfl rfl
theorem kk_2_188 : Cond.selects "NestedTags" yX3_place yX3_place ∈ tbW := tb_2 188 rfl rfl
theorem kk_2_189 : Cond.code yX3_place cX3_place 1 (some .int) ∈ tbW := tb_2 189 rfl rfl
theorem kk_2_190 : Cond.methodLink "NestedTagsLaw" 29 yX3_piece ∈ tbW := tb_2 190 rfl rfl
theorem kk_2_191 : Cond.instanceMethod yX3_piece ∈ tbW := tb_2 191 rfl rfl
theorem kk_2_192 : Cond.selects "NestedTags" yX3_piece yX3_piece ∈ tbW := tb_2 192 rfl rfl
theorem kk_2_193 : Cond.code yX3_piece cX3_piece 3 (some .int) ∈ tbW := tb_2 193 rfl rfl
theorem kk_2_194 : Cond.methodLink "NestedTags" 78 yX2_tell ∈ tbW := tb_2 194 rfl rfl
theorem kk_2_195 : Cond.instanceMethod yX2_tell ∈ tbW := tb_2 195 rfl rfl
theorem kk_2_196 : Cond.selects "NestedTags$Pieces" yX2_tell yX2_tell ∈ tbW := tb_2 196 rfl rfl
theorem kk_2_197 : Cond.code yX2_tell cX2_tell 3 (some .int) ∈ tbW := tb_2 197 rfl rfl
theorem kk_2_198 : Cond.methodLink "NestedTagsLaw" 34 yX3_byteOf ∈ tbW := tb_2 198 rfl rfl
theorem kk_2_199 : Cond.instanceMethod yX3_byteOf ∈ tbW := tb_2 199 rfl rfl
theorem kk_2_200 : Cond.selects "NestedTags" yX3_byteOf yX3_byteOf ∈ tbW := tb_2 200 rfl rfl
theorem kk_2_201 : Cond.code yX3_byteOf cX3_byteOf 2 (some .int) ∈ tbW := tb_2 201 rfl rfl
theorem kk_2_202 : Cond.methodLink "NestedTagsLaw" 39 yX3_count ∈ tbW := tb_2 202 rfl rfl
theorem kk_2_203 : Cond.instanceMethod yX3_count ∈ tbW := tb_2 203 rfl rfl
theorem kk_2_204 : Cond.selects "NestedTags" yX3_count yX3_count ∈ tbW := tb_2 204 rfl rfl
theorem kk_2_205 : Cond.code yX3_count cX3_count 2 (some .int) ∈ tbW := tb_2 205 rfl rfl
theorem kk_2_206 : Cond.classLink "NestedTagsLaw" 10 "NestedTagsModel" ∈ tbW := tb_2 206 rfl rfl
theorem kk_2_207 : Cond.instantiable "NestedTagsModel" 33 ∈ tbW := tb_2 207 rfl rfl
theorem kk_2_208 : Cond.methodLink "NestedTagsLaw" 12 yX4_init ∈ tbW := tb_2 208 rfl rfl
theorem kk_2_209 : Cond.instanceMethod yX4_init ∈ tbW := tb_2 209 rfl rfl
theorem kk_2_210 : Cond.code yX4_init cX4_init 1 none ∈ tbW := tb_2 210 rfl rfl
theorem kk_2_211 : Cond.methodLink "NestedTagsModel" 1 objectInit ∈ tbW := tb_2 211 rfl rfl
theorem kk_2_212 : Cond.fieldLink "NestedTagsModel" 7 "NestedTagsModel" "text" "[I" ∈ tbW := tb_2 212 rfl rfl
theorem kk_2_213 : Cond.fieldLink "NestedTagsModel" 44 "NestedTagsModel" "size" "I" ∈ tbW := tb_2 213 rfl rfl
theorem kk_2_214 : Cond.fieldLink "NestedTagsModel" 13 "NestedTagsModel" "read" "[I" ∈ tbW := tb_2 214 rfl rfl
theorem kk_2_215 : Cond.fieldLink "NestedTagsModel" 234 "NestedTagsModel" "length" "I" ∈ tbW := tb_2 215 rfl rfl
theorem kk_2_216 : Cond.fieldLink "NestedTagsModel" 66 "NestedTagsModel" "pieces" "I" ∈ tbW := tb_2 216 rfl rfl
theorem kk_2_217 : Cond.fieldLink "NestedTagsModel" 16 "NestedTagsModel" "kinds" "[I" ∈ tbW := tb_2 217 rfl rfl
theorem kk_2_218 : Cond.fieldLink "NestedTagsModel" 19 "NestedTagsModel" "begins" "[I" ∈ tbW := tb_2 218 rfl rfl
theorem kk_2_219 : Cond.fieldLink "NestedTagsModel" 22 "NestedTagsModel" "ends" "[I" ∈ tbW := tb_2 219 rfl rfl
theorem kk_2_220 : Cond.fieldLink "NestedTagsModel" 25 "NestedTagsModel" "depths" "[I" ∈ tbW := tb_2 220 rfl rfl
theorem kk_2_221 : Cond.fieldLink "NestedTagsModel" 72 "NestedTagsModel" "open" "I" ∈ tbW := tb_2 221 rfl rfl
theorem kk_2_222 : Cond.fieldLink "NestedTagsModel" 28 "NestedTagsModel" "names" "[I" ∈ tbW := tb_2 222 rfl rfl
theorem kk_2_223 : Cond.fieldLink "NestedTagsModel" 31 "NestedTagsModel" "sizes" "[I" ∈ tbW := tb_2 223 rfl rfl
theorem kk_2_224 : Cond.fieldLink "NestedTagsModel" 121 "NestedTagsModel" "attributes" "I" ∈ tbW := tb_2 224 rfl rfl
theorem kk_2_225 : Cond.fieldLink "NestedTagsModel" 34 "NestedTagsModel" "attributeAt" "[I" ∈ tbW := tb_2 225 rfl rfl
theorem kk_2_226 : Cond.fieldLink "NestedTagsModel" 37 "NestedTagsModel" "attributeSize" "[I" ∈ tbW := tb_2 226 rfl rfl
theorem kk_2_227 : Cond.fieldLink "NestedTagsModel" 118 "NestedTagsModel" "elements" "I" ∈ tbW := tb_2 227 rfl rfl
theorem kk_2_228 : Cond.fieldLink "NestedTagsModel" 102 "NestedTagsModel" "most" "I" ∈ tbW := tb_2 228 rfl rfl
theorem kk_2_229 : Cond.fieldLink "NestedTagsModel" 133 "NestedTagsModel" "values" "I" ∈ tbW := tb_2 229 rfl rfl
theorem kk_2_230 : Cond.fieldLink "NestedTagsModel" 40 "NestedTagsModel" "place" "I" ∈ tbW := tb_2 230 rfl rfl
theorem kk_2_231 : Cond.fieldLink "NestedTagsModel" 79 "NestedTagsModel" "phase" "I" ∈ tbW := tb_2 231 rfl rfl
theorem kk_2_232 : Cond.fieldLink "NestedTagsModel" 56 "NestedTagsModel" "state" "I" ∈ tbW := tb_2 232 rfl rfl
theorem kk_2_233 : Cond.fieldLink "NestedTagsModel" 59 "NestedTagsModel" "at" "I" ∈ tbW := tb_2 233 rfl rfl
theorem kk_2_234 : Cond.fieldLink "NestedTagsModel" 69 "NestedTagsModel" "begin" "I" ∈ tbW := tb_2 234 rfl rfl
theorem kk_2_235 : Cond.fieldLink "NestedTagsModel" 86 "NestedTagsModel" "name" "I" ∈ tbW := tb_2 235 rfl rfl
theorem kk_2_236 : Cond.fieldLink "NestedTagsModel" 136 "NestedTagsModel" "reference" "I" ∈ tbW := tb_2 236 rfl rfl
theorem kk_2_237 : Cond.fieldLink "NestedTagsModel" 96 "NestedTagsModel" "tag" "I" ∈ tbW := tb_2 237 rfl rfl
theorem kk_2_238 : Cond.fieldLink "NestedTagsModel" 99 "NestedTagsModel" "tagSize" "I" ∈ tbW := tb_2 238 rfl rfl
theorem kk_2_239 : Cond.fieldLink "NestedTagsModel" 130 "NestedTagsModel" "quote" "I" ∈ tbW := tb_2 239 rfl rfl
theorem kk_3_0 : Cond.fieldLink "NestedTagsModel" 149 "NestedTagsModel" "characters" "I" ∈ tbW := tb_3 0 rfl rfl
theorem kk_3_1 : Cond.fieldLink "NestedTagsModel" 152 "NestedTagsModel" "brackets" "I" ∈ tbW := tb_3 1 rfl rfl
theorem kk_3_2 : Cond.fieldLink "NestedTagsModel" 142 "NestedTagsModel" "matched" "I" ∈ tbW := tb_3 2 rfl rfl
theorem kk_3_3 : Cond.fieldLink "NestedTagsModel" 175 "NestedTagsModel" "number" "J" ∈ tbW := tb_3 3 rfl rfl
theorem kk_3_4 : Cond.fieldLink "NestedTagsModel" 53 "NestedTagsModel" "fault" "I" ∈ tbW := tb_3 4 rfl rfl
theorem kk_3_72 : Cond.methodLink "NestedTagsLaw" 19 yX4_put ∈ tbW := tb_3 72 rfl rfl
theorem kk_3_73 : Cond.instanceMethod yX4_put ∈ tbW := tb_3 73 rfl rfl
theorem kk_3_74 : Cond.selects "NestedTagsModel" yX4_put yX4_put ∈ tbW := tb_3 74 rfl rfl
theorem kk_3_75 : Cond.code yX4_put cX4_put 5 (some .boolean) ∈ tbW := tb_3 75 rfl rfl
theorem kk_3_76 : Cond.constantLong "NestedTagsModel" 47 255 ∈ tbW := tb_3 76 rfl rfl
theorem kk_3_77 : Cond.methodLink "NestedTagsLaw" 24 yX4_read ∈ tbW := tb_3 77 rfl rfl
theorem kk_3_78 : Cond.instanceMethod yX4_read ∈ tbW := tb_3 78 rfl rfl
theorem kk_3_79 : Cond.selects "NestedTagsModel" yX4_read yX4_read ∈ tbW := tb_3 79 rfl rfl
theorem kk_3_80 : Cond.code yX4_read cX4_read 2 (some .int) ∈ tbW := tb_3 80 rfl rfl
theorem kk_3_81 : Cond.methodLink "NestedTagsModel" 237 yX4_step ∈ tbW := tb_3 81 rfl rfl
theorem kk_3_83 : Cond.instanceMethod yX4_step ∈ tbW := tb_3 83 rfl rfl
theorem kk_3_84 : Cond.code yX4_step cX4_step 2 (some .int) ∈ tbW := tb_3 84 rfl rfl
theorem kk_3_85 : Cond.methodLink "NestedTagsModel" 89 yX4_isBlank ∈ tbW := tb_3 85 rfl rfl
theorem kk_3_86 : Cond.static yX4_isBlank ∈ tbW := tb_3 86 rfl rfl
theorem kk_3_87 : Cond.code yX4_isBlank cX4_isBlank 1 (some .boolean) ∈ tbW := tb_3 87 rfl rfl
theorem kk_3_88 : Cond.methodLink "NestedTagsModel" 82 yX4_go ∈ tbW := tb_3 88 rfl rfl
theorem kk_3_90 : Cond.instanceMethod yX4_go ∈ tbW := tb_3 90 rfl rfl
theorem kk_3_91 : Cond.code yX4_go cX4_go 2 (some .int) ∈ tbW := tb_3 91 rfl rfl
theorem kk_3_92 : Cond.methodLink "NestedTagsModel" 92 yX4_wrong ∈ tbW := tb_3 92 rfl rfl
theorem kk_3_94 : Cond.instanceMethod yX4_wrong ∈ tbW := tb_3 94 rfl rfl
theorem kk_3_95 : Cond.code yX4_wrong cX4_wrong 1 (some .int) ∈ tbW := tb_3 95 rfl rfl
theorem kk_3_96 : Cond.methodLink "NestedTagsModel" 62 yX4_fail ∈ tbW := tb_3 96 rfl rfl
theorem kk_3_98 : Cond.instanceMethod yX4_fail ∈ tbW := tb_3 98 rfl rfl
theorem kk_3_99 : Cond.code yX4_fail cX4_fail 3 (some .int) ∈ tbW := tb_3 99 rfl rfl
theorem kk_3_100 : Cond.methodLink "NestedTagsModel" 189 yX4_less ∈ tbW := tb_3 100 rfl rfl
theorem kk_3_102 : Cond.instanceMethod yX4_less ∈ tbW := tb_3 102 rfl rfl
theorem kk_3_103 : Cond.code yX4_less cX4_less 2 (some .int) ∈ tbW := tb_3 103 rfl rfl
theorem kk_3_104 : Cond.methodLink "NestedTagsModel" 49 yX4_isBegin ∈ tbW := tb_3 104 rfl rfl
theorem kk_3_105 : Cond.static yX4_isBegin ∈ tbW := tb_3 105 rfl rfl
theorem kk_3_106 : Cond.code yX4_isBegin cX4_isBegin 1 (some .boolean) ∈ tbW := tb_3 106 rfl rfl
theorem kk_3_107 : Cond.methodLink "NestedTagsModel" 192 yX4_bang ∈ tbW := tb_3 107 rfl rfl
theorem kk_3_109 : Cond.instanceMethod yX4_bang ∈ tbW := tb_3 109 rfl rfl
theorem kk_3_110 : Cond.code yX4_bang cX4_bang 2 (some .int) ∈ tbW := tb_3 110 rfl rfl
theorem kk_3_111 : Cond.methodLink "NestedTagsModel" 195 yX4_text ∈ tbW := tb_3 111 rfl rfl
theorem kk_3_113 : Cond.instanceMethod yX4_text ∈ tbW := tb_3 113 rfl rfl
theorem kk_3_114 : Cond.code yX4_text cX4_text 4 (some .int) ∈ tbW := tb_3 114 rfl rfl
theorem kk_3_115 : Cond.methodLink "NestedTagsModel" 139 yX4_isSign ∈ tbW := tb_3 115 rfl rfl
theorem kk_3_116 : Cond.static yX4_isSign ∈ tbW := tb_3 116 rfl rfl
theorem kk_3_117 : Cond.code yX4_isSign cX4_isSign 1 (some .boolean) ∈ tbW := tb_3 117 rfl rfl
theorem kk_3_118 : Cond.methodLink "NestedTagsModel" 105 yX4_closed ∈ tbW := tb_3 118 rfl rfl
theorem kk_3_120 : Cond.instanceMethod yX4_closed ∈ tbW := tb_3 120 rfl rfl
theorem kk_3_121 : Cond.code yX4_closed cX4_closed 2 (some .int) ∈ tbW := tb_3 121 rfl rfl
theorem kk_3_122 : Cond.methodLink "NestedTagsModel" 75 yX4_add ∈ tbW := tb_3 122 rfl rfl
theorem kk_3_124 : Cond.instanceMethod yX4_add ∈ tbW := tb_3 124 rfl rfl
theorem kk_3_125 : Cond.code yX4_add cX4_add 5 (some .int) ∈ tbW := tb_3 125 rfl rfl
theorem kk_3_126 : Cond.methodLink "NestedTagsModel" 186 yX4_nameFrom ∈ tbW := tb_3 126 rfl rfl
theorem kk_3_128 : Cond.instanceMethod yX4_nameFrom ∈ tbW := tb_3 128 rfl rfl
theorem kk_3_129 : Cond.code yX4_nameFrom cX4_nameFrom 3 (some .int) ∈ tbW := tb_3 129 rfl rfl
theorem kk_3_130 : Cond.methodLink "NestedTagsModel" 198 yX4_target ∈ tbW := tb_3 130 rfl rfl
theorem kk_3_132 : Cond.instanceMethod yX4_target ∈ tbW := tb_3 132 rfl rfl
theorem kk_3_133 : Cond.code yX4_target cX4_target 2 (some .int) ∈ tbW := tb_3 133 rfl rfl
theorem kk_3_134 : Cond.methodLink "NestedTagsModel" 108 yX4_isPart ∈ tbW := tb_3 134 rfl rfl
theorem kk_3_135 : Cond.static yX4_isPart ∈ tbW := tb_3 135 rfl rfl
theorem kk_3_136 : Cond.code yX4_isPart cX4_isPart 1 (some .boolean) ∈ tbW := tb_3 136 rfl rfl
theorem kk_3_137 : Cond.methodLink "NestedTagsModel" 145 yX4_isBarred ∈ tbW := tb_3 137 rfl rfl
theorem kk_3_139 : Cond.instanceMethod yX4_isBarred ∈ tbW := tb_3 139 rfl rfl
theorem kk_3_140 : Cond.code yX4_isBarred cX4_isBarred 1 (some .boolean) ∈ tbW := tb_3 140 rfl rfl
theorem kk_3_141 : Cond.methodLink "NestedTagsModel" 201 yX4_endName ∈ tbW := tb_3 141 rfl rfl
theorem kk_3_143 : Cond.instanceMethod yX4_endName ∈ tbW := tb_3 143 rfl rfl
theorem kk_3_144 : Cond.code yX4_endName cX4_endName 2 (some .int) ∈ tbW := tb_3 144 rfl rfl
theorem kk_3_145 : Cond.methodLink "NestedTagsModel" 111 yX4_same ∈ tbW := tb_3 145 rfl rfl
theorem kk_3_147 : Cond.instanceMethod yX4_same ∈ tbW := tb_3 147 rfl rfl
theorem kk_3_148 : Cond.code yX4_same cX4_same 7 (some .boolean) ∈ tbW := tb_3 148 rfl rfl
theorem kk_3_149 : Cond.methodLink "NestedTagsModel" 115 yX4_end ∈ tbW := tb_3 149 rfl rfl
theorem kk_3_151 : Cond.instanceMethod yX4_end ∈ tbW := tb_3 151 rfl rfl
theorem kk_3_152 : Cond.code yX4_end cX4_end 2 (some .int) ∈ tbW := tb_3 152 rfl rfl
theorem kk_3_153 : Cond.methodLink "NestedTagsModel" 204 yX4_tagName ∈ tbW := tb_3 153 rfl rfl
theorem kk_3_155 : Cond.instanceMethod yX4_tagName ∈ tbW := tb_3 155 rfl rfl
theorem kk_3_156 : Cond.code yX4_tagName cX4_tagName 2 (some .int) ∈ tbW := tb_3 156 rfl rfl
theorem kk_3_157 : Cond.methodLink "NestedTagsModel" 124 yX4_start ∈ tbW := tb_3 157 rfl rfl
theorem kk_3_159 : Cond.instanceMethod yX4_start ∈ tbW := tb_3 159 rfl rfl
theorem kk_3_160 : Cond.code yX4_start cX4_start 2 (some .int) ∈ tbW := tb_3 160 rfl rfl
theorem kk_3_161 : Cond.methodLink "NestedTagsModel" 207 yX4_inTag ∈ tbW := tb_3 161 rfl rfl
theorem kk_3_163 : Cond.instanceMethod yX4_inTag ∈ tbW := tb_3 163 rfl rfl
theorem kk_3_164 : Cond.code yX4_inTag cX4_inTag 2 (some .int) ∈ tbW := tb_3 164 rfl rfl
theorem kk_3_165 : Cond.methodLink "NestedTagsModel" 210 yX4_attributeName ∈ tbW := tb_3 165 rfl rfl
theorem kk_3_167 : Cond.instanceMethod yX4_attributeName ∈ tbW := tb_3 167 rfl rfl
theorem kk_3_168 : Cond.code yX4_attributeName cX4_attributeName 3 (some .int) ∈ tbW := tb_3 168 rfl rfl
theorem kk_3_169 : Cond.methodLink "NestedTagsModel" 127 yX4_equal ∈ tbW := tb_3 169 rfl rfl
theorem kk_3_171 : Cond.instanceMethod yX4_equal ∈ tbW := tb_3 171 rfl rfl
theorem kk_3_172 : Cond.code yX4_equal cX4_equal 2 (some .int) ∈ tbW := tb_3 172 rfl rfl
theorem kk_3_173 : Cond.methodLink "NestedTagsModel" 213 yX4_value ∈ tbW := tb_3 173 rfl rfl
theorem kk_3_175 : Cond.instanceMethod yX4_value ∈ tbW := tb_3 175 rfl rfl
theorem kk_3_176 : Cond.code yX4_value cX4_value 2 (some .int) ∈ tbW := tb_3 176 rfl rfl
theorem kk_3_177 : Cond.methodLink "NestedTagsModel" 216 yX4_empty ∈ tbW := tb_3 177 rfl rfl
theorem kk_3_179 : Cond.instanceMethod yX4_empty ∈ tbW := tb_3 179 rfl rfl
theorem kk_3_180 : Cond.code yX4_empty cX4_empty 2 (some .int) ∈ tbW := tb_3 180 rfl rfl
theorem kk_3_181 : Cond.methodLink "NestedTagsModel" 219 yX4_section ∈ tbW := tb_3 181 rfl rfl
theorem kk_3_183 : Cond.instanceMethod yX4_section ∈ tbW := tb_3 183 rfl rfl
theorem kk_3_184 : Cond.code yX4_section cX4_section 3 (some .int) ∈ tbW := tb_3 184 rfl rfl
theorem kk_3_185 : Cond.methodLink "NestedTagsModel" 222 yX4_content ∈ tbW := tb_3 185 rfl rfl
theorem kk_3_187 : Cond.instanceMethod yX4_content ∈ tbW := tb_3 187 rfl rfl
theorem kk_3_188 : Cond.code yX4_content cX4_content 2 (some .int) ∈ tbW := tb_3 188 rfl rfl
theorem kk_3_189 : Cond.methodLink "NestedTagsModel" 155 yX4_closeCharacters ∈ tbW := tb_3 189 rfl rfl
theorem kk_3_191 : Cond.instanceMethod yX4_closeCharacters ∈ tbW := tb_3 191 rfl rfl
theorem kk_3_192 : Cond.code yX4_closeCharacters cX4_closeCharacters 2 (some .int) ∈ tbW := tb_3 192 rfl rfl
theorem kk_3_193 : Cond.methodLink "NestedTagsModel" 225 yX4_refer ∈ tbW := tb_3 193 rfl rfl
theorem kk_3_195 : Cond.instanceMethod yX4_refer ∈ tbW := tb_3 195 rfl rfl
theorem kk_3_196 : Cond.code yX4_refer cX4_refer 2 (some .int) ∈ tbW := tb_3 196 rfl rfl
theorem kk_3_197 : Cond.methodLink "NestedTagsModel" 228 yX4_referredName ∈ tbW := tb_3 197 rfl rfl
theorem kk_3_199 : Cond.instanceMethod yX4_referredName ∈ tbW := tb_3 199 rfl rfl
theorem kk_3_200 : Cond.code yX4_referredName cX4_referredName 3 (some .int) ∈ tbW := tb_3 200 rfl rfl
theorem kk_3_201 : Cond.constantLong "NestedTagsModel" 158 27764 ∈ tbW := tb_3 201 rfl rfl
theorem kk_3_202 : Cond.methodLink "NestedTagsModel" 160 yX4_is ∈ tbW := tb_3 202 rfl rfl
theorem kk_3_204 : Cond.instanceMethod yX4_is ∈ tbW := tb_3 204 rfl rfl
theorem kk_3_205 : Cond.code yX4_is cX4_is 6 (some .boolean) ∈ tbW := tb_3 205 rfl rfl
theorem kk_3_206 : Cond.constantLong "NestedTagsModel" 164 26484 ∈ tbW := tb_3 206 rfl rfl
theorem kk_3_207 : Cond.constantLong "NestedTagsModel" 166 6385008 ∈ tbW := tb_3 207 rfl rfl
theorem kk_3_208 : Cond.constantLong "NestedTagsModel" 168 1634758515 ∈ tbW := tb_3 208 rfl rfl
theorem kk_3_209 : Cond.constantLong "NestedTagsModel" 170 1903521652 ∈ tbW := tb_3 209 rfl rfl
theorem kk_3_210 : Cond.methodLink "NestedTagsModel" 172 yX4_referred ∈ tbW := tb_3 210 rfl rfl
theorem kk_3_212 : Cond.instanceMethod yX4_referred ∈ tbW := tb_3 212 rfl rfl
theorem kk_3_213 : Cond.code yX4_referred cX4_referred 1 (some .int) ∈ tbW := tb_3 213 rfl rfl
theorem kk_3_214 : Cond.methodLink "NestedTagsModel" 231 yX4_digit ∈ tbW := tb_3 214 rfl rfl
theorem kk_3_216 : Cond.instanceMethod yX4_digit ∈ tbW := tb_3 216 rfl rfl
theorem kk_3_217 : Cond.code yX4_digit cX4_digit 4 (some .int) ∈ tbW := tb_3 217 rfl rfl
theorem kk_3_218 : Cond.constantLong "NestedTagsModel" 179 127 ∈ tbW := tb_3 218 rfl rfl
theorem kk_3_219 : Cond.methodLink "NestedTagsModel" 181 yX4_isHex ∈ tbW := tb_3 219 rfl rfl
theorem kk_3_220 : Cond.static yX4_isHex ∈ tbW := tb_3 220 rfl rfl
theorem kk_3_221 : Cond.code yX4_isHex cX4_isHex 1 (some .boolean) ∈ tbW := tb_3 221 rfl rfl
theorem kk_3_222 : Cond.constantLong "NestedTagsModel" 184 100000 ∈ tbW := tb_3 222 rfl rfl
theorem kk_3_223 : Cond.methodLink "NestedTagsLaw" 28 yX4_place ∈ tbW := tb_3 223 rfl rfl
theorem kk_3_224 : Cond.instanceMethod yX4_place ∈ tbW := tb_3 224 rfl rfl
theorem kk_3_225 : Cond.selects "NestedTagsModel" yX4_place yX4_place ∈ tbW := tb_3 225 rfl rfl
theorem kk_3_226 : Cond.code yX4_place cX4_place 1 (some .int) ∈ tbW := tb_3 226 rfl rfl
theorem kk_3_227 : Cond.methodLink "NestedTagsLaw" 33 yX4_piece ∈ tbW := tb_3 227 rfl rfl
theorem kk_3_228 : Cond.instanceMethod yX4_piece ∈ tbW := tb_3 228 rfl rfl
theorem kk_3_229 : Cond.selects "NestedTagsModel" yX4_piece yX4_piece ∈ tbW := tb_3 229 rfl rfl
theorem kk_3_230 : Cond.code yX4_piece cX4_piece 3 (some .int) ∈ tbW := tb_3 230 rfl rfl
theorem kk_3_231 : Cond.methodLink "NestedTagsLaw" 38 yX4_byteOf ∈ tbW := tb_3 231 rfl rfl
theorem kk_3_232 : Cond.instanceMethod yX4_byteOf ∈ tbW := tb_3 232 rfl rfl
theorem kk_3_233 : Cond.selects "NestedTagsModel" yX4_byteOf yX4_byteOf ∈ tbW := tb_3 233 rfl rfl
theorem kk_3_234 : Cond.code yX4_byteOf cX4_byteOf 2 (some .int) ∈ tbW := tb_3 234 rfl rfl
theorem kk_3_235 : Cond.methodLink "NestedTagsLaw" 42 yX4_count ∈ tbW := tb_3 235 rfl rfl
theorem kk_3_236 : Cond.instanceMethod yX4_count ∈ tbW := tb_3 236 rfl rfl
theorem kk_3_237 : Cond.selects "NestedTagsModel" yX4_count yX4_count ∈ tbW := tb_3 237 rfl rfl
theorem kk_3_238 : Cond.code yX4_count cX4_count 2 (some .int) ∈ tbW := tb_3 238 rfl rfl
theorem kk_3_239 : Cond.constantLong "NestedTagsLaw" 13 4294967295 ∈ tbW := tb_3 239 rfl rfl
theorem kk_4_0 : Cond.fieldLink "java/lang/String" 9 "java/lang/String" "value" "[B" ∈ tbW := tb_4 0 rfl rfl
theorem kk_4_1 : Cond.fieldLink "java/lang/String" 15 "java/lang/String" "coder" "B" ∈ tbW := tb_4 1 rfl rfl
theorem kk_obj : Cond.code objectInit ⟨#[0xb1]⟩ 1 none ∈ tbW := tb_1 18 rfl rfl
theorem kk_mmax : Cond.code Lib.Math.max.name Lib.Math.max.code 2 (some .int) ∈ tbW := tb_1 81 rfl rfl
theorem kk_mmin : Cond.code Lib.Math.min.name Lib.Math.min.code 2 (some .int) ∈ tbW := tb_2 27 rfl rfl
theorem inX0 : ∀ w ∈ wsX00, w ∈ tbW := fun w h => tb_mem ((by decide +kernel : ∀ w ∈ wsX00, w ∈ tables_1) w h |> List.mem_append_right _) ((by decide +kernel : ∀ w ∈ wsX00, goodWord w = true) w h)
theorem inX1 : ∀ w ∈ wsX10, w ∈ tbW := fun w h => tb_mem ((by decide +kernel : ∀ w ∈ wsX10, w ∈ tables_1) w h |> List.mem_append_right _) ((by decide +kernel : ∀ w ∈ wsX10, goodWord w = true) w h)
theorem inX2 : ∀ w ∈ wsX20, w ∈ tbW := fun w h => tb_mem ((by decide +kernel : ∀ w ∈ wsX20, w ∈ tables_1) w h |> List.mem_append_right _) ((by decide +kernel : ∀ w ∈ wsX20, goodWord w = true) w h)
theorem inX3 : ∀ w ∈ wsX30, w ∈ tbW := fun w h => tb_mem ((by decide +kernel : ∀ w ∈ wsX30, w ∈ tables_1) w h |> List.mem_append_right _) ((by decide +kernel : ∀ w ∈ wsX30, goodWord w = true) w h)
theorem inX4 : ∀ w ∈ wsX40, w ∈ tbW := fun w h => tb_mem ((by decide +kernel : ∀ w ∈ wsX40, w ∈ tables_1) w h |> List.mem_append_right _) ((by decide +kernel : ∀ w ∈ wsX40, goodWord w = true) w h)
theorem k_start {args : Array Value} {s : State} (hts : ∀ w ∈ tbW, w.before args s = true) : ∃ (D : va_G) (cI : ClassId), va_K D classes [(cI, .int)] s := by
  obtain ⟨c0, i0, h0⟩ := u_known (C := RX0) (T := TX0) (N := 5) (n := 5) hts inX0 (hts (Cond.instantiable "NestedTags$Cursor" 5) kk_1_20)
  obtain ⟨c1, i1, h1⟩ := u_known (C := RX1) (T := TX1) (N := 4) (n := 4) hts inX1 (hts (Cond.instantiable "NestedTags$Names" 4) kk_1_74)
  obtain ⟨c2, i2, h2⟩ := u_known (C := RX2) (T := TX2) (N := 6) (n := 6) hts inX2 (hts (Cond.instantiable "NestedTags$Pieces" 6) kk_1_47)
  obtain ⟨c3, i3, h3⟩ := u_known (C := RX3) (T := TX3) (N := 14) (n := 14) hts inX3 (hts (Cond.instantiable "NestedTags" 14) kk_1_12)
  obtain ⟨c4, i4, h4⟩ := u_known (C := RX4) (T := TX4) (N := 33) (n := 33) hts inX4 (hts (Cond.instantiable "NestedTagsModel" 33) kk_2_207)
  obtain ⟨cI, kA, comp, q1, q2, q3⟩ := Cond.arrayClass_spec (type := .int) (hts (Cond.arrayClass .int) kk_1_45)
  refine ⟨(fun k => if k = 0 then c0 else if k = 1 then c1 else if k = 2 then c2 else if k = 3 then c3 else c4, fun k => if k = 0 then i0 else if k = 1 then i1 else if k = 2 then i2 else if k = 3 then i3 else i4), cI, ?_, ?_⟩
  · intro k q hq
    match k, hq with
    | 0, hq => cases hq; exact h0
    | 1, hq => cases hq; exact h1
    | 2, hq => cases hq; exact h2
    | 3, hq => cases hq; exact h3
    | 4, hq => cases hq; exact h4
    | k + 5, hq => simp [classes] at hq
  · intro k q hq
    match k, hq with
    | 0, hq => cases hq; exact ⟨fun n z => ⟨fun k h => (by cases h), kA, q2, comp, q3⟩, q1⟩
    | k + 1, hq => simp at hq
theorem hdS_J0_charAt_5068e : yJ0_charAt_5068e.cls ≠ "java/lang/invoke/MethodHandle" ∧ yJ0_charAt_5068e.cls ≠ "java/lang/invoke/VarHandle" ∧ (parseMethodDescriptor yJ0_charAt_5068e.desc).map (fun d => d.parameters.length) = some 1 := by decide +kernel
theorem hdV_J0_charAt_5068e : yJ0_charAt_5068e.cls = "java/lang/String" ∧ yJ0_charAt_5068e.cls ≠ "java/lang/invoke/MethodHandle" ∧ yJ0_charAt_5068e.cls ≠ "java/lang/invoke/VarHandle" ∧ (parseMethodDescriptor yJ0_charAt_5068e.desc).map (fun d => d.parameters.length) = some 1 := ⟨rfl, hdS_J0_charAt_5068e⟩
theorem hdS_J0_checkIndex_df160 : yJ0_checkIndex_df160.cls ≠ "java/lang/invoke/MethodHandle" ∧ yJ0_checkIndex_df160.cls ≠ "java/lang/invoke/VarHandle" ∧ (parseMethodDescriptor yJ0_checkIndex_df160.desc).map (fun d => d.parameters.length) = some 2 := by decide +kernel
theorem hdV_J0_checkIndex_df160 : yJ0_checkIndex_df160.cls = "java/lang/String" ∧ yJ0_checkIndex_df160.cls ≠ "java/lang/invoke/MethodHandle" ∧ yJ0_checkIndex_df160.cls ≠ "java/lang/invoke/VarHandle" ∧ (parseMethodDescriptor yJ0_checkIndex_df160.desc).map (fun d => d.parameters.length) = some 2 := ⟨rfl, hdS_J0_checkIndex_df160⟩
theorem hdS_J0_coder_7d493 : yJ0_coder_7d493.cls ≠ "java/lang/invoke/MethodHandle" ∧ yJ0_coder_7d493.cls ≠ "java/lang/invoke/VarHandle" ∧ (parseMethodDescriptor yJ0_coder_7d493.desc).map (fun d => d.parameters.length) = some 0 := by decide +kernel
theorem hdV_J0_coder_7d493 : yJ0_coder_7d493.cls = "java/lang/String" ∧ yJ0_coder_7d493.cls ≠ "java/lang/invoke/MethodHandle" ∧ yJ0_coder_7d493.cls ≠ "java/lang/invoke/VarHandle" ∧ (parseMethodDescriptor yJ0_coder_7d493.desc).map (fun d => d.parameters.length) = some 0 := ⟨rfl, hdS_J0_coder_7d493⟩
theorem hdS_J0_isLatin1_aae02 : yJ0_isLatin1_aae02.cls ≠ "java/lang/invoke/MethodHandle" ∧ yJ0_isLatin1_aae02.cls ≠ "java/lang/invoke/VarHandle" ∧ (parseMethodDescriptor yJ0_isLatin1_aae02.desc).map (fun d => d.parameters.length) = some 0 := by decide +kernel
theorem hdV_J0_isLatin1_aae02 : yJ0_isLatin1_aae02.cls = "java/lang/String" ∧ yJ0_isLatin1_aae02.cls ≠ "java/lang/invoke/MethodHandle" ∧ yJ0_isLatin1_aae02.cls ≠ "java/lang/invoke/VarHandle" ∧ (parseMethodDescriptor yJ0_isLatin1_aae02.desc).map (fun d => d.parameters.length) = some 0 := ⟨rfl, hdS_J0_isLatin1_aae02⟩
theorem hdS_J0_length_8abf5 : yJ0_length_8abf5.cls ≠ "java/lang/invoke/MethodHandle" ∧ yJ0_length_8abf5.cls ≠ "java/lang/invoke/VarHandle" ∧ (parseMethodDescriptor yJ0_length_8abf5.desc).map (fun d => d.parameters.length) = some 0 := by decide +kernel
theorem hdV_J0_length_8abf5 : yJ0_length_8abf5.cls = "java/lang/String" ∧ yJ0_length_8abf5.cls ≠ "java/lang/invoke/MethodHandle" ∧ yJ0_length_8abf5.cls ≠ "java/lang/invoke/VarHandle" ∧ (parseMethodDescriptor yJ0_length_8abf5.desc).map (fun d => d.parameters.length) = some 0 := ⟨rfl, hdS_J0_length_8abf5⟩
theorem hdS_J1_charAt_3b067 : yJ1_charAt_3b067.cls ≠ "java/lang/invoke/MethodHandle" ∧ yJ1_charAt_3b067.cls ≠ "java/lang/invoke/VarHandle" ∧ (parseMethodDescriptor yJ1_charAt_3b067.desc).map (fun d => d.parameters.length) = some 2 := by decide +kernel
theorem hdV_J1_charAt_3b067 : yJ1_charAt_3b067.cls = "java/lang/StringLatin1" ∧ yJ1_charAt_3b067.cls ≠ "java/lang/invoke/MethodHandle" ∧ yJ1_charAt_3b067.cls ≠ "java/lang/invoke/VarHandle" ∧ (parseMethodDescriptor yJ1_charAt_3b067.desc).map (fun d => d.parameters.length) = some 2 := ⟨rfl, hdS_J1_charAt_3b067⟩
theorem hdS_J2_charAt_3b067 : yJ2_charAt_3b067.cls ≠ "java/lang/invoke/MethodHandle" ∧ yJ2_charAt_3b067.cls ≠ "java/lang/invoke/VarHandle" ∧ (parseMethodDescriptor yJ2_charAt_3b067.desc).map (fun d => d.parameters.length) = some 2 := by decide +kernel
theorem hdV_J2_charAt_3b067 : yJ2_charAt_3b067.cls = "java/lang/StringUTF16" ∧ yJ2_charAt_3b067.cls ≠ "java/lang/invoke/MethodHandle" ∧ yJ2_charAt_3b067.cls ≠ "java/lang/invoke/VarHandle" ∧ (parseMethodDescriptor yJ2_charAt_3b067.desc).map (fun d => d.parameters.length) = some 2 := ⟨rfl, hdS_J2_charAt_3b067⟩
theorem hdS_J2_checkIndex_2214a : yJ2_checkIndex_2214a.cls ≠ "java/lang/invoke/MethodHandle" ∧ yJ2_checkIndex_2214a.cls ≠ "java/lang/invoke/VarHandle" ∧ (parseMethodDescriptor yJ2_checkIndex_2214a.desc).map (fun d => d.parameters.length) = some 2 := by decide +kernel
theorem hdV_J2_checkIndex_2214a : yJ2_checkIndex_2214a.cls = "java/lang/StringUTF16" ∧ yJ2_checkIndex_2214a.cls ≠ "java/lang/invoke/MethodHandle" ∧ yJ2_checkIndex_2214a.cls ≠ "java/lang/invoke/VarHandle" ∧ (parseMethodDescriptor yJ2_checkIndex_2214a.desc).map (fun d => d.parameters.length) = some 2 := ⟨rfl, hdS_J2_checkIndex_2214a⟩
theorem hdS_J2_getChar_3b067 : yJ2_getChar_3b067.cls ≠ "java/lang/invoke/MethodHandle" ∧ yJ2_getChar_3b067.cls ≠ "java/lang/invoke/VarHandle" ∧ (parseMethodDescriptor yJ2_getChar_3b067.desc).map (fun d => d.parameters.length) = some 2 := by decide +kernel
theorem hdV_J2_getChar_3b067 : yJ2_getChar_3b067.cls = "java/lang/StringUTF16" ∧ yJ2_getChar_3b067.cls ≠ "java/lang/invoke/MethodHandle" ∧ yJ2_getChar_3b067.cls ≠ "java/lang/invoke/VarHandle" ∧ (parseMethodDescriptor yJ2_getChar_3b067.desc).map (fun d => d.parameters.length) = some 2 := ⟨rfl, hdS_J2_getChar_3b067⟩
theorem hdS_J2_length_9d52b : yJ2_length_9d52b.cls ≠ "java/lang/invoke/MethodHandle" ∧ yJ2_length_9d52b.cls ≠ "java/lang/invoke/VarHandle" ∧ (parseMethodDescriptor yJ2_length_9d52b.desc).map (fun d => d.parameters.length) = some 1 := by decide +kernel
theorem hdV_J2_length_9d52b : yJ2_length_9d52b.cls = "java/lang/StringUTF16" ∧ yJ2_length_9d52b.cls ≠ "java/lang/invoke/MethodHandle" ∧ yJ2_length_9d52b.cls ≠ "java/lang/invoke/VarHandle" ∧ (parseMethodDescriptor yJ2_length_9d52b.desc).map (fun d => d.parameters.length) = some 1 := ⟨rfl, hdS_J2_length_9d52b⟩
theorem hdS_J3_checkIndex_8e157 : yJ3_checkIndex_8e157.cls ≠ "java/lang/invoke/MethodHandle" ∧ yJ3_checkIndex_8e157.cls ≠ "java/lang/invoke/VarHandle" ∧ (parseMethodDescriptor yJ3_checkIndex_8e157.desc).map (fun d => d.parameters.length) = some 3 := by decide +kernel
theorem hdV_J3_checkIndex_8e157 : yJ3_checkIndex_8e157.cls = "jdk/internal/util/Preconditions" ∧ yJ3_checkIndex_8e157.cls ≠ "java/lang/invoke/MethodHandle" ∧ yJ3_checkIndex_8e157.cls ≠ "java/lang/invoke/VarHandle" ∧ (parseMethodDescriptor yJ3_checkIndex_8e157.desc).map (fun d => d.parameters.length) = some 3 := ⟨rfl, hdS_J3_checkIndex_8e157⟩
theorem hdS_J9_max_7cf53 : yJ9_max_7cf53.cls ≠ "java/lang/invoke/MethodHandle" ∧ yJ9_max_7cf53.cls ≠ "java/lang/invoke/VarHandle" ∧ (parseMethodDescriptor yJ9_max_7cf53.desc).map (fun d => d.parameters.length) = some 2 := by decide +kernel
theorem hdV_J9_max_7cf53 : yJ9_max_7cf53.cls = "java/lang/Math" ∧ yJ9_max_7cf53.cls ≠ "java/lang/invoke/MethodHandle" ∧ yJ9_max_7cf53.cls ≠ "java/lang/invoke/VarHandle" ∧ (parseMethodDescriptor yJ9_max_7cf53.desc).map (fun d => d.parameters.length) = some 2 := ⟨rfl, hdS_J9_max_7cf53⟩
theorem hdS_J9_min_7cf53 : yJ9_min_7cf53.cls ≠ "java/lang/invoke/MethodHandle" ∧ yJ9_min_7cf53.cls ≠ "java/lang/invoke/VarHandle" ∧ (parseMethodDescriptor yJ9_min_7cf53.desc).map (fun d => d.parameters.length) = some 2 := by decide +kernel
theorem hdV_J9_min_7cf53 : yJ9_min_7cf53.cls = "java/lang/Math" ∧ yJ9_min_7cf53.cls ≠ "java/lang/invoke/MethodHandle" ∧ yJ9_min_7cf53.cls ≠ "java/lang/invoke/VarHandle" ∧ (parseMethodDescriptor yJ9_min_7cf53.desc).map (fun d => d.parameters.length) = some 2 := ⟨rfl, hdS_J9_min_7cf53⟩
theorem hdS_X0_begin : yX0_begin.cls ≠ "java/lang/invoke/MethodHandle" ∧ yX0_begin.cls ≠ "java/lang/invoke/VarHandle" ∧ (parseMethodDescriptor yX0_begin.desc).map (fun d => d.parameters.length) = some 2 := by decide +kernel
theorem hdV_X0_begin : yX0_begin.cls = "NestedTags$Cursor" ∧ yX0_begin.cls ≠ "java/lang/invoke/MethodHandle" ∧ yX0_begin.cls ≠ "java/lang/invoke/VarHandle" ∧ (parseMethodDescriptor yX0_begin.desc).map (fun d => d.parameters.length) = some 2 := ⟨rfl, hdS_X0_begin⟩
theorem hdS_X0_byteAt : yX0_byteAt.cls ≠ "java/lang/invoke/MethodHandle" ∧ yX0_byteAt.cls ≠ "java/lang/invoke/VarHandle" ∧ (parseMethodDescriptor yX0_byteAt.desc).map (fun d => d.parameters.length) = some 1 := by decide +kernel
theorem hdV_X0_byteAt : yX0_byteAt.cls = "NestedTags$Cursor" ∧ yX0_byteAt.cls ≠ "java/lang/invoke/MethodHandle" ∧ yX0_byteAt.cls ≠ "java/lang/invoke/VarHandle" ∧ (parseMethodDescriptor yX0_byteAt.desc).map (fun d => d.parameters.length) = some 1 := ⟨rfl, hdS_X0_byteAt⟩
theorem hdS_X0_expect : yX0_expect.cls ≠ "java/lang/invoke/MethodHandle" ∧ yX0_expect.cls ≠ "java/lang/invoke/VarHandle" ∧ (parseMethodDescriptor yX0_expect.desc).map (fun d => d.parameters.length) = some 1 := by decide +kernel
theorem hdV_X0_expect : yX0_expect.cls = "NestedTags$Cursor" ∧ yX0_expect.cls ≠ "java/lang/invoke/MethodHandle" ∧ yX0_expect.cls ≠ "java/lang/invoke/VarHandle" ∧ (parseMethodDescriptor yX0_expect.desc).map (fun d => d.parameters.length) = some 1 := ⟨rfl, hdS_X0_expect⟩
theorem hdS_X0_fail : yX0_fail.cls ≠ "java/lang/invoke/MethodHandle" ∧ yX0_fail.cls ≠ "java/lang/invoke/VarHandle" ∧ (parseMethodDescriptor yX0_fail.desc).map (fun d => d.parameters.length) = some 2 := by decide +kernel
theorem hdV_X0_fail : yX0_fail.cls = "NestedTags$Cursor" ∧ yX0_fail.cls ≠ "java/lang/invoke/MethodHandle" ∧ yX0_fail.cls ≠ "java/lang/invoke/VarHandle" ∧ (parseMethodDescriptor yX0_fail.desc).map (fun d => d.parameters.length) = some 2 := ⟨rfl, hdS_X0_fail⟩
theorem hdS_X0_failHere : yX0_failHere.cls ≠ "java/lang/invoke/MethodHandle" ∧ yX0_failHere.cls ≠ "java/lang/invoke/VarHandle" ∧ (parseMethodDescriptor yX0_failHere.desc).map (fun d => d.parameters.length) = some 0 := by decide +kernel
theorem hdV_X0_failHere : yX0_failHere.cls = "NestedTags$Cursor" ∧ yX0_failHere.cls ≠ "java/lang/invoke/MethodHandle" ∧ yX0_failHere.cls ≠ "java/lang/invoke/VarHandle" ∧ (parseMethodDescriptor yX0_failHere.desc).map (fun d => d.parameters.length) = some 0 := ⟨rfl, hdS_X0_failHere⟩
theorem hdS_X0_goesOn : yX0_goesOn.cls ≠ "java/lang/invoke/MethodHandle" ∧ yX0_goesOn.cls ≠ "java/lang/invoke/VarHandle" ∧ (parseMethodDescriptor yX0_goesOn.desc).map (fun d => d.parameters.length) = some 0 := by decide +kernel
theorem hdV_X0_goesOn : yX0_goesOn.cls = "NestedTags$Cursor" ∧ yX0_goesOn.cls ≠ "java/lang/invoke/MethodHandle" ∧ yX0_goesOn.cls ≠ "java/lang/invoke/VarHandle" ∧ (parseMethodDescriptor yX0_goesOn.desc).map (fun d => d.parameters.length) = some 0 := ⟨rfl, hdS_X0_goesOn⟩
theorem hdS_X0_here : yX0_here.cls ≠ "java/lang/invoke/MethodHandle" ∧ yX0_here.cls ≠ "java/lang/invoke/VarHandle" ∧ (parseMethodDescriptor yX0_here.desc).map (fun d => d.parameters.length) = some 0 := by decide +kernel
theorem hdV_X0_here : yX0_here.cls = "NestedTags$Cursor" ∧ yX0_here.cls ≠ "java/lang/invoke/MethodHandle" ∧ yX0_here.cls ≠ "java/lang/invoke/VarHandle" ∧ (parseMethodDescriptor yX0_here.desc).map (fun d => d.parameters.length) = some 0 := ⟨rfl, hdS_X0_here⟩
theorem hdS_X0_isWord : yX0_isWord.cls ≠ "java/lang/invoke/MethodHandle" ∧ yX0_isWord.cls ≠ "java/lang/invoke/VarHandle" ∧ (parseMethodDescriptor yX0_isWord.desc).map (fun d => d.parameters.length) = some 3 := by decide +kernel
theorem hdV_X0_isWord : yX0_isWord.cls = "NestedTags$Cursor" ∧ yX0_isWord.cls ≠ "java/lang/invoke/MethodHandle" ∧ yX0_isWord.cls ≠ "java/lang/invoke/VarHandle" ∧ (parseMethodDescriptor yX0_isWord.desc).map (fun d => d.parameters.length) = some 3 := ⟨rfl, hdS_X0_isWord⟩
theorem hdS_X0_passBlanks : yX0_passBlanks.cls ≠ "java/lang/invoke/MethodHandle" ∧ yX0_passBlanks.cls ≠ "java/lang/invoke/VarHandle" ∧ (parseMethodDescriptor yX0_passBlanks.desc).map (fun d => d.parameters.length) = some 0 := by decide +kernel
theorem hdV_X0_passBlanks : yX0_passBlanks.cls = "NestedTags$Cursor" ∧ yX0_passBlanks.cls ≠ "java/lang/invoke/MethodHandle" ∧ yX0_passBlanks.cls ≠ "java/lang/invoke/VarHandle" ∧ (parseMethodDescriptor yX0_passBlanks.desc).map (fun d => d.parameters.length) = some 0 := ⟨rfl, hdS_X0_passBlanks⟩
theorem hdS_X0_passName : yX0_passName.cls ≠ "java/lang/invoke/MethodHandle" ∧ yX0_passName.cls ≠ "java/lang/invoke/VarHandle" ∧ (parseMethodDescriptor yX0_passName.desc).map (fun d => d.parameters.length) = some 0 := by decide +kernel
theorem hdV_X0_passName : yX0_passName.cls = "NestedTags$Cursor" ∧ yX0_passName.cls ≠ "java/lang/invoke/MethodHandle" ∧ yX0_passName.cls ≠ "java/lang/invoke/VarHandle" ∧ (parseMethodDescriptor yX0_passName.desc).map (fun d => d.parameters.length) = some 0 := ⟨rfl, hdS_X0_passName⟩
theorem hdS_X0_passNumber : yX0_passNumber.cls ≠ "java/lang/invoke/MethodHandle" ∧ yX0_passNumber.cls ≠ "java/lang/invoke/VarHandle" ∧ (parseMethodDescriptor yX0_passNumber.desc).map (fun d => d.parameters.length) = some 1 := by decide +kernel
theorem hdV_X0_passNumber : yX0_passNumber.cls = "NestedTags$Cursor" ∧ yX0_passNumber.cls ≠ "java/lang/invoke/MethodHandle" ∧ yX0_passNumber.cls ≠ "java/lang/invoke/VarHandle" ∧ (parseMethodDescriptor yX0_passNumber.desc).map (fun d => d.parameters.length) = some 1 := ⟨rfl, hdS_X0_passNumber⟩
theorem hdS_X0_passUntil : yX0_passUntil.cls ≠ "java/lang/invoke/MethodHandle" ∧ yX0_passUntil.cls ≠ "java/lang/invoke/VarHandle" ∧ (parseMethodDescriptor yX0_passUntil.desc).map (fun d => d.parameters.length) = some 1 := by decide +kernel
theorem hdV_X0_passUntil : yX0_passUntil.cls = "NestedTags$Cursor" ∧ yX0_passUntil.cls ≠ "java/lang/invoke/MethodHandle" ∧ yX0_passUntil.cls ≠ "java/lang/invoke/VarHandle" ∧ (parseMethodDescriptor yX0_passUntil.desc).map (fun d => d.parameters.length) = some 1 := ⟨rfl, hdS_X0_passUntil⟩
theorem hdS_X0_sameBytes : yX0_sameBytes.cls ≠ "java/lang/invoke/MethodHandle" ∧ yX0_sameBytes.cls ≠ "java/lang/invoke/VarHandle" ∧ (parseMethodDescriptor yX0_sameBytes.desc).map (fun d => d.parameters.length) = some 3 := by decide +kernel
theorem hdV_X0_sameBytes : yX0_sameBytes.cls = "NestedTags$Cursor" ∧ yX0_sameBytes.cls ≠ "java/lang/invoke/MethodHandle" ∧ yX0_sameBytes.cls ≠ "java/lang/invoke/VarHandle" ∧ (parseMethodDescriptor yX0_sameBytes.desc).map (fun d => d.parameters.length) = some 3 := ⟨rfl, hdS_X0_sameBytes⟩
theorem hdS_X0_standsAt : yX0_standsAt.cls ≠ "java/lang/invoke/MethodHandle" ∧ yX0_standsAt.cls ≠ "java/lang/invoke/VarHandle" ∧ (parseMethodDescriptor yX0_standsAt.desc).map (fun d => d.parameters.length) = some 2 := by decide +kernel
theorem hdV_X0_standsAt : yX0_standsAt.cls = "NestedTags$Cursor" ∧ yX0_standsAt.cls ≠ "java/lang/invoke/MethodHandle" ∧ yX0_standsAt.cls ≠ "java/lang/invoke/VarHandle" ∧ (parseMethodDescriptor yX0_standsAt.desc).map (fun d => d.parameters.length) = some 2 := ⟨rfl, hdS_X0_standsAt⟩
theorem hdS_X1_add : yX1_add.cls ≠ "java/lang/invoke/MethodHandle" ∧ yX1_add.cls ≠ "java/lang/invoke/VarHandle" ∧ (parseMethodDescriptor yX1_add.desc).map (fun d => d.parameters.length) = some 2 := by decide +kernel
theorem hdV_X1_add : yX1_add.cls = "NestedTags$Names" ∧ yX1_add.cls ≠ "java/lang/invoke/MethodHandle" ∧ yX1_add.cls ≠ "java/lang/invoke/VarHandle" ∧ (parseMethodDescriptor yX1_add.desc).map (fun d => d.parameters.length) = some 2 := ⟨rfl, hdS_X1_add⟩
theorem hdS_X1_clear : yX1_clear.cls ≠ "java/lang/invoke/MethodHandle" ∧ yX1_clear.cls ≠ "java/lang/invoke/VarHandle" ∧ (parseMethodDescriptor yX1_clear.desc).map (fun d => d.parameters.length) = some 0 := by decide +kernel
theorem hdV_X1_clear : yX1_clear.cls = "NestedTags$Names" ∧ yX1_clear.cls ≠ "java/lang/invoke/MethodHandle" ∧ yX1_clear.cls ≠ "java/lang/invoke/VarHandle" ∧ (parseMethodDescriptor yX1_clear.desc).map (fun d => d.parameters.length) = some 0 := ⟨rfl, hdS_X1_clear⟩
theorem hdS_X1_dropLast : yX1_dropLast.cls ≠ "java/lang/invoke/MethodHandle" ∧ yX1_dropLast.cls ≠ "java/lang/invoke/VarHandle" ∧ (parseMethodDescriptor yX1_dropLast.desc).map (fun d => d.parameters.length) = some 0 := by decide +kernel
theorem hdV_X1_dropLast : yX1_dropLast.cls = "NestedTags$Names" ∧ yX1_dropLast.cls ≠ "java/lang/invoke/MethodHandle" ∧ yX1_dropLast.cls ≠ "java/lang/invoke/VarHandle" ∧ (parseMethodDescriptor yX1_dropLast.desc).map (fun d => d.parameters.length) = some 0 := ⟨rfl, hdS_X1_dropLast⟩
theorem hdS_X1_has : yX1_has.cls ≠ "java/lang/invoke/MethodHandle" ∧ yX1_has.cls ≠ "java/lang/invoke/VarHandle" ∧ (parseMethodDescriptor yX1_has.desc).map (fun d => d.parameters.length) = some 3 := by decide +kernel
theorem hdV_X1_has : yX1_has.cls = "NestedTags$Names" ∧ yX1_has.cls ≠ "java/lang/invoke/MethodHandle" ∧ yX1_has.cls ≠ "java/lang/invoke/VarHandle" ∧ (parseMethodDescriptor yX1_has.desc).map (fun d => d.parameters.length) = some 3 := ⟨rfl, hdS_X1_has⟩
theorem hdS_X1_isAt : yX1_isAt.cls ≠ "java/lang/invoke/MethodHandle" ∧ yX1_isAt.cls ≠ "java/lang/invoke/VarHandle" ∧ (parseMethodDescriptor yX1_isAt.desc).map (fun d => d.parameters.length) = some 4 := by decide +kernel
theorem hdV_X1_isAt : yX1_isAt.cls = "NestedTags$Names" ∧ yX1_isAt.cls ≠ "java/lang/invoke/MethodHandle" ∧ yX1_isAt.cls ≠ "java/lang/invoke/VarHandle" ∧ (parseMethodDescriptor yX1_isAt.desc).map (fun d => d.parameters.length) = some 4 := ⟨rfl, hdS_X1_isAt⟩
theorem hdS_X1_isFull : yX1_isFull.cls ≠ "java/lang/invoke/MethodHandle" ∧ yX1_isFull.cls ≠ "java/lang/invoke/VarHandle" ∧ (parseMethodDescriptor yX1_isFull.desc).map (fun d => d.parameters.length) = some 0 := by decide +kernel
theorem hdV_X1_isFull : yX1_isFull.cls = "NestedTags$Names" ∧ yX1_isFull.cls ≠ "java/lang/invoke/MethodHandle" ∧ yX1_isFull.cls ≠ "java/lang/invoke/VarHandle" ∧ (parseMethodDescriptor yX1_isFull.desc).map (fun d => d.parameters.length) = some 0 := ⟨rfl, hdS_X1_isFull⟩
theorem hdS_X1_isLast : yX1_isLast.cls ≠ "java/lang/invoke/MethodHandle" ∧ yX1_isLast.cls ≠ "java/lang/invoke/VarHandle" ∧ (parseMethodDescriptor yX1_isLast.desc).map (fun d => d.parameters.length) = some 3 := by decide +kernel
theorem hdV_X1_isLast : yX1_isLast.cls = "NestedTags$Names" ∧ yX1_isLast.cls ≠ "java/lang/invoke/MethodHandle" ∧ yX1_isLast.cls ≠ "java/lang/invoke/VarHandle" ∧ (parseMethodDescriptor yX1_isLast.desc).map (fun d => d.parameters.length) = some 3 := ⟨rfl, hdS_X1_isLast⟩
theorem hdS_X2_add : yX2_add.cls ≠ "java/lang/invoke/MethodHandle" ∧ yX2_add.cls ≠ "java/lang/invoke/VarHandle" ∧ (parseMethodDescriptor yX2_add.desc).map (fun d => d.parameters.length) = some 4 := by decide +kernel
theorem hdV_X2_add : yX2_add.cls = "NestedTags$Pieces" ∧ yX2_add.cls ≠ "java/lang/invoke/MethodHandle" ∧ yX2_add.cls ≠ "java/lang/invoke/VarHandle" ∧ (parseMethodDescriptor yX2_add.desc).map (fun d => d.parameters.length) = some 4 := ⟨rfl, hdS_X2_add⟩
theorem hdS_X2_clear : yX2_clear.cls ≠ "java/lang/invoke/MethodHandle" ∧ yX2_clear.cls ≠ "java/lang/invoke/VarHandle" ∧ (parseMethodDescriptor yX2_clear.desc).map (fun d => d.parameters.length) = some 0 := by decide +kernel
theorem hdV_X2_clear : yX2_clear.cls = "NestedTags$Pieces" ∧ yX2_clear.cls ≠ "java/lang/invoke/MethodHandle" ∧ yX2_clear.cls ≠ "java/lang/invoke/VarHandle" ∧ (parseMethodDescriptor yX2_clear.desc).map (fun d => d.parameters.length) = some 0 := ⟨rfl, hdS_X2_clear⟩
theorem hdS_X2_tell : yX2_tell.cls ≠ "java/lang/invoke/MethodHandle" ∧ yX2_tell.cls ≠ "java/lang/invoke/VarHandle" ∧ (parseMethodDescriptor yX2_tell.desc).map (fun d => d.parameters.length) = some 2 := by decide +kernel
theorem hdV_X2_tell : yX2_tell.cls = "NestedTags$Pieces" ∧ yX2_tell.cls ≠ "java/lang/invoke/MethodHandle" ∧ yX2_tell.cls ≠ "java/lang/invoke/VarHandle" ∧ (parseMethodDescriptor yX2_tell.desc).map (fun d => d.parameters.length) = some 2 := ⟨rfl, hdS_X2_tell⟩
theorem hdS_X3_addPiece : yX3_addPiece.cls ≠ "java/lang/invoke/MethodHandle" ∧ yX3_addPiece.cls ≠ "java/lang/invoke/VarHandle" ∧ (parseMethodDescriptor yX3_addPiece.desc).map (fun d => d.parameters.length) = some 2 := by decide +kernel
theorem hdV_X3_addPiece : yX3_addPiece.cls = "NestedTags" ∧ yX3_addPiece.cls ≠ "java/lang/invoke/MethodHandle" ∧ yX3_addPiece.cls ≠ "java/lang/invoke/VarHandle" ∧ (parseMethodDescriptor yX3_addPiece.desc).map (fun d => d.parameters.length) = some 2 := ⟨rfl, hdS_X3_addPiece⟩
theorem hdS_X3_beginText : yX3_beginText.cls ≠ "java/lang/invoke/MethodHandle" ∧ yX3_beginText.cls ≠ "java/lang/invoke/VarHandle" ∧ (parseMethodDescriptor yX3_beginText.desc).map (fun d => d.parameters.length) = some 0 := by decide +kernel
theorem hdV_X3_beginText : yX3_beginText.cls = "NestedTags" ∧ yX3_beginText.cls ≠ "java/lang/invoke/MethodHandle" ∧ yX3_beginText.cls ≠ "java/lang/invoke/VarHandle" ∧ (parseMethodDescriptor yX3_beginText.desc).map (fun d => d.parameters.length) = some 0 := ⟨rfl, hdS_X3_beginText⟩
theorem hdS_X3_byteOf : yX3_byteOf.cls ≠ "java/lang/invoke/MethodHandle" ∧ yX3_byteOf.cls ≠ "java/lang/invoke/VarHandle" ∧ (parseMethodDescriptor yX3_byteOf.desc).map (fun d => d.parameters.length) = some 1 := by decide +kernel
theorem hdV_X3_byteOf : yX3_byteOf.cls = "NestedTags" ∧ yX3_byteOf.cls ≠ "java/lang/invoke/MethodHandle" ∧ yX3_byteOf.cls ≠ "java/lang/invoke/VarHandle" ∧ (parseMethodDescriptor yX3_byteOf.desc).map (fun d => d.parameters.length) = some 1 := ⟨rfl, hdS_X3_byteOf⟩
theorem hdS_X3_count : yX3_count.cls ≠ "java/lang/invoke/MethodHandle" ∧ yX3_count.cls ≠ "java/lang/invoke/VarHandle" ∧ (parseMethodDescriptor yX3_count.desc).map (fun d => d.parameters.length) = some 1 := by decide +kernel
theorem hdV_X3_count : yX3_count.cls = "NestedTags" ∧ yX3_count.cls ≠ "java/lang/invoke/MethodHandle" ∧ yX3_count.cls ≠ "java/lang/invoke/VarHandle" ∧ (parseMethodDescriptor yX3_count.desc).map (fun d => d.parameters.length) = some 1 := ⟨rfl, hdS_X3_count⟩
theorem hdS_X3_digitOf : yX3_digitOf.cls ≠ "java/lang/invoke/MethodHandle" ∧ yX3_digitOf.cls ≠ "java/lang/invoke/VarHandle" ∧ (parseMethodDescriptor yX3_digitOf.desc).map (fun d => d.parameters.length) = some 2 := by decide +kernel
theorem hdV_X3_digitOf : yX3_digitOf.cls = "NestedTags" ∧ yX3_digitOf.cls ≠ "java/lang/invoke/MethodHandle" ∧ yX3_digitOf.cls ≠ "java/lang/invoke/VarHandle" ∧ (parseMethodDescriptor yX3_digitOf.desc).map (fun d => d.parameters.length) = some 2 := ⟨rfl, hdS_X3_digitOf⟩
theorem hdS_X3_endEmptyTag : yX3_endEmptyTag.cls ≠ "java/lang/invoke/MethodHandle" ∧ yX3_endEmptyTag.cls ≠ "java/lang/invoke/VarHandle" ∧ (parseMethodDescriptor yX3_endEmptyTag.desc).map (fun d => d.parameters.length) = some 0 := by decide +kernel
theorem hdV_X3_endEmptyTag : yX3_endEmptyTag.cls = "NestedTags" ∧ yX3_endEmptyTag.cls ≠ "java/lang/invoke/MethodHandle" ∧ yX3_endEmptyTag.cls ≠ "java/lang/invoke/VarHandle" ∧ (parseMethodDescriptor yX3_endEmptyTag.desc).map (fun d => d.parameters.length) = some 0 := ⟨rfl, hdS_X3_endEmptyTag⟩
theorem hdS_X3_endStartTag : yX3_endStartTag.cls ≠ "java/lang/invoke/MethodHandle" ∧ yX3_endStartTag.cls ≠ "java/lang/invoke/VarHandle" ∧ (parseMethodDescriptor yX3_endStartTag.desc).map (fun d => d.parameters.length) = some 0 := by decide +kernel
theorem hdV_X3_endStartTag : yX3_endStartTag.cls = "NestedTags" ∧ yX3_endStartTag.cls ≠ "java/lang/invoke/MethodHandle" ∧ yX3_endStartTag.cls ≠ "java/lang/invoke/VarHandle" ∧ (parseMethodDescriptor yX3_endStartTag.desc).map (fun d => d.parameters.length) = some 0 := ⟨rfl, hdS_X3_endStartTag⟩
theorem hdS_X3_endText : yX3_endText.cls ≠ "java/lang/invoke/MethodHandle" ∧ yX3_endText.cls ≠ "java/lang/invoke/VarHandle" ∧ (parseMethodDescriptor yX3_endText.desc).map (fun d => d.parameters.length) = some 0 := by decide +kernel
theorem hdV_X3_endText : yX3_endText.cls = "NestedTags" ∧ yX3_endText.cls ≠ "java/lang/invoke/MethodHandle" ∧ yX3_endText.cls ≠ "java/lang/invoke/VarHandle" ∧ (parseMethodDescriptor yX3_endText.desc).map (fun d => d.parameters.length) = some 0 := ⟨rfl, hdS_X3_endText⟩
theorem hdS_X3_isBlank : yX3_isBlank.cls ≠ "java/lang/invoke/MethodHandle" ∧ yX3_isBlank.cls ≠ "java/lang/invoke/VarHandle" ∧ (parseMethodDescriptor yX3_isBlank.desc).map (fun d => d.parameters.length) = some 1 := by decide +kernel
theorem hdV_X3_isBlank : yX3_isBlank.cls = "NestedTags" ∧ yX3_isBlank.cls ≠ "java/lang/invoke/MethodHandle" ∧ yX3_isBlank.cls ≠ "java/lang/invoke/VarHandle" ∧ (parseMethodDescriptor yX3_isBlank.desc).map (fun d => d.parameters.length) = some 1 := ⟨rfl, hdS_X3_isBlank⟩
theorem hdS_X3_isCharacter : yX3_isCharacter.cls ≠ "java/lang/invoke/MethodHandle" ∧ yX3_isCharacter.cls ≠ "java/lang/invoke/VarHandle" ∧ (parseMethodDescriptor yX3_isCharacter.desc).map (fun d => d.parameters.length) = some 1 := by decide +kernel
theorem hdV_X3_isCharacter : yX3_isCharacter.cls = "NestedTags" ∧ yX3_isCharacter.cls ≠ "java/lang/invoke/MethodHandle" ∧ yX3_isCharacter.cls ≠ "java/lang/invoke/VarHandle" ∧ (parseMethodDescriptor yX3_isCharacter.desc).map (fun d => d.parameters.length) = some 1 := ⟨rfl, hdS_X3_isCharacter⟩
theorem hdS_X3_isContentCharacter : yX3_isContentCharacter.cls ≠ "java/lang/invoke/MethodHandle" ∧ yX3_isContentCharacter.cls ≠ "java/lang/invoke/VarHandle" ∧ (parseMethodDescriptor yX3_isContentCharacter.desc).map (fun d => d.parameters.length) = some 1 := by decide +kernel
theorem hdV_X3_isContentCharacter : yX3_isContentCharacter.cls = "NestedTags" ∧ yX3_isContentCharacter.cls ≠ "java/lang/invoke/MethodHandle" ∧ yX3_isContentCharacter.cls ≠ "java/lang/invoke/VarHandle" ∧ (parseMethodDescriptor yX3_isContentCharacter.desc).map (fun d => d.parameters.length) = some 1 := ⟨rfl, hdS_X3_isContentCharacter⟩
theorem hdS_X3_isKnownReference : yX3_isKnownReference.cls ≠ "java/lang/invoke/MethodHandle" ∧ yX3_isKnownReference.cls ≠ "java/lang/invoke/VarHandle" ∧ (parseMethodDescriptor yX3_isKnownReference.desc).map (fun d => d.parameters.length) = some 2 := by decide +kernel
theorem hdV_X3_isKnownReference : yX3_isKnownReference.cls = "NestedTags" ∧ yX3_isKnownReference.cls ≠ "java/lang/invoke/MethodHandle" ∧ yX3_isKnownReference.cls ≠ "java/lang/invoke/VarHandle" ∧ (parseMethodDescriptor yX3_isKnownReference.desc).map (fun d => d.parameters.length) = some 2 := ⟨rfl, hdS_X3_isKnownReference⟩
theorem hdS_X3_isNamePart : yX3_isNamePart.cls ≠ "java/lang/invoke/MethodHandle" ∧ yX3_isNamePart.cls ≠ "java/lang/invoke/VarHandle" ∧ (parseMethodDescriptor yX3_isNamePart.desc).map (fun d => d.parameters.length) = some 1 := by decide +kernel
theorem hdV_X3_isNamePart : yX3_isNamePart.cls = "NestedTags" ∧ yX3_isNamePart.cls ≠ "java/lang/invoke/MethodHandle" ∧ yX3_isNamePart.cls ≠ "java/lang/invoke/VarHandle" ∧ (parseMethodDescriptor yX3_isNamePart.desc).map (fun d => d.parameters.length) = some 1 := ⟨rfl, hdS_X3_isNamePart⟩
theorem hdS_X3_isNameStart : yX3_isNameStart.cls ≠ "java/lang/invoke/MethodHandle" ∧ yX3_isNameStart.cls ≠ "java/lang/invoke/VarHandle" ∧ (parseMethodDescriptor yX3_isNameStart.desc).map (fun d => d.parameters.length) = some 1 := by decide +kernel
theorem hdV_X3_isNameStart : yX3_isNameStart.cls = "NestedTags" ∧ yX3_isNameStart.cls ≠ "java/lang/invoke/MethodHandle" ∧ yX3_isNameStart.cls ≠ "java/lang/invoke/VarHandle" ∧ (parseMethodDescriptor yX3_isNameStart.desc).map (fun d => d.parameters.length) = some 1 := ⟨rfl, hdS_X3_isNameStart⟩
theorem hdS_X3_isReserved : yX3_isReserved.cls ≠ "java/lang/invoke/MethodHandle" ∧ yX3_isReserved.cls ≠ "java/lang/invoke/VarHandle" ∧ (parseMethodDescriptor yX3_isReserved.desc).map (fun d => d.parameters.length) = some 2 := by decide +kernel
theorem hdV_X3_isReserved : yX3_isReserved.cls = "NestedTags" ∧ yX3_isReserved.cls ≠ "java/lang/invoke/MethodHandle" ∧ yX3_isReserved.cls ≠ "java/lang/invoke/VarHandle" ∧ (parseMethodDescriptor yX3_isReserved.desc).map (fun d => d.parameters.length) = some 2 := ⟨rfl, hdS_X3_isReserved⟩
theorem hdS_X3_piece : yX3_piece.cls ≠ "java/lang/invoke/MethodHandle" ∧ yX3_piece.cls ≠ "java/lang/invoke/VarHandle" ∧ (parseMethodDescriptor yX3_piece.desc).map (fun d => d.parameters.length) = some 2 := by decide +kernel
theorem hdV_X3_piece : yX3_piece.cls = "NestedTags" ∧ yX3_piece.cls ≠ "java/lang/invoke/MethodHandle" ∧ yX3_piece.cls ≠ "java/lang/invoke/VarHandle" ∧ (parseMethodDescriptor yX3_piece.desc).map (fun d => d.parameters.length) = some 2 := ⟨rfl, hdS_X3_piece⟩
theorem hdS_X3_place : yX3_place.cls ≠ "java/lang/invoke/MethodHandle" ∧ yX3_place.cls ≠ "java/lang/invoke/VarHandle" ∧ (parseMethodDescriptor yX3_place.desc).map (fun d => d.parameters.length) = some 0 := by decide +kernel
theorem hdV_X3_place : yX3_place.cls = "NestedTags" ∧ yX3_place.cls ≠ "java/lang/invoke/MethodHandle" ∧ yX3_place.cls ≠ "java/lang/invoke/VarHandle" ∧ (parseMethodDescriptor yX3_place.desc).map (fun d => d.parameters.length) = some 0 := ⟨rfl, hdS_X3_place⟩
theorem hdS_X3_put : yX3_put.cls ≠ "java/lang/invoke/MethodHandle" ∧ yX3_put.cls ≠ "java/lang/invoke/VarHandle" ∧ (parseMethodDescriptor yX3_put.desc).map (fun d => d.parameters.length) = some 2 := by decide +kernel
theorem hdV_X3_put : yX3_put.cls = "NestedTags" ∧ yX3_put.cls ≠ "java/lang/invoke/MethodHandle" ∧ yX3_put.cls ≠ "java/lang/invoke/VarHandle" ∧ (parseMethodDescriptor yX3_put.desc).map (fun d => d.parameters.length) = some 2 := ⟨rfl, hdS_X3_put⟩
theorem hdS_X3_read : yX3_read.cls ≠ "java/lang/invoke/MethodHandle" ∧ yX3_read.cls ≠ "java/lang/invoke/VarHandle" ∧ (parseMethodDescriptor yX3_read.desc).map (fun d => d.parameters.length) = some 0 := by decide +kernel
theorem hdV_X3_read : yX3_read.cls = "NestedTags" ∧ yX3_read.cls ≠ "java/lang/invoke/MethodHandle" ∧ yX3_read.cls ≠ "java/lang/invoke/VarHandle" ∧ (parseMethodDescriptor yX3_read.desc).map (fun d => d.parameters.length) = some 0 := ⟨rfl, hdS_X3_read⟩
theorem hdS_X3_readAttributeName : yX3_readAttributeName.cls ≠ "java/lang/invoke/MethodHandle" ∧ yX3_readAttributeName.cls ≠ "java/lang/invoke/VarHandle" ∧ (parseMethodDescriptor yX3_readAttributeName.desc).map (fun d => d.parameters.length) = some 0 := by decide +kernel
theorem hdV_X3_readAttributeName : yX3_readAttributeName.cls = "NestedTags" ∧ yX3_readAttributeName.cls ≠ "java/lang/invoke/MethodHandle" ∧ yX3_readAttributeName.cls ≠ "java/lang/invoke/VarHandle" ∧ (parseMethodDescriptor yX3_readAttributeName.desc).map (fun d => d.parameters.length) = some 0 := ⟨rfl, hdS_X3_readAttributeName⟩
theorem hdS_X3_readBetween : yX3_readBetween.cls ≠ "java/lang/invoke/MethodHandle" ∧ yX3_readBetween.cls ≠ "java/lang/invoke/VarHandle" ∧ (parseMethodDescriptor yX3_readBetween.desc).map (fun d => d.parameters.length) = some 0 := by decide +kernel
theorem hdV_X3_readBetween : yX3_readBetween.cls = "NestedTags" ∧ yX3_readBetween.cls ≠ "java/lang/invoke/MethodHandle" ∧ yX3_readBetween.cls ≠ "java/lang/invoke/VarHandle" ∧ (parseMethodDescriptor yX3_readBetween.desc).map (fun d => d.parameters.length) = some 0 := ⟨rfl, hdS_X3_readBetween⟩
theorem hdS_X3_readCharacters : yX3_readCharacters.cls ≠ "java/lang/invoke/MethodHandle" ∧ yX3_readCharacters.cls ≠ "java/lang/invoke/VarHandle" ∧ (parseMethodDescriptor yX3_readCharacters.desc).map (fun d => d.parameters.length) = some 0 := by decide +kernel
theorem hdV_X3_readCharacters : yX3_readCharacters.cls = "NestedTags" ∧ yX3_readCharacters.cls ≠ "java/lang/invoke/MethodHandle" ∧ yX3_readCharacters.cls ≠ "java/lang/invoke/VarHandle" ∧ (parseMethodDescriptor yX3_readCharacters.desc).map (fun d => d.parameters.length) = some 0 := ⟨rfl, hdS_X3_readCharacters⟩
theorem hdS_X3_readComment : yX3_readComment.cls ≠ "java/lang/invoke/MethodHandle" ∧ yX3_readComment.cls ≠ "java/lang/invoke/VarHandle" ∧ (parseMethodDescriptor yX3_readComment.desc).map (fun d => d.parameters.length) = some 0 := by decide +kernel
theorem hdV_X3_readComment : yX3_readComment.cls = "NestedTags" ∧ yX3_readComment.cls ≠ "java/lang/invoke/MethodHandle" ∧ yX3_readComment.cls ≠ "java/lang/invoke/VarHandle" ∧ (parseMethodDescriptor yX3_readComment.desc).map (fun d => d.parameters.length) = some 0 := ⟨rfl, hdS_X3_readComment⟩
theorem hdS_X3_readContentReference : yX3_readContentReference.cls ≠ "java/lang/invoke/MethodHandle" ∧ yX3_readContentReference.cls ≠ "java/lang/invoke/VarHandle" ∧ (parseMethodDescriptor yX3_readContentReference.desc).map (fun d => d.parameters.length) = some 0 := by decide +kernel
theorem hdV_X3_readContentReference : yX3_readContentReference.cls = "NestedTags" ∧ yX3_readContentReference.cls ≠ "java/lang/invoke/MethodHandle" ∧ yX3_readContentReference.cls ≠ "java/lang/invoke/VarHandle" ∧ (parseMethodDescriptor yX3_readContentReference.desc).map (fun d => d.parameters.length) = some 0 := ⟨rfl, hdS_X3_readContentReference⟩
theorem hdS_X3_readEndTag : yX3_readEndTag.cls ≠ "java/lang/invoke/MethodHandle" ∧ yX3_readEndTag.cls ≠ "java/lang/invoke/VarHandle" ∧ (parseMethodDescriptor yX3_readEndTag.desc).map (fun d => d.parameters.length) = some 0 := by decide +kernel
theorem hdV_X3_readEndTag : yX3_readEndTag.cls = "NestedTags" ∧ yX3_readEndTag.cls ≠ "java/lang/invoke/MethodHandle" ∧ yX3_readEndTag.cls ≠ "java/lang/invoke/VarHandle" ∧ (parseMethodDescriptor yX3_readEndTag.desc).map (fun d => d.parameters.length) = some 0 := ⟨rfl, hdS_X3_readEndTag⟩
theorem hdS_X3_readInTag : yX3_readInTag.cls ≠ "java/lang/invoke/MethodHandle" ∧ yX3_readInTag.cls ≠ "java/lang/invoke/VarHandle" ∧ (parseMethodDescriptor yX3_readInTag.desc).map (fun d => d.parameters.length) = some 0 := by decide +kernel
theorem hdV_X3_readInTag : yX3_readInTag.cls = "NestedTags" ∧ yX3_readInTag.cls ≠ "java/lang/invoke/MethodHandle" ∧ yX3_readInTag.cls ≠ "java/lang/invoke/VarHandle" ∧ (parseMethodDescriptor yX3_readInTag.desc).map (fun d => d.parameters.length) = some 0 := ⟨rfl, hdS_X3_readInTag⟩
theorem hdS_X3_readInValue : yX3_readInValue.cls ≠ "java/lang/invoke/MethodHandle" ∧ yX3_readInValue.cls ≠ "java/lang/invoke/VarHandle" ∧ (parseMethodDescriptor yX3_readInValue.desc).map (fun d => d.parameters.length) = some 0 := by decide +kernel
theorem hdV_X3_readInValue : yX3_readInValue.cls = "NestedTags" ∧ yX3_readInValue.cls ≠ "java/lang/invoke/MethodHandle" ∧ yX3_readInValue.cls ≠ "java/lang/invoke/VarHandle" ∧ (parseMethodDescriptor yX3_readInValue.desc).map (fun d => d.parameters.length) = some 0 := ⟨rfl, hdS_X3_readInValue⟩
theorem hdS_X3_readInstruction : yX3_readInstruction.cls ≠ "java/lang/invoke/MethodHandle" ∧ yX3_readInstruction.cls ≠ "java/lang/invoke/VarHandle" ∧ (parseMethodDescriptor yX3_readInstruction.desc).map (fun d => d.parameters.length) = some 0 := by decide +kernel
theorem hdV_X3_readInstruction : yX3_readInstruction.cls = "NestedTags" ∧ yX3_readInstruction.cls ≠ "java/lang/invoke/MethodHandle" ∧ yX3_readInstruction.cls ≠ "java/lang/invoke/VarHandle" ∧ (parseMethodDescriptor yX3_readInstruction.desc).map (fun d => d.parameters.length) = some 0 := ⟨rfl, hdS_X3_readInstruction⟩
theorem hdS_X3_readMarkup : yX3_readMarkup.cls ≠ "java/lang/invoke/MethodHandle" ∧ yX3_readMarkup.cls ≠ "java/lang/invoke/VarHandle" ∧ (parseMethodDescriptor yX3_readMarkup.desc).map (fun d => d.parameters.length) = some 0 := by decide +kernel
theorem hdV_X3_readMarkup : yX3_readMarkup.cls = "NestedTags" ∧ yX3_readMarkup.cls ≠ "java/lang/invoke/MethodHandle" ∧ yX3_readMarkup.cls ≠ "java/lang/invoke/VarHandle" ∧ (parseMethodDescriptor yX3_readMarkup.desc).map (fun d => d.parameters.length) = some 0 := ⟨rfl, hdS_X3_readMarkup⟩
theorem hdS_X3_readNumber : yX3_readNumber.cls ≠ "java/lang/invoke/MethodHandle" ∧ yX3_readNumber.cls ≠ "java/lang/invoke/VarHandle" ∧ (parseMethodDescriptor yX3_readNumber.desc).map (fun d => d.parameters.length) = some 1 := by decide +kernel
theorem hdV_X3_readNumber : yX3_readNumber.cls = "NestedTags" ∧ yX3_readNumber.cls ≠ "java/lang/invoke/MethodHandle" ∧ yX3_readNumber.cls ≠ "java/lang/invoke/VarHandle" ∧ (parseMethodDescriptor yX3_readNumber.desc).map (fun d => d.parameters.length) = some 1 := ⟨rfl, hdS_X3_readNumber⟩
theorem hdS_X3_readReference : yX3_readReference.cls ≠ "java/lang/invoke/MethodHandle" ∧ yX3_readReference.cls ≠ "java/lang/invoke/VarHandle" ∧ (parseMethodDescriptor yX3_readReference.desc).map (fun d => d.parameters.length) = some 0 := by decide +kernel
theorem hdV_X3_readReference : yX3_readReference.cls = "NestedTags" ∧ yX3_readReference.cls ≠ "java/lang/invoke/MethodHandle" ∧ yX3_readReference.cls ≠ "java/lang/invoke/VarHandle" ∧ (parseMethodDescriptor yX3_readReference.desc).map (fun d => d.parameters.length) = some 0 := ⟨rfl, hdS_X3_readReference⟩
theorem hdS_X3_readSection : yX3_readSection.cls ≠ "java/lang/invoke/MethodHandle" ∧ yX3_readSection.cls ≠ "java/lang/invoke/VarHandle" ∧ (parseMethodDescriptor yX3_readSection.desc).map (fun d => d.parameters.length) = some 0 := by decide +kernel
theorem hdV_X3_readSection : yX3_readSection.cls = "NestedTags" ∧ yX3_readSection.cls ≠ "java/lang/invoke/MethodHandle" ∧ yX3_readSection.cls ≠ "java/lang/invoke/VarHandle" ∧ (parseMethodDescriptor yX3_readSection.desc).map (fun d => d.parameters.length) = some 0 := ⟨rfl, hdS_X3_readSection⟩
theorem hdS_X3_readTagName : yX3_readTagName.cls ≠ "java/lang/invoke/MethodHandle" ∧ yX3_readTagName.cls ≠ "java/lang/invoke/VarHandle" ∧ (parseMethodDescriptor yX3_readTagName.desc).map (fun d => d.parameters.length) = some 0 := by decide +kernel
theorem hdV_X3_readTagName : yX3_readTagName.cls = "NestedTags" ∧ yX3_readTagName.cls ≠ "java/lang/invoke/MethodHandle" ∧ yX3_readTagName.cls ≠ "java/lang/invoke/VarHandle" ∧ (parseMethodDescriptor yX3_readTagName.desc).map (fun d => d.parameters.length) = some 0 := ⟨rfl, hdS_X3_readTagName⟩
theorem hdS_X3_readToValue : yX3_readToValue.cls ≠ "java/lang/invoke/MethodHandle" ∧ yX3_readToValue.cls ≠ "java/lang/invoke/VarHandle" ∧ (parseMethodDescriptor yX3_readToValue.desc).map (fun d => d.parameters.length) = some 0 := by decide +kernel
theorem hdV_X3_readToValue : yX3_readToValue.cls = "NestedTags" ∧ yX3_readToValue.cls ≠ "java/lang/invoke/MethodHandle" ∧ yX3_readToValue.cls ≠ "java/lang/invoke/VarHandle" ∧ (parseMethodDescriptor yX3_readToValue.desc).map (fun d => d.parameters.length) = some 0 := ⟨rfl, hdS_X3_readToValue⟩
theorem hdS_X4_add : yX4_add.cls ≠ "java/lang/invoke/MethodHandle" ∧ yX4_add.cls ≠ "java/lang/invoke/VarHandle" ∧ (parseMethodDescriptor yX4_add.desc).map (fun d => d.parameters.length) = some 4 := by decide +kernel
theorem hdV_X4_add : yX4_add.cls = "NestedTagsModel" ∧ yX4_add.cls ≠ "java/lang/invoke/MethodHandle" ∧ yX4_add.cls ≠ "java/lang/invoke/VarHandle" ∧ (parseMethodDescriptor yX4_add.desc).map (fun d => d.parameters.length) = some 4 := ⟨rfl, hdS_X4_add⟩
theorem hdS_X4_attributeName : yX4_attributeName.cls ≠ "java/lang/invoke/MethodHandle" ∧ yX4_attributeName.cls ≠ "java/lang/invoke/VarHandle" ∧ (parseMethodDescriptor yX4_attributeName.desc).map (fun d => d.parameters.length) = some 1 := by decide +kernel
theorem hdV_X4_attributeName : yX4_attributeName.cls = "NestedTagsModel" ∧ yX4_attributeName.cls ≠ "java/lang/invoke/MethodHandle" ∧ yX4_attributeName.cls ≠ "java/lang/invoke/VarHandle" ∧ (parseMethodDescriptor yX4_attributeName.desc).map (fun d => d.parameters.length) = some 1 := ⟨rfl, hdS_X4_attributeName⟩
theorem hdS_X4_bang : yX4_bang.cls ≠ "java/lang/invoke/MethodHandle" ∧ yX4_bang.cls ≠ "java/lang/invoke/VarHandle" ∧ (parseMethodDescriptor yX4_bang.desc).map (fun d => d.parameters.length) = some 1 := by decide +kernel
theorem hdV_X4_bang : yX4_bang.cls = "NestedTagsModel" ∧ yX4_bang.cls ≠ "java/lang/invoke/MethodHandle" ∧ yX4_bang.cls ≠ "java/lang/invoke/VarHandle" ∧ (parseMethodDescriptor yX4_bang.desc).map (fun d => d.parameters.length) = some 1 := ⟨rfl, hdS_X4_bang⟩
theorem hdS_X4_byteOf : yX4_byteOf.cls ≠ "java/lang/invoke/MethodHandle" ∧ yX4_byteOf.cls ≠ "java/lang/invoke/VarHandle" ∧ (parseMethodDescriptor yX4_byteOf.desc).map (fun d => d.parameters.length) = some 1 := by decide +kernel
theorem hdV_X4_byteOf : yX4_byteOf.cls = "NestedTagsModel" ∧ yX4_byteOf.cls ≠ "java/lang/invoke/MethodHandle" ∧ yX4_byteOf.cls ≠ "java/lang/invoke/VarHandle" ∧ (parseMethodDescriptor yX4_byteOf.desc).map (fun d => d.parameters.length) = some 1 := ⟨rfl, hdS_X4_byteOf⟩
theorem hdS_X4_closeCharacters : yX4_closeCharacters.cls ≠ "java/lang/invoke/MethodHandle" ∧ yX4_closeCharacters.cls ≠ "java/lang/invoke/VarHandle" ∧ (parseMethodDescriptor yX4_closeCharacters.desc).map (fun d => d.parameters.length) = some 0 := by decide +kernel
theorem hdV_X4_closeCharacters : yX4_closeCharacters.cls = "NestedTagsModel" ∧ yX4_closeCharacters.cls ≠ "java/lang/invoke/MethodHandle" ∧ yX4_closeCharacters.cls ≠ "java/lang/invoke/VarHandle" ∧ (parseMethodDescriptor yX4_closeCharacters.desc).map (fun d => d.parameters.length) = some 0 := ⟨rfl, hdS_X4_closeCharacters⟩
theorem hdS_X4_closed : yX4_closed.cls ≠ "java/lang/invoke/MethodHandle" ∧ yX4_closed.cls ≠ "java/lang/invoke/VarHandle" ∧ (parseMethodDescriptor yX4_closed.desc).map (fun d => d.parameters.length) = some 1 := by decide +kernel
theorem hdV_X4_closed : yX4_closed.cls = "NestedTagsModel" ∧ yX4_closed.cls ≠ "java/lang/invoke/MethodHandle" ∧ yX4_closed.cls ≠ "java/lang/invoke/VarHandle" ∧ (parseMethodDescriptor yX4_closed.desc).map (fun d => d.parameters.length) = some 1 := ⟨rfl, hdS_X4_closed⟩
theorem hdS_X4_content : yX4_content.cls ≠ "java/lang/invoke/MethodHandle" ∧ yX4_content.cls ≠ "java/lang/invoke/VarHandle" ∧ (parseMethodDescriptor yX4_content.desc).map (fun d => d.parameters.length) = some 1 := by decide +kernel
theorem hdV_X4_content : yX4_content.cls = "NestedTagsModel" ∧ yX4_content.cls ≠ "java/lang/invoke/MethodHandle" ∧ yX4_content.cls ≠ "java/lang/invoke/VarHandle" ∧ (parseMethodDescriptor yX4_content.desc).map (fun d => d.parameters.length) = some 1 := ⟨rfl, hdS_X4_content⟩
theorem hdS_X4_count : yX4_count.cls ≠ "java/lang/invoke/MethodHandle" ∧ yX4_count.cls ≠ "java/lang/invoke/VarHandle" ∧ (parseMethodDescriptor yX4_count.desc).map (fun d => d.parameters.length) = some 1 := by decide +kernel
theorem hdV_X4_count : yX4_count.cls = "NestedTagsModel" ∧ yX4_count.cls ≠ "java/lang/invoke/MethodHandle" ∧ yX4_count.cls ≠ "java/lang/invoke/VarHandle" ∧ (parseMethodDescriptor yX4_count.desc).map (fun d => d.parameters.length) = some 1 := ⟨rfl, hdS_X4_count⟩
theorem hdS_X4_digit : yX4_digit.cls ≠ "java/lang/invoke/MethodHandle" ∧ yX4_digit.cls ≠ "java/lang/invoke/VarHandle" ∧ (parseMethodDescriptor yX4_digit.desc).map (fun d => d.parameters.length) = some 2 := by decide +kernel
theorem hdV_X4_digit : yX4_digit.cls = "NestedTagsModel" ∧ yX4_digit.cls ≠ "java/lang/invoke/MethodHandle" ∧ yX4_digit.cls ≠ "java/lang/invoke/VarHandle" ∧ (parseMethodDescriptor yX4_digit.desc).map (fun d => d.parameters.length) = some 2 := ⟨rfl, hdS_X4_digit⟩
theorem hdS_X4_empty : yX4_empty.cls ≠ "java/lang/invoke/MethodHandle" ∧ yX4_empty.cls ≠ "java/lang/invoke/VarHandle" ∧ (parseMethodDescriptor yX4_empty.desc).map (fun d => d.parameters.length) = some 0 := by decide +kernel
theorem hdV_X4_empty : yX4_empty.cls = "NestedTagsModel" ∧ yX4_empty.cls ≠ "java/lang/invoke/MethodHandle" ∧ yX4_empty.cls ≠ "java/lang/invoke/VarHandle" ∧ (parseMethodDescriptor yX4_empty.desc).map (fun d => d.parameters.length) = some 0 := ⟨rfl, hdS_X4_empty⟩
theorem hdS_X4_end : yX4_end.cls ≠ "java/lang/invoke/MethodHandle" ∧ yX4_end.cls ≠ "java/lang/invoke/VarHandle" ∧ (parseMethodDescriptor yX4_end.desc).map (fun d => d.parameters.length) = some 1 := by decide +kernel
theorem hdV_X4_end : yX4_end.cls = "NestedTagsModel" ∧ yX4_end.cls ≠ "java/lang/invoke/MethodHandle" ∧ yX4_end.cls ≠ "java/lang/invoke/VarHandle" ∧ (parseMethodDescriptor yX4_end.desc).map (fun d => d.parameters.length) = some 1 := ⟨rfl, hdS_X4_end⟩
theorem hdS_X4_endName : yX4_endName.cls ≠ "java/lang/invoke/MethodHandle" ∧ yX4_endName.cls ≠ "java/lang/invoke/VarHandle" ∧ (parseMethodDescriptor yX4_endName.desc).map (fun d => d.parameters.length) = some 1 := by decide +kernel
theorem hdV_X4_endName : yX4_endName.cls = "NestedTagsModel" ∧ yX4_endName.cls ≠ "java/lang/invoke/MethodHandle" ∧ yX4_endName.cls ≠ "java/lang/invoke/VarHandle" ∧ (parseMethodDescriptor yX4_endName.desc).map (fun d => d.parameters.length) = some 1 := ⟨rfl, hdS_X4_endName⟩
theorem hdS_X4_equal : yX4_equal.cls ≠ "java/lang/invoke/MethodHandle" ∧ yX4_equal.cls ≠ "java/lang/invoke/VarHandle" ∧ (parseMethodDescriptor yX4_equal.desc).map (fun d => d.parameters.length) = some 1 := by decide +kernel
theorem hdV_X4_equal : yX4_equal.cls = "NestedTagsModel" ∧ yX4_equal.cls ≠ "java/lang/invoke/MethodHandle" ∧ yX4_equal.cls ≠ "java/lang/invoke/VarHandle" ∧ (parseMethodDescriptor yX4_equal.desc).map (fun d => d.parameters.length) = some 1 := ⟨rfl, hdS_X4_equal⟩
theorem hdS_X4_fail : yX4_fail.cls ≠ "java/lang/invoke/MethodHandle" ∧ yX4_fail.cls ≠ "java/lang/invoke/VarHandle" ∧ (parseMethodDescriptor yX4_fail.desc).map (fun d => d.parameters.length) = some 2 := by decide +kernel
theorem hdV_X4_fail : yX4_fail.cls = "NestedTagsModel" ∧ yX4_fail.cls ≠ "java/lang/invoke/MethodHandle" ∧ yX4_fail.cls ≠ "java/lang/invoke/VarHandle" ∧ (parseMethodDescriptor yX4_fail.desc).map (fun d => d.parameters.length) = some 2 := ⟨rfl, hdS_X4_fail⟩
theorem hdS_X4_go : yX4_go.cls ≠ "java/lang/invoke/MethodHandle" ∧ yX4_go.cls ≠ "java/lang/invoke/VarHandle" ∧ (parseMethodDescriptor yX4_go.desc).map (fun d => d.parameters.length) = some 1 := by decide +kernel
theorem hdV_X4_go : yX4_go.cls = "NestedTagsModel" ∧ yX4_go.cls ≠ "java/lang/invoke/MethodHandle" ∧ yX4_go.cls ≠ "java/lang/invoke/VarHandle" ∧ (parseMethodDescriptor yX4_go.desc).map (fun d => d.parameters.length) = some 1 := ⟨rfl, hdS_X4_go⟩
theorem hdS_X4_inTag : yX4_inTag.cls ≠ "java/lang/invoke/MethodHandle" ∧ yX4_inTag.cls ≠ "java/lang/invoke/VarHandle" ∧ (parseMethodDescriptor yX4_inTag.desc).map (fun d => d.parameters.length) = some 1 := by decide +kernel
theorem hdV_X4_inTag : yX4_inTag.cls = "NestedTagsModel" ∧ yX4_inTag.cls ≠ "java/lang/invoke/MethodHandle" ∧ yX4_inTag.cls ≠ "java/lang/invoke/VarHandle" ∧ (parseMethodDescriptor yX4_inTag.desc).map (fun d => d.parameters.length) = some 1 := ⟨rfl, hdS_X4_inTag⟩
theorem hdS_X4_is : yX4_is.cls ≠ "java/lang/invoke/MethodHandle" ∧ yX4_is.cls ≠ "java/lang/invoke/VarHandle" ∧ (parseMethodDescriptor yX4_is.desc).map (fun d => d.parameters.length) = some 1 := by decide +kernel
theorem hdV_X4_is : yX4_is.cls = "NestedTagsModel" ∧ yX4_is.cls ≠ "java/lang/invoke/MethodHandle" ∧ yX4_is.cls ≠ "java/lang/invoke/VarHandle" ∧ (parseMethodDescriptor yX4_is.desc).map (fun d => d.parameters.length) = some 1 := ⟨rfl, hdS_X4_is⟩
theorem hdS_X4_isBarred : yX4_isBarred.cls ≠ "java/lang/invoke/MethodHandle" ∧ yX4_isBarred.cls ≠ "java/lang/invoke/VarHandle" ∧ (parseMethodDescriptor yX4_isBarred.desc).map (fun d => d.parameters.length) = some 0 := by decide +kernel
theorem hdV_X4_isBarred : yX4_isBarred.cls = "NestedTagsModel" ∧ yX4_isBarred.cls ≠ "java/lang/invoke/MethodHandle" ∧ yX4_isBarred.cls ≠ "java/lang/invoke/VarHandle" ∧ (parseMethodDescriptor yX4_isBarred.desc).map (fun d => d.parameters.length) = some 0 := ⟨rfl, hdS_X4_isBarred⟩
theorem hdS_X4_isBegin : yX4_isBegin.cls ≠ "java/lang/invoke/MethodHandle" ∧ yX4_isBegin.cls ≠ "java/lang/invoke/VarHandle" ∧ (parseMethodDescriptor yX4_isBegin.desc).map (fun d => d.parameters.length) = some 1 := by decide +kernel
theorem hdV_X4_isBegin : yX4_isBegin.cls = "NestedTagsModel" ∧ yX4_isBegin.cls ≠ "java/lang/invoke/MethodHandle" ∧ yX4_isBegin.cls ≠ "java/lang/invoke/VarHandle" ∧ (parseMethodDescriptor yX4_isBegin.desc).map (fun d => d.parameters.length) = some 1 := ⟨rfl, hdS_X4_isBegin⟩
theorem hdS_X4_isBlank : yX4_isBlank.cls ≠ "java/lang/invoke/MethodHandle" ∧ yX4_isBlank.cls ≠ "java/lang/invoke/VarHandle" ∧ (parseMethodDescriptor yX4_isBlank.desc).map (fun d => d.parameters.length) = some 1 := by decide +kernel
theorem hdV_X4_isBlank : yX4_isBlank.cls = "NestedTagsModel" ∧ yX4_isBlank.cls ≠ "java/lang/invoke/MethodHandle" ∧ yX4_isBlank.cls ≠ "java/lang/invoke/VarHandle" ∧ (parseMethodDescriptor yX4_isBlank.desc).map (fun d => d.parameters.length) = some 1 := ⟨rfl, hdS_X4_isBlank⟩
theorem hdS_X4_isHex : yX4_isHex.cls ≠ "java/lang/invoke/MethodHandle" ∧ yX4_isHex.cls ≠ "java/lang/invoke/VarHandle" ∧ (parseMethodDescriptor yX4_isHex.desc).map (fun d => d.parameters.length) = some 1 := by decide +kernel
theorem hdV_X4_isHex : yX4_isHex.cls = "NestedTagsModel" ∧ yX4_isHex.cls ≠ "java/lang/invoke/MethodHandle" ∧ yX4_isHex.cls ≠ "java/lang/invoke/VarHandle" ∧ (parseMethodDescriptor yX4_isHex.desc).map (fun d => d.parameters.length) = some 1 := ⟨rfl, hdS_X4_isHex⟩
theorem hdS_X4_isPart : yX4_isPart.cls ≠ "java/lang/invoke/MethodHandle" ∧ yX4_isPart.cls ≠ "java/lang/invoke/VarHandle" ∧ (parseMethodDescriptor yX4_isPart.desc).map (fun d => d.parameters.length) = some 1 := by decide +kernel
theorem hdV_X4_isPart : yX4_isPart.cls = "NestedTagsModel" ∧ yX4_isPart.cls ≠ "java/lang/invoke/MethodHandle" ∧ yX4_isPart.cls ≠ "java/lang/invoke/VarHandle" ∧ (parseMethodDescriptor yX4_isPart.desc).map (fun d => d.parameters.length) = some 1 := ⟨rfl, hdS_X4_isPart⟩
theorem hdS_X4_isSign : yX4_isSign.cls ≠ "java/lang/invoke/MethodHandle" ∧ yX4_isSign.cls ≠ "java/lang/invoke/VarHandle" ∧ (parseMethodDescriptor yX4_isSign.desc).map (fun d => d.parameters.length) = some 1 := by decide +kernel
theorem hdV_X4_isSign : yX4_isSign.cls = "NestedTagsModel" ∧ yX4_isSign.cls ≠ "java/lang/invoke/MethodHandle" ∧ yX4_isSign.cls ≠ "java/lang/invoke/VarHandle" ∧ (parseMethodDescriptor yX4_isSign.desc).map (fun d => d.parameters.length) = some 1 := ⟨rfl, hdS_X4_isSign⟩
theorem hdS_X4_less : yX4_less.cls ≠ "java/lang/invoke/MethodHandle" ∧ yX4_less.cls ≠ "java/lang/invoke/VarHandle" ∧ (parseMethodDescriptor yX4_less.desc).map (fun d => d.parameters.length) = some 1 := by decide +kernel
theorem hdV_X4_less : yX4_less.cls = "NestedTagsModel" ∧ yX4_less.cls ≠ "java/lang/invoke/MethodHandle" ∧ yX4_less.cls ≠ "java/lang/invoke/VarHandle" ∧ (parseMethodDescriptor yX4_less.desc).map (fun d => d.parameters.length) = some 1 := ⟨rfl, hdS_X4_less⟩
theorem hdS_X4_nameFrom : yX4_nameFrom.cls ≠ "java/lang/invoke/MethodHandle" ∧ yX4_nameFrom.cls ≠ "java/lang/invoke/VarHandle" ∧ (parseMethodDescriptor yX4_nameFrom.desc).map (fun d => d.parameters.length) = some 2 := by decide +kernel
theorem hdV_X4_nameFrom : yX4_nameFrom.cls = "NestedTagsModel" ∧ yX4_nameFrom.cls ≠ "java/lang/invoke/MethodHandle" ∧ yX4_nameFrom.cls ≠ "java/lang/invoke/VarHandle" ∧ (parseMethodDescriptor yX4_nameFrom.desc).map (fun d => d.parameters.length) = some 2 := ⟨rfl, hdS_X4_nameFrom⟩
theorem hdS_X4_piece : yX4_piece.cls ≠ "java/lang/invoke/MethodHandle" ∧ yX4_piece.cls ≠ "java/lang/invoke/VarHandle" ∧ (parseMethodDescriptor yX4_piece.desc).map (fun d => d.parameters.length) = some 2 := by decide +kernel
theorem hdV_X4_piece : yX4_piece.cls = "NestedTagsModel" ∧ yX4_piece.cls ≠ "java/lang/invoke/MethodHandle" ∧ yX4_piece.cls ≠ "java/lang/invoke/VarHandle" ∧ (parseMethodDescriptor yX4_piece.desc).map (fun d => d.parameters.length) = some 2 := ⟨rfl, hdS_X4_piece⟩
theorem hdS_X4_place : yX4_place.cls ≠ "java/lang/invoke/MethodHandle" ∧ yX4_place.cls ≠ "java/lang/invoke/VarHandle" ∧ (parseMethodDescriptor yX4_place.desc).map (fun d => d.parameters.length) = some 0 := by decide +kernel
theorem hdV_X4_place : yX4_place.cls = "NestedTagsModel" ∧ yX4_place.cls ≠ "java/lang/invoke/MethodHandle" ∧ yX4_place.cls ≠ "java/lang/invoke/VarHandle" ∧ (parseMethodDescriptor yX4_place.desc).map (fun d => d.parameters.length) = some 0 := ⟨rfl, hdS_X4_place⟩
theorem hdS_X4_put : yX4_put.cls ≠ "java/lang/invoke/MethodHandle" ∧ yX4_put.cls ≠ "java/lang/invoke/VarHandle" ∧ (parseMethodDescriptor yX4_put.desc).map (fun d => d.parameters.length) = some 2 := by decide +kernel
theorem hdV_X4_put : yX4_put.cls = "NestedTagsModel" ∧ yX4_put.cls ≠ "java/lang/invoke/MethodHandle" ∧ yX4_put.cls ≠ "java/lang/invoke/VarHandle" ∧ (parseMethodDescriptor yX4_put.desc).map (fun d => d.parameters.length) = some 2 := ⟨rfl, hdS_X4_put⟩
theorem hdS_X4_read : yX4_read.cls ≠ "java/lang/invoke/MethodHandle" ∧ yX4_read.cls ≠ "java/lang/invoke/VarHandle" ∧ (parseMethodDescriptor yX4_read.desc).map (fun d => d.parameters.length) = some 0 := by decide +kernel
theorem hdV_X4_read : yX4_read.cls = "NestedTagsModel" ∧ yX4_read.cls ≠ "java/lang/invoke/MethodHandle" ∧ yX4_read.cls ≠ "java/lang/invoke/VarHandle" ∧ (parseMethodDescriptor yX4_read.desc).map (fun d => d.parameters.length) = some 0 := ⟨rfl, hdS_X4_read⟩
theorem hdS_X4_refer : yX4_refer.cls ≠ "java/lang/invoke/MethodHandle" ∧ yX4_refer.cls ≠ "java/lang/invoke/VarHandle" ∧ (parseMethodDescriptor yX4_refer.desc).map (fun d => d.parameters.length) = some 1 := by decide +kernel
theorem hdV_X4_refer : yX4_refer.cls = "NestedTagsModel" ∧ yX4_refer.cls ≠ "java/lang/invoke/MethodHandle" ∧ yX4_refer.cls ≠ "java/lang/invoke/VarHandle" ∧ (parseMethodDescriptor yX4_refer.desc).map (fun d => d.parameters.length) = some 1 := ⟨rfl, hdS_X4_refer⟩
theorem hdS_X4_referred : yX4_referred.cls ≠ "java/lang/invoke/MethodHandle" ∧ yX4_referred.cls ≠ "java/lang/invoke/VarHandle" ∧ (parseMethodDescriptor yX4_referred.desc).map (fun d => d.parameters.length) = some 0 := by decide +kernel
theorem hdV_X4_referred : yX4_referred.cls = "NestedTagsModel" ∧ yX4_referred.cls ≠ "java/lang/invoke/MethodHandle" ∧ yX4_referred.cls ≠ "java/lang/invoke/VarHandle" ∧ (parseMethodDescriptor yX4_referred.desc).map (fun d => d.parameters.length) = some 0 := ⟨rfl, hdS_X4_referred⟩
theorem hdS_X4_referredName : yX4_referredName.cls ≠ "java/lang/invoke/MethodHandle" ∧ yX4_referredName.cls ≠ "java/lang/invoke/VarHandle" ∧ (parseMethodDescriptor yX4_referredName.desc).map (fun d => d.parameters.length) = some 1 := by decide +kernel
theorem hdV_X4_referredName : yX4_referredName.cls = "NestedTagsModel" ∧ yX4_referredName.cls ≠ "java/lang/invoke/MethodHandle" ∧ yX4_referredName.cls ≠ "java/lang/invoke/VarHandle" ∧ (parseMethodDescriptor yX4_referredName.desc).map (fun d => d.parameters.length) = some 1 := ⟨rfl, hdS_X4_referredName⟩
theorem hdS_X4_same : yX4_same.cls ≠ "java/lang/invoke/MethodHandle" ∧ yX4_same.cls ≠ "java/lang/invoke/VarHandle" ∧ (parseMethodDescriptor yX4_same.desc).map (fun d => d.parameters.length) = some 4 := by decide +kernel
theorem hdV_X4_same : yX4_same.cls = "NestedTagsModel" ∧ yX4_same.cls ≠ "java/lang/invoke/MethodHandle" ∧ yX4_same.cls ≠ "java/lang/invoke/VarHandle" ∧ (parseMethodDescriptor yX4_same.desc).map (fun d => d.parameters.length) = some 4 := ⟨rfl, hdS_X4_same⟩
theorem hdS_X4_section : yX4_section.cls ≠ "java/lang/invoke/MethodHandle" ∧ yX4_section.cls ≠ "java/lang/invoke/VarHandle" ∧ (parseMethodDescriptor yX4_section.desc).map (fun d => d.parameters.length) = some 1 := by decide +kernel
theorem hdV_X4_section : yX4_section.cls = "NestedTagsModel" ∧ yX4_section.cls ≠ "java/lang/invoke/MethodHandle" ∧ yX4_section.cls ≠ "java/lang/invoke/VarHandle" ∧ (parseMethodDescriptor yX4_section.desc).map (fun d => d.parameters.length) = some 1 := ⟨rfl, hdS_X4_section⟩
theorem hdS_X4_start : yX4_start.cls ≠ "java/lang/invoke/MethodHandle" ∧ yX4_start.cls ≠ "java/lang/invoke/VarHandle" ∧ (parseMethodDescriptor yX4_start.desc).map (fun d => d.parameters.length) = some 1 := by decide +kernel
theorem hdV_X4_start : yX4_start.cls = "NestedTagsModel" ∧ yX4_start.cls ≠ "java/lang/invoke/MethodHandle" ∧ yX4_start.cls ≠ "java/lang/invoke/VarHandle" ∧ (parseMethodDescriptor yX4_start.desc).map (fun d => d.parameters.length) = some 1 := ⟨rfl, hdS_X4_start⟩
theorem hdS_X4_step : yX4_step.cls ≠ "java/lang/invoke/MethodHandle" ∧ yX4_step.cls ≠ "java/lang/invoke/VarHandle" ∧ (parseMethodDescriptor yX4_step.desc).map (fun d => d.parameters.length) = some 1 := by decide +kernel
theorem hdV_X4_step : yX4_step.cls = "NestedTagsModel" ∧ yX4_step.cls ≠ "java/lang/invoke/MethodHandle" ∧ yX4_step.cls ≠ "java/lang/invoke/VarHandle" ∧ (parseMethodDescriptor yX4_step.desc).map (fun d => d.parameters.length) = some 1 := ⟨rfl, hdS_X4_step⟩
theorem hdS_X4_tagName : yX4_tagName.cls ≠ "java/lang/invoke/MethodHandle" ∧ yX4_tagName.cls ≠ "java/lang/invoke/VarHandle" ∧ (parseMethodDescriptor yX4_tagName.desc).map (fun d => d.parameters.length) = some 1 := by decide +kernel
theorem hdV_X4_tagName : yX4_tagName.cls = "NestedTagsModel" ∧ yX4_tagName.cls ≠ "java/lang/invoke/MethodHandle" ∧ yX4_tagName.cls ≠ "java/lang/invoke/VarHandle" ∧ (parseMethodDescriptor yX4_tagName.desc).map (fun d => d.parameters.length) = some 1 := ⟨rfl, hdS_X4_tagName⟩
theorem hdS_X4_target : yX4_target.cls ≠ "java/lang/invoke/MethodHandle" ∧ yX4_target.cls ≠ "java/lang/invoke/VarHandle" ∧ (parseMethodDescriptor yX4_target.desc).map (fun d => d.parameters.length) = some 1 := by decide +kernel
theorem hdV_X4_target : yX4_target.cls = "NestedTagsModel" ∧ yX4_target.cls ≠ "java/lang/invoke/MethodHandle" ∧ yX4_target.cls ≠ "java/lang/invoke/VarHandle" ∧ (parseMethodDescriptor yX4_target.desc).map (fun d => d.parameters.length) = some 1 := ⟨rfl, hdS_X4_target⟩
theorem hdS_X4_text : yX4_text.cls ≠ "java/lang/invoke/MethodHandle" ∧ yX4_text.cls ≠ "java/lang/invoke/VarHandle" ∧ (parseMethodDescriptor yX4_text.desc).map (fun d => d.parameters.length) = some 3 := by decide +kernel
theorem hdV_X4_text : yX4_text.cls = "NestedTagsModel" ∧ yX4_text.cls ≠ "java/lang/invoke/MethodHandle" ∧ yX4_text.cls ≠ "java/lang/invoke/VarHandle" ∧ (parseMethodDescriptor yX4_text.desc).map (fun d => d.parameters.length) = some 3 := ⟨rfl, hdS_X4_text⟩
theorem hdS_X4_value : yX4_value.cls ≠ "java/lang/invoke/MethodHandle" ∧ yX4_value.cls ≠ "java/lang/invoke/VarHandle" ∧ (parseMethodDescriptor yX4_value.desc).map (fun d => d.parameters.length) = some 1 := by decide +kernel
theorem hdV_X4_value : yX4_value.cls = "NestedTagsModel" ∧ yX4_value.cls ≠ "java/lang/invoke/MethodHandle" ∧ yX4_value.cls ≠ "java/lang/invoke/VarHandle" ∧ (parseMethodDescriptor yX4_value.desc).map (fun d => d.parameters.length) = some 1 := ⟨rfl, hdS_X4_value⟩
theorem hdS_X4_wrong : yX4_wrong.cls ≠ "java/lang/invoke/MethodHandle" ∧ yX4_wrong.cls ≠ "java/lang/invoke/VarHandle" ∧ (parseMethodDescriptor yX4_wrong.desc).map (fun d => d.parameters.length) = some 0 := by decide +kernel
theorem hdV_X4_wrong : yX4_wrong.cls = "NestedTagsModel" ∧ yX4_wrong.cls ≠ "java/lang/invoke/MethodHandle" ∧ yX4_wrong.cls ≠ "java/lang/invoke/VarHandle" ∧ (parseMethodDescriptor yX4_wrong.desc).map (fun d => d.parameters.length) = some 0 := ⟨rfl, hdS_X4_wrong⟩
