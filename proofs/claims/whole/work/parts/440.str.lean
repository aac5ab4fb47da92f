/-! THE ONE TEXT: a String constant -/
def tx0 (j : Nat) : Nat := [112, 48, 44, 51, 44, 50, 44, 52, 59, 112, 49, 44, 52, 44, 49, 44, 50, 59, 112, 50, 44, 50, 44, 50, 44, 54, 59, 112, 51, 44, 49, 44, 53, 44, 48, 59, 100, 49, 44, 48, 44, 48, 44, 50, 59, 100, 48, 44, 49, 44, 49, 44, 51, 59, 100, 50, 44, 48, 44, 49, 44, 53, 59, 104, 48, 44, 48, 44, 50, 59, 104, 48, 44, 50, 44, 49, 59, 104, 49, 44, 49, 44, 48, 59, 104, 50, 44, 48, 44, 49, 59, 104, 50, 44, 51, 44, 49, 59, 104, 51, 44, 52, 44, 49, 59, 99, 50, 59].getD j 0
def txS : String := "p0,3,2,4;p1,4,1,2;p2,2,2,6;p3,1,5,0;d1,0,0,2;d0,1,1,3;d2,0,1,5;h0,0,2;h0,2,1;h1,1,0;h2,0,1;h2,3,1;h3,4,1;c2;"
theorem tx0_ok : ∀ j, j < 108 → 32 ≤ tx0 j ∧ tx0 j ≤ 126 := by decide +kernel
def jws : List Jvm.Cond := [.code yJ0_length_8abf5 cJ0_length_8abf5 1 (some .int), .code yJ0_coder_7d493 cJ0_coder_7d493 1 (some .byte), .code yJ0_isLatin1_aae02 cJ0_isLatin1_aae02 1 (some .boolean), .code yJ0_charAt_5068e cJ0_charAt_5068e 2 (some .char), .code yJ1_charAt_3b067 cJ1_charAt_3b067 2 (some .char), .code yJ0_checkIndex_df160 cJ0_checkIndex_df160 2 none, .code yJ3_checkIndex_8e157 cJ3_checkIndex_8e157 3 (some .int), .fieldLink RJ0 9 "java/lang/String" "value" "[B", .fieldLink RJ0 38 "java/lang/String" "COMPACT_STRINGS" "Z", .fieldLink RJ0 15 "java/lang/String" "coder" "B", .fieldLink RJ0 1053 "jdk/internal/util/Preconditions" "SIOOBE_FORMATTER" "Ljava/util/function/BiFunction;", .methodLink RJ0 335 yJ0_coder_7d493, .instanceMethod yJ0_coder_7d493, .selects RJ0 yJ0_coder_7d493 yJ0_coder_7d493, .methodLink RJ0 492 yJ0_isLatin1_aae02, .instanceMethod yJ0_isLatin1_aae02, .selects RJ0 yJ0_isLatin1_aae02 yJ0_isLatin1_aae02, .methodLink RJ0 495 yJ1_charAt_3b067, .static yJ1_charAt_3b067, .methodLink RJ1 9 yJ0_checkIndex_df160, .static yJ0_checkIndex_df160, .methodLink RJ0 1059 yJ3_checkIndex_8e157, .static yJ3_checkIndex_8e157, .methodLink RX6 68 yJ0_length_8abf5, .instanceMethod yJ0_length_8abf5, .selects RJ0 yJ0_length_8abf5 yJ0_length_8abf5, .methodLink RX6 74 yJ0_charAt_5068e, .instanceMethod yJ0_charAt_5068e, .selects RJ0 yJ0_charAt_5068e yJ0_charAt_5068e, .initialized RJ0, .initialized RJ1, .initialized RJ3]
set_option maxRecDepth 100000 in
theorem jws_in : ∀ w ∈ jws, w ∈ gwl := gwl_of [251, 255, 265, 261, 268, 271, 276, 1013, 256, 1014, 272, 252, 253, 254, 262, 263, 264, 266, 267, 269, 270, 274, 275, 248, 249, 250, 258, 259, 260, 52, 53, 54] (by rfl) (by decide +kernel)
theorem jgood {y : MethodName} {cc : ByteArray} {n : Nat} {ret : Option FieldType} (h : Jvm.Cond.code y cc n ret ∈ jws) : GoodIn gwl (.code y cc n ret :: gwl) := by
  intro w hw
  have hw' : w ∈ gwl := by
    rcases List.mem_cons.mp hw with rfl | h2
    · exact jws_in _ h
    · exact h2
  exact ⟨hw', good_of_word (gwl_good w hw')⟩
/-- the text lies at a, its bytes at v -/
def strH (a v : Nat) (A : Nat → Prop) (U : State) (H : Heap) : Prop := va_O RJ0 a A U H ∧ va_OF "java/lang/String" "coder" "B" (.int 0) a A U H ∧ va_OF "java/lang/String" "value" "[B" (.ref v) a A U H ∧ va_T .byte v 108 (fun j => .int (nI (tx0 j))) A U H ∧ va_Z "java/lang/String" "COMPACT_STRINGS" "Z" (.int 1) A U H ∧ va_Zq "jdk/internal/util/Preconditions" "SIOOBE_FORMATTER" "Ljava/util/function/BiFunction;" A U H
theorem strH.moved {a v : Nat} {A : Nat → Prop} {u U : State} {H : Heap} (hvm : u.vm.Alike U.vm) (h : strH a v A u H) : strH a v A U H := ⟨va_O.moved hvm h.1, va_OF.moved hvm h.2.1, va_OF.moved hvm h.2.2.1, va_T.moved hvm h.2.2.2.1, va_Z.moved hvm h.2.2.2.2.1, va_Zq.moved hvm h.2.2.2.2.2⟩
theorem strH.kept {a v : Nat} {A : Nat → Prop} {U : State} {H H1 : Heap} (h : strH a v A U H) (hq : ∀ a : Nat, a < H.size → ¬ A a → H1[a]? = H[a]?) : strH a v A U H1 := ⟨h.1.kept hq, h.2.1.kept hq, h.2.2.1.kept hq, h.2.2.2.1.kept hq, h.2.2.2.2.1.kept hq, h.2.2.2.2.2.kept hq⟩
theorem strH.narrow {a v : Nat} {A B : Nat → Prop} {U : State} {H : Heap} (h : strH a v A U H) (hAB : ∀ q, B q → A q) : strH a v B U H := ⟨h.1.narrow hAB, h.2.1.narrow hAB, h.2.2.1.narrow hAB, h.2.2.2.1.narrow hAB, h.2.2.2.2.1.narrow hAB, h.2.2.2.2.2.narrow hAB⟩
abbrev jN : Nat → Prop := fun _ => False
def jPc (avs : List Value) (a v : Nat) : Array Value → State → Prop := va_Pc avs (fun U => strH a v jN U U.heap)
theorem jblind (avs : List Value) (a v : Nat) : FrameBlind (jPc avs a v) := by
  intro A U g mk q
  exact ⟨q.1, strH.moved (u := U) (U := U.calling g mk A) (Vm.Alike.refl U.vm) q.2⟩
/-- a method that only looks: it answers r -/
def jC (y : MethodName) (cc : ByteArray) (n : Nat) (ret : Option FieldType) (d : Nat) (avs : List Value) (a v : Nat) (r : Int32) : Prop := ∀ l : Launch, Met l y (.code y cc n ret :: gwl) (grm d 0 0) (jPc avs a v) (va_Qi (fun x (_ : Unit) => x = r) (fun _ _ => True) jN) 0 0 jN
def jCv (y : MethodName) (cc : ByteArray) (n : Nat) (d : Nat) (avs : List Value) (a v : Nat) : Prop := ∀ l : Launch, Met l y (.code y cc n none :: gwl) (grm d 0 0) (jPc avs a v) (va_Qv (fun (_ : Unit) => True) (fun _ _ => True) jN) 0 0 jN
set_option maxHeartbeats 4000000 in
set_option maxRecDepth 100000 in
theorem j_coder {d a v : Nat} : jC yJ0_coder_7d493 cJ0_coder_7d493 1 (some .byte) d [.ref a] a v 0 := by
  intro l
  refine va_MetF (cc := cJ0_coder_7d493) (maxL := 1) (ret := (some .byte)) (by decide) rfl ?_
  intro p e s m args below meth c s₁ B hml hv
  obtain ⟨rfl, hH⟩ := hv
  have hx := B.exec
  have hb := B.bytes
  have hr := B.returns
  have hlocks := B.notSynchronized
  have hts0 := atoms_spec (ws := .code yJ0_coder_7d493 cJ0_coder_7d493 1 (some .byte) :: gwl) B.pre
  have hts : ∀ w ∈ gwl, w.before _ s = true := fun w hw => hts0 w (List.mem_cons_of_mem _ hw)
  have hown : s.vm.findClass RJ0 = some m.cls := findClass_of_methodNamed B.named
  have hl := lv_entry [.ref a] (n := 1) (Nat.le_of_ble_eq_true rfl)
  rw [lg_entry_eq]
  generalize (lg_sl [.ref a] ++ List.replicate (1 - (lg_sl [.ref a]).length) Slot.unset).toArray = ls at hl ⊢
  have hl : lv_has ls 1 [(0, .ref a)] := hl
  have hS : va_S jN s.heap s.heap [] := va_S.rf
  refine va_gets hx hb hH.2.2.2.2.1 hS hown (hts _ (jws_in _ (List.mem_of_getElem? (i := 8) rfl))) (fun _ h => h) dJ0_coder_7d493_0 ?_
  refine lv_if_eq hx hb dJ0_coder_7d493_3 (tgt := 13) rfl (fun z => absurd z (by decide)) (fun _ => ?_)
  refine lv_aload_n hx hb dJ0_coder_7d493_6 rfl (lv_at hl 0 rfl) ?_
  refine vk_getf hx hb hH.2.1 hS hown (hts _ (jws_in _ (List.mem_of_getElem? (i := 9) rfl))) (fun _ h => h) dJ0_coder_7d493_7 ?_
  refine lv_goto hx hb dJ0_coder_7d493_10 (tgt := 14) rfl ?_
  exact W.zret (ty := .byte) hx hb hr rfl (fun t ht _ => ⟨⟨_, (), rfl, rfl, trivial⟩, hS.F ht⟩) (fun q hq => by cases hq) dJ0_coder_7d493_14 hlocks
set_option maxHeartbeats 4000000 in
set_option maxRecDepth 100000 in
theorem j_isLatin1 {d a v : Nat} : jC yJ0_isLatin1_aae02 cJ0_isLatin1_aae02 1 (some .boolean) d [.ref a] a v 1 := by
  intro l
  refine va_MetF (cc := cJ0_isLatin1_aae02) (maxL := 1) (ret := (some .boolean)) (by decide) rfl ?_
  intro p e s m args below meth c s₁ B hml hv
  obtain ⟨rfl, hH⟩ := hv
  have hx := B.exec
  have hb := B.bytes
  have hr := B.returns
  have hlocks := B.notSynchronized
  have hts0 := atoms_spec (ws := .code yJ0_isLatin1_aae02 cJ0_isLatin1_aae02 1 (some .boolean) :: gwl) B.pre
  have hts : ∀ w ∈ gwl, w.before _ s = true := fun w hw => hts0 w (List.mem_cons_of_mem _ hw)
  have hown : s.vm.findClass RJ0 = some m.cls := findClass_of_methodNamed B.named
  have hl := lv_entry [.ref a] (n := 1) (Nat.le_of_ble_eq_true rfl)
  rw [lg_entry_eq]
  generalize (lg_sl [.ref a] ++ List.replicate (1 - (lg_sl [.ref a]).length) Slot.unset).toArray = ls at hl ⊢
  have hl : lv_has ls 1 [(0, .ref a)] := hl
  have hS : va_S jN s.heap s.heap [] := va_S.rf
  refine va_gets hx hb hH.2.2.2.2.1 hS hown (hts _ (jws_in _ (List.mem_of_getElem? (i := 8) rfl))) (fun _ h => h) dJ0_isLatin1_aae02_0 ?_
  refine lv_if_eq hx hb dJ0_isLatin1_aae02_3 (tgt := 17) rfl (fun z => absurd z (by decide)) (fun _ => ?_)
  refine lv_aload_n hx hb dJ0_isLatin1_aae02_6 rfl (lv_at hl 0 rfl) ?_
  refine vk_getf hx hb hH.2.1 hS hown (hts _ (jws_in _ (List.mem_of_getElem? (i := 9) rfl))) (fun _ h => h) dJ0_isLatin1_aae02_7 ?_
  refine lv_if_ne hx hb dJ0_isLatin1_aae02_10 (tgt := 17) rfl (fun z => absurd rfl z) (fun _ => ?_)
  refine lv_iconst hx hb dJ0_isLatin1_aae02_13 (v := 1) rfl ?_
  refine lv_goto hx hb dJ0_isLatin1_aae02_14 (tgt := 18) rfl ?_
  exact W.zret (ty := .boolean) hx hb hr rfl (fun t ht _ => ⟨⟨_, (), rfl, rfl, trivial⟩, hS.F ht⟩) (fun q hq => by cases hq) dJ0_isLatin1_aae02_18 hlocks
set_option maxHeartbeats 4000000 in
set_option maxRecDepth 100000 in
theorem j_preN {d a v k n t9 : Nat} (hk : k < n) (hn : n < 1000) : jC yJ3_checkIndex_8e157 cJ3_checkIndex_8e157 3 (some .int) d [.int (nI k), .int (nI n), .null] a v (nI k) := by
  intro l
  refine va_MetF (cc := cJ3_checkIndex_8e157) (maxL := 3) (ret := (some .int)) (by decide) rfl ?_
  intro p e s m args below meth c s₁ B hml hv
  obtain ⟨rfl, hH⟩ := hv
  have hx := B.exec
  have hb := B.bytes
  have hr := B.returns
  have hlocks := B.notSynchronized
  have hts0 := atoms_spec (ws := .code yJ3_checkIndex_8e157 cJ3_checkIndex_8e157 3 (some .int) :: gwl) B.pre
  have hts : ∀ w ∈ gwl, w.before _ s = true := fun w hw => hts0 w (List.mem_cons_of_mem _ hw)
  have hown : s.vm.findClass RJ3 = some m.cls := findClass_of_methodNamed B.named
  have hl := lv_entry [.int (nI k), .int (nI n), .null] (n := 3) (Nat.le_of_ble_eq_true rfl)
  rw [lg_entry_eq]
  generalize (lg_sl [.int (nI k), .int (nI n), .null] ++ List.replicate (3 - (lg_sl [.int (nI k), .int (nI n), .null]).length) Slot.unset).toArray = ls at hl ⊢
  have hl : lv_has ls 3 [(0, .int (nI k)), (1, .int (nI n)), (2, .null)] := hl
  have hS : va_S jN s.heap s.heap [] := va_S.rf
  refine lv_iload_n hx hb dJ3_checkIndex_8e157_0 rfl (lv_at hl 0 rfl) ?_
  refine lv_if_lt hx hb dJ3_checkIndex_8e157_1 (tgt := 9) rfl (fun z => absurd z (nI_pos (by omega))) (fun _ => ?_)
  refine lv_iload_n hx hb dJ3_checkIndex_8e157_4 rfl (lv_at hl 0 rfl) ?_
  refine lv_iload_n hx hb dJ3_checkIndex_8e157_5 rfl (lv_at hl 1 rfl) ?_
  refine lv_icmp_lt hx hb dJ3_checkIndex_8e157_6 (tgt := 16) rfl (fun _ => ?_) (fun z => absurd (nI_lt hk (by omega)) z)
  refine lv_iload_n hx hb dJ3_checkIndex_8e157_16 rfl (lv_at hl 0 rfl) ?_
  exact W.iret hx hb hr (fun t ht _ => ⟨⟨_, (), rfl, rfl, trivial⟩, hS.F ht⟩) (fun q hq => by cases hq) dJ3_checkIndex_8e157_17 hlocks
set_option maxHeartbeats 4000000 in
set_option maxRecDepth 100000 in
theorem j_preR {d a v k n t9 : Nat} (hk : k < n) (hn : n < 1000) : jC yJ3_checkIndex_8e157 cJ3_checkIndex_8e157 3 (some .int) d [.int (nI k), .int (nI n), .ref t9] a v (nI k) := by
  intro l
  refine va_MetF (cc := cJ3_checkIndex_8e157) (maxL := 3) (ret := (some .int)) (by decide) rfl ?_
  intro p e s m args below meth c s₁ B hml hv
  obtain ⟨rfl, hH⟩ := hv
  have hx := B.exec
  have hb := B.bytes
  have hr := B.returns
  have hlocks := B.notSynchronized
  have hts0 := atoms_spec (ws := .code yJ3_checkIndex_8e157 cJ3_checkIndex_8e157 3 (some .int) :: gwl) B.pre
  have hts : ∀ w ∈ gwl, w.before _ s = true := fun w hw => hts0 w (List.mem_cons_of_mem _ hw)
  have hown : s.vm.findClass RJ3 = some m.cls := findClass_of_methodNamed B.named
  have hl := lv_entry [.int (nI k), .int (nI n), .ref t9] (n := 3) (Nat.le_of_ble_eq_true rfl)
  rw [lg_entry_eq]
  generalize (lg_sl [.int (nI k), .int (nI n), .ref t9] ++ List.replicate (3 - (lg_sl [.int (nI k), .int (nI n), .ref t9]).length) Slot.unset).toArray = ls at hl ⊢
  have hl : lv_has ls 3 [(0, .int (nI k)), (1, .int (nI n)), (2, .ref t9)] := hl
  have hS : va_S jN s.heap s.heap [] := va_S.rf
  refine lv_iload_n hx hb dJ3_checkIndex_8e157_0 rfl (lv_at hl 0 rfl) ?_
  refine lv_if_lt hx hb dJ3_checkIndex_8e157_1 (tgt := 9) rfl (fun z => absurd z (nI_pos (by omega))) (fun _ => ?_)
  refine lv_iload_n hx hb dJ3_checkIndex_8e157_4 rfl (lv_at hl 0 rfl) ?_
  refine lv_iload_n hx hb dJ3_checkIndex_8e157_5 rfl (lv_at hl 1 rfl) ?_
  refine lv_icmp_lt hx hb dJ3_checkIndex_8e157_6 (tgt := 16) rfl (fun _ => ?_) (fun z => absurd (nI_lt hk (by omega)) z)
  refine lv_iload_n hx hb dJ3_checkIndex_8e157_16 rfl (lv_at hl 0 rfl) ?_
  exact W.iret hx hb hr (fun t ht _ => ⟨⟨_, (), rfl, rfl, trivial⟩, hS.F ht⟩) (fun q hq => by cases hq) dJ3_checkIndex_8e157_17 hlocks
set_option maxHeartbeats 4000000 in
set_option maxRecDepth 100000 in
theorem j_check {d a v k n : Nat} (hd : 1 ≤ d) (hk : k < n) (hn : n < 1000) : jCv yJ0_checkIndex_df160 cJ0_checkIndex_df160 2 d [.int (nI k), .int (nI n)] a v := by
  intro l
  refine va_MetF (cc := cJ0_checkIndex_df160) (maxL := 2) (ret := none) (by decide) rfl ?_
  intro p e s m args below meth c s₁ B hml hv
  obtain ⟨rfl, hH⟩ := hv
  have hx := B.exec
  have hb := B.bytes
  have hr := B.returns
  have hlocks := B.notSynchronized
  have hts0 := atoms_spec (ws := .code yJ0_checkIndex_df160 cJ0_checkIndex_df160 2 none :: gwl) B.pre
  have hts : ∀ w ∈ gwl, w.before _ s = true := fun w hw => hts0 w (List.mem_cons_of_mem _ hw)
  have hown : s.vm.findClass RJ0 = some m.cls := findClass_of_methodNamed B.named
  have hl := lv_entry [.int (nI k), .int (nI n)] (n := 2) (Nat.le_of_ble_eq_true rfl)
  rw [lg_entry_eq]
  generalize (lg_sl [.int (nI k), .int (nI n)] ++ List.replicate (2 - (lg_sl [.int (nI k), .int (nI n)]).length) Slot.unset).toArray = ls at hl ⊢
  have hl : lv_has ls 2 [(0, .int (nI k)), (1, .int (nI n))] := hl
  have hS : va_S jN s.heap s.heap [] := va_S.rf
  refine lv_iload_n hx hb dJ0_checkIndex_df160_0 rfl (lv_at hl 0 rfl) ?_
  refine lv_iload_n hx hb dJ0_checkIndex_df160_1 rfl (lv_at hl 1 rfl) ?_
  rcases hH.2.2.2.2.2 with hz | ⟨t9, hz⟩
  · refine va_gets hx hb hz hS hown (hts _ (jws_in _ (List.mem_of_getElem? (i := 10) rfl))) (fun _ h => h) dJ0_checkIndex_df160_2 ?_
    refine va_calli (va_runS (As := [.int (nI k), .int (nI n), .null]) (Pc := jPc [.int (nI k), .int (nI n), .null] a v) ⟨hx, hb, hml, hown, hts⟩ (j_preN (d := 0) (t9 := 0) hk hn l) ⟨callB_of 3 hts (jgood (List.mem_of_getElem? (i := 6) rfl)) rfl rfl rfl (hts _ (jws_in _ (List.mem_of_getElem? (i := 31) rfl))) (hts _ (jws_in _ (List.mem_of_getElem? (i := 21) rfl))) ⟨by decide, by decide, by decide⟩ ⟨by show 0 + 1 ≤ d; omega, by show 8 + (3 + 11) + 40 * 0 ≤ 40 * d; omega⟩, (hts _ (jws_in _ (List.mem_of_getElem? (i := 22) rfl)))⟩ ⟨jblind _ _ _, fun U hU hWm => ⟨rfl, by show strH a v jN U U.heap; rw [hU]; exact strH.moved hWm.alike (hH.kept hS.2.1)⟩⟩ rfl rfl hl.1 rfl (lv_room (by decide)) dJ0_checkIndex_df160_5 ⟨by show 0 + 0 ≤ 0; omega, by show 0 + 0 ≤ 0; omega⟩) hS (fun q _ z => z) (fun q z => z) (fun r u t H1 locs1 ht _ hp _ hsz hkk hS1 => ?_)
    refine lv_pop hx hb dJ0_checkIndex_df160_8 rfl ?_
    refine W.vret hx hb hr (fun t ht _ => ⟨⟨(), rfl, trivial, trivial⟩, hS1.F ht⟩) (fun q hq => hS1.2.2 q hq) dJ0_checkIndex_df160_9 hlocks
  · refine va_gets hx hb hz hS hown (hts _ (jws_in _ (List.mem_of_getElem? (i := 10) rfl))) (fun _ h => h) dJ0_checkIndex_df160_2 ?_
    refine va_calli (va_runS (As := [.int (nI k), .int (nI n), .ref t9]) (Pc := jPc [.int (nI k), .int (nI n), .ref t9] a v) ⟨hx, hb, hml, hown, hts⟩ (j_preR (d := 0) (t9 := t9) hk hn l) ⟨callB_of 3 hts (jgood (List.mem_of_getElem? (i := 6) rfl)) rfl rfl rfl (hts _ (jws_in _ (List.mem_of_getElem? (i := 31) rfl))) (hts _ (jws_in _ (List.mem_of_getElem? (i := 21) rfl))) ⟨by decide, by decide, by decide⟩ ⟨by show 0 + 1 ≤ d; omega, by show 8 + (3 + 11) + 40 * 0 ≤ 40 * d; omega⟩, (hts _ (jws_in _ (List.mem_of_getElem? (i := 22) rfl)))⟩ ⟨jblind _ _ _, fun U hU hWm => ⟨rfl, by show strH a v jN U U.heap; rw [hU]; exact strH.moved hWm.alike (hH.kept hS.2.1)⟩⟩ rfl rfl hl.1 rfl (lv_room (by decide)) dJ0_checkIndex_df160_5 ⟨by show 0 + 0 ≤ 0; omega, by show 0 + 0 ≤ 0; omega⟩) hS (fun q _ z => z) (fun q z => z) (fun r u t H1 locs1 ht _ hp _ hsz hkk hS1 => ?_)
    refine lv_pop hx hb dJ0_checkIndex_df160_8 rfl ?_
    refine W.vret hx hb hr (fun t ht _ => ⟨⟨(), rfl, trivial, trivial⟩, hS1.F ht⟩) (fun q hq => hS1.2.2 q hq) dJ0_checkIndex_df160_9 hlocks
theorem gand255 {x : Nat} (h : x ≤ 126) : nI x &&& 255 = nI x := by
  rw [pk_andN (n := x) (by omega) 8 (by decide)]
  exact congrArg nI (Nat.mod_eq_of_lt (by omega))
theorem gchr {x : Nat} (h : x ≤ 126) : ((nI x).toUInt32 % 65536).toInt32 = nI x := by
  have : ∀ y, y < 127 → ((nI y).toUInt32 % 65536).toInt32 = nI y := by decide +kernel
  exact this x (by omega)
theorem gnarC {x : Nat} (h : x ≤ 126) : narrow .char (.int (nI x)) = .int (nI x) := by
  have : ∀ y, y < 127 → narrow .char (.int (nI y)) = .int (nI y) := by decide +kernel
  exact this x (by omega)
set_option maxHeartbeats 4000000 in
set_option maxRecDepth 100000 in
theorem j_lat {d a v k : Nat} (hd : 2 ≤ d) (hk : k < 108) : jC yJ1_charAt_3b067 cJ1_charAt_3b067 2 (some .char) d [.ref v, .int (nI k)] a v (nI (tx0 k)) := by
  intro l
  have ht9 := tx0_ok k hk
  refine va_MetF (cc := cJ1_charAt_3b067) (maxL := 2) (ret := (some .char)) (by decide) rfl ?_
  intro p e s m args below meth c s₁ B hml hv
  obtain ⟨rfl, hH⟩ := hv
  have hx := B.exec
  have hb := B.bytes
  have hr := B.returns
  have hlocks := B.notSynchronized
  have hts0 := atoms_spec (ws := .code yJ1_charAt_3b067 cJ1_charAt_3b067 2 (some .char) :: gwl) B.pre
  have hts : ∀ w ∈ gwl, w.before _ s = true := fun w hw => hts0 w (List.mem_cons_of_mem _ hw)
  have hown : s.vm.findClass RJ1 = some m.cls := findClass_of_methodNamed B.named
  have hl := lv_entry [.ref v, .int (nI k)] (n := 2) (Nat.le_of_ble_eq_true rfl)
  rw [lg_entry_eq]
  generalize (lg_sl [.ref v, .int (nI k)] ++ List.replicate (2 - (lg_sl [.ref v, .int (nI k)]).length) Slot.unset).toArray = ls at hl ⊢
  have hl : lv_has ls 2 [(0, .ref v), (1, .int (nI k))] := hl
  have hS : va_S jN s.heap s.heap [] := va_S.rf
  refine lv_iload_n hx hb dJ1_charAt_3b067_0 rfl (lv_at hl 1 rfl) ?_
  refine lv_aload_n hx hb dJ1_charAt_3b067_1 rfl (lv_at hl 0 rfl) ?_
  refine va_tlen hx hb hH.2.2.2.1 hS (v := nI 108) rfl dJ1_charAt_3b067_2 ?_
  refine va_callv (va_runS (As := [.int (nI k), .int (nI 108)]) (Pc := jPc [.int (nI k), .int (nI 108)] a v) ⟨hx, hb, hml, hown, hts⟩ (j_check (d := 1) (Nat.le_refl _) hk (by omega) l) ⟨callB_of 2 hts (jgood (List.mem_of_getElem? (i := 5) rfl)) rfl rfl rfl (hts _ (jws_in _ (List.mem_of_getElem? (i := 29) rfl))) (hts _ (jws_in _ (List.mem_of_getElem? (i := 19) rfl))) ⟨by decide, by decide, by decide⟩ ⟨by show 1 + 1 ≤ d; omega, by show 8 + (2 + 11) + 40 * 1 ≤ 40 * d; omega⟩, (hts _ (jws_in _ (List.mem_of_getElem? (i := 20) rfl)))⟩ ⟨jblind _ _ _, fun U hU hWm => ⟨rfl, by show strH a v jN U U.heap; rw [hU]; exact strH.moved hWm.alike (hH.kept hS.2.1)⟩⟩ rfl rfl hl.1 rfl (lv_room (by decide)) dJ1_charAt_3b067_3 ⟨by show 0 + 0 ≤ 0; omega, by show 0 + 0 ≤ 0; omega⟩) hS (fun q _ z => z) (fun q z => z) (fun u t H1 locs1 ht _ hp _ hsz hkk hS1 => ?_)
  refine lv_aload_n hx hb dJ1_charAt_3b067_6 rfl (lv_at hl 0 rfl) ?_
  refine lv_iload_n hx hb dJ1_charAt_3b067_7 rfl (lv_at hl 1 rfl) ?_
  refine va_tb hx hb hH.2.2.2.1 hS1 (vp_in_nI hk (by omega)) (v := .int (nI (tx0 k))) (by rw [nI_clamp (by omega)]) dJ1_charAt_3b067_8 ?_
  refine lv_sipush hx hb dJ1_charAt_3b067_9 (v := 255) rfl ?_
  refine lv_iand hx hb dJ1_charAt_3b067_12 ?_
  refine lv_i2c hx hb dJ1_charAt_3b067_13 (v := nI (tx0 k)) (by rw [gand255 (by omega)]; exact gchr (by omega)) ?_
  exact W.zret (ty := .char) hx hb hr (gnarC (by omega)) (fun t ht _ => ⟨⟨_, (), rfl, rfl, trivial⟩, hS1.F ht⟩) (fun q hq => hS1.2.2 q hq) dJ1_charAt_3b067_14 hlocks
theorem strRecv {a v : Nat} {A : Nat → Prop} {s : State} {H : Heap} {locs : List Loc} (hH : strH a v A s s.heap) (hS : va_S A s.heap H locs) : ∃ cell : Cell, H[a]? = some cell ∧ cell.vm.isStatics = false ∧ s.vm.findClass RJ0 = some cell.cls := by
  obtain ⟨cell, h1, h2, h3, -⟩ := hH.1.kept hS.2.1
  exact ⟨cell, h1, h2, h3⟩
set_option maxHeartbeats 4000000 in
set_option maxRecDepth 100000 in
theorem j_length {d a v : Nat} (hd : 1 ≤ d) : jC yJ0_length_8abf5 cJ0_length_8abf5 1 (some .int) d [.ref a] a v (nI 108) := by
  intro l
  refine va_MetF (cc := cJ0_length_8abf5) (maxL := 1) (ret := (some .int)) (by decide) rfl ?_
  intro p e s m args below meth c s₁ B hml hv
  obtain ⟨rfl, hH⟩ := hv
  have hx := B.exec
  have hb := B.bytes
  have hr := B.returns
  have hlocks := B.notSynchronized
  have hts0 := atoms_spec (ws := .code yJ0_length_8abf5 cJ0_length_8abf5 1 (some .int) :: gwl) B.pre
  have hts : ∀ w ∈ gwl, w.before _ s = true := fun w hw => hts0 w (List.mem_cons_of_mem _ hw)
  have hown : s.vm.findClass RJ0 = some m.cls := findClass_of_methodNamed B.named
  have hl := lv_entry [.ref a] (n := 1) (Nat.le_of_ble_eq_true rfl)
  rw [lg_entry_eq]
  generalize (lg_sl [.ref a] ++ List.replicate (1 - (lg_sl [.ref a]).length) Slot.unset).toArray = ls at hl ⊢
  have hl : lv_has ls 1 [(0, .ref a)] := hl
  have hS : va_S jN s.heap s.heap [] := va_S.rf
  refine lv_aload_n hx hb dJ0_length_8abf5_0 rfl (lv_at hl 0 rfl) ?_
  refine vk_getf hx hb hH.2.2.1 hS hown (hts _ (jws_in _ (List.mem_of_getElem? (i := 7) rfl))) (fun _ h => h) dJ0_length_8abf5_1 ?_
  refine va_tlen hx hb hH.2.2.2.1 hS (v := nI 108) rfl dJ0_length_8abf5_4 ?_
  refine lv_aload_n hx hb dJ0_length_8abf5_5 rfl (lv_at hl 0 rfl) ?_
  refine va_calli (va_runV (C := RJ0) (b := a) (As := []) (Pc := jPc [.ref a] a v) ⟨hx, hb, hml, hown, hts⟩ (j_coder (d := 0) l) ⟨callB_of 0 hts (jgood (List.mem_of_getElem? (i := 1) rfl)) rfl rfl rfl (hts _ (jws_in _ (List.mem_of_getElem? (i := 29) rfl))) (hts _ (jws_in _ (List.mem_of_getElem? (i := 11) rfl))) ⟨by decide, by decide, by decide⟩ ⟨by show 0 + 1 ≤ d; omega, by show 8 + (1 + 11) + 40 * 0 ≤ 40 * d; omega⟩, (hts _ (jws_in _ (List.mem_of_getElem? (i := 12) rfl))), (hts _ (jws_in _ (List.mem_of_getElem? (i := 13) rfl)))⟩ ⟨jblind _ _ _, strRecv hH hS, fun U hU hWm => ⟨rfl, by show strH a v jN U U.heap; rw [hU]; exact strH.moved hWm.alike (hH.kept hS.2.1)⟩⟩ rfl rfl hl.1 rfl (lv_room (by decide)) dJ0_length_8abf5_6 ⟨by show 0 + 0 ≤ 0; omega, by show 0 + 0 ≤ 0; omega⟩) hS (fun q _ z => z) (fun q z => z) (fun r u t H1 locs1 ht _ hp _ hsz hkk hS1 => ?_)
  rw [hp]
  refine lv_ishr hx hb dJ0_length_8abf5_9 ?_
  exact W.iret hx hb hr (fun t ht _ => ⟨⟨_, (), rfl, by decide, trivial⟩, hS1.F ht⟩) (fun q hq => hS1.2.2 q hq) dJ0_length_8abf5_10 hlocks
set_option maxHeartbeats 4000000 in
set_option maxRecDepth 100000 in
theorem j_charAt {d a v k : Nat} (hd : 3 ≤ d) (hk : k < 108) : jC yJ0_charAt_5068e cJ0_charAt_5068e 2 (some .char) d [.ref a, .int (nI k)] a v (nI (tx0 k)) := by
  intro l
  have ht9 := tx0_ok k hk
  refine va_MetF (cc := cJ0_charAt_5068e) (maxL := 2) (ret := (some .char)) (by decide) rfl ?_
  intro p e s m args below meth c s₁ B hml hv
  obtain ⟨rfl, hH⟩ := hv
  have hx := B.exec
  have hb := B.bytes
  have hr := B.returns
  have hlocks := B.notSynchronized
  have hts0 := atoms_spec (ws := .code yJ0_charAt_5068e cJ0_charAt_5068e 2 (some .char) :: gwl) B.pre
  have hts : ∀ w ∈ gwl, w.before _ s = true := fun w hw => hts0 w (List.mem_cons_of_mem _ hw)
  have hown : s.vm.findClass RJ0 = some m.cls := findClass_of_methodNamed B.named
  have hl := lv_entry [.ref a, .int (nI k)] (n := 2) (Nat.le_of_ble_eq_true rfl)
  rw [lg_entry_eq]
  generalize (lg_sl [.ref a, .int (nI k)] ++ List.replicate (2 - (lg_sl [.ref a, .int (nI k)]).length) Slot.unset).toArray = ls at hl ⊢
  have hl : lv_has ls 2 [(0, .ref a), (1, .int (nI k))] := hl
  have hS : va_S jN s.heap s.heap [] := va_S.rf
  refine lv_aload_n hx hb dJ0_charAt_5068e_0 rfl (lv_at hl 0 rfl) ?_
  refine va_calli (va_runV (C := RJ0) (b := a) (As := []) (Pc := jPc [.ref a] a v) ⟨hx, hb, hml, hown, hts⟩ (j_isLatin1 (d := 0) l) ⟨callB_of 0 hts (jgood (List.mem_of_getElem? (i := 2) rfl)) rfl rfl rfl (hts _ (jws_in _ (List.mem_of_getElem? (i := 29) rfl))) (hts _ (jws_in _ (List.mem_of_getElem? (i := 14) rfl))) ⟨by decide, by decide, by decide⟩ ⟨by show 0 + 1 ≤ d; omega, by show 8 + (1 + 11) + 40 * 0 ≤ 40 * d; omega⟩, (hts _ (jws_in _ (List.mem_of_getElem? (i := 15) rfl))), (hts _ (jws_in _ (List.mem_of_getElem? (i := 16) rfl)))⟩ ⟨jblind _ _ _, strRecv hH hS, fun U hU hWm => ⟨rfl, by show strH a v jN U U.heap; rw [hU]; exact strH.moved hWm.alike (hH.kept hS.2.1)⟩⟩ rfl rfl hl.1 rfl (lv_room (by decide)) dJ0_charAt_5068e_1 ⟨by show 0 + 0 ≤ 0; omega, by show 0 + 0 ≤ 0; omega⟩) hS (fun q _ z => z) (fun q z => z) (fun r u t H1 locs1 ht _ hp _ hsz hkk hS => ?_)
  rw [hp]
  refine lv_if_eq hx hb dJ0_charAt_5068e_4 (tgt := 16) rfl (fun z => absurd z (by decide)) (fun _ => ?_)
  refine lv_aload_n hx hb dJ0_charAt_5068e_7 rfl (lv_at hl 0 rfl) ?_
  refine vk_getf hx hb hH.2.2.1 hS hown (hts _ (jws_in _ (List.mem_of_getElem? (i := 7) rfl))) (fun _ h => h) dJ0_charAt_5068e_8 ?_
  refine lv_iload_n hx hb dJ0_charAt_5068e_11 rfl (lv_at hl 1 rfl) ?_
  refine va_calli (va_runS (As := [.ref v, .int (nI k)]) (Pc := jPc [.ref v, .int (nI k)] a v) ⟨hx, hb, hml, hown, hts⟩ (j_lat (d := 2) (Nat.le_refl _) hk l) ⟨callB_of 2 hts (jgood (List.mem_of_getElem? (i := 4) rfl)) rfl rfl rfl (hts _ (jws_in _ (List.mem_of_getElem? (i := 30) rfl))) (hts _ (jws_in _ (List.mem_of_getElem? (i := 17) rfl))) ⟨by decide, by decide, by decide⟩ ⟨by show 2 + 1 ≤ d; omega, by show 8 + (2 + 11) + 40 * 2 ≤ 40 * d; omega⟩, (hts _ (jws_in _ (List.mem_of_getElem? (i := 18) rfl)))⟩ ⟨jblind _ _ _, fun U hU hWm => ⟨rfl, by show strH a v jN U U.heap; rw [hU]; exact strH.moved hWm.alike (hH.kept hS.2.1)⟩⟩ rfl rfl hl.1 rfl (lv_room (by decide)) dJ0_charAt_5068e_12 ⟨by show 0 + 0 ≤ 0; omega, by show 0 + 0 ≤ 0; omega⟩) hS (fun q _ z => z) (fun q z => z) (fun r u t H2 locs2 ht _ hp _ hsz hkk hS2 => ?_)
  rw [hp]
  exact W.zret (ty := .char) hx hb hr (gnarC (by omega)) (fun t ht _ => ⟨⟨_, (), rfl, rfl, trivial⟩, hS2.F ht⟩) (fun q hq => hS2.2.2 q hq) dJ0_charAt_5068e_15 hlocks
