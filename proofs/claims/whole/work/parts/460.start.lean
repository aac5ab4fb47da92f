/-! THE WHOLE: what the start gives, the first object, the walk from the entry -/
theorem gblindE (a v : Nat) (avs : List Value) (D : va_G) (cy : Nat → ClassId) (ad : Nat → Nat) (sz : Nat) (sh : List gS) (M : gM) : FrameBlind (gPcE a v avs D cy ad sz sh M) := by
  intro A U g mk q
  obtain ⟨q0, ⟨q1, qP, qK, qD, qX⟩, qR, qH⟩ := q
  exact ⟨q0, ⟨q1, qP, va_K.moved (u := U) (U := U.calling g mk A) (Vm.Alike.refl U.vm) qK, qD, ⟨fun z hz => va_Nw.same rfl rfl (qX.1 z hz), qX.2.moved (Vm.Alike.refl U.vm)⟩⟩, vk_R.same (u := U) (U := U.calling g mk A) rfl qR, strH.moved (u := U) (U := U.calling g mk A) (Vm.Alike.refl U.vm) qH⟩
section GSE
variable {p : Program} {l : Launch} {e : Env} {R : Room} {s : State} {m : MethodId} {args : Array Value} {below : List Frame} {meth : Method} {c : Code} {A : Nat → Prop} {D : va_G} {cy : Nat → ClassId} {nL d MC MS : Nat} {cc : ByteArray} {ret : Option FieldType} {ini : Bool} {Z : State → Prop} {n0 : Nat} {ad0 : Nat → Nat} {pc : Nat} {lv : List (Nat × Value)} {st : List Value} {sh : List gS} {M : gM} {kc ks : Nat}
theorem gs_callE (S : gSt p R s m args meth c A D cy 8 nL d MC MS cc ret ini) {a v d' mc ms bb : Nat} {rest : List Value} {Q9 : Option Value → List gS → gM → Prop} (hR9 : vk_R RX6 66 txS a s) (hH : strH a v A s s.heap) (hd' : d' + 1 ≤ d) (hmc : kc + mc ≤ MC) (hms : ks + ms ≤ MS) (hd : decode cc pc = .ok (.invokespecial 9, 3)) (hcat : gcat rest ≤ 8) (hoth : (lv.map Prod.snd ++ rest).all (gokV sh.length) = true)
    (hM : ∀ (l : Launch) (D : va_G) (cy : Nat → ClassId) (ad : Nat → Nat) (sz : Nat), Met l yX6_init (.code yX6_init cX6_init 2 none :: gwl) (grm d' mc ms) (gPcE a v [.ref bb] D cy ad sz sh M) (gQ Q9 D cy ad sh.length mc (va_A (gW cy ad sh M) sz)) mc ms (va_A (gW cy ad sh M) sz)) (hQ9 : ∀ v sh' M', Q9 v sh' M' → gret 0 v (fun w => gG p l e R s m args below meth c A D cy nL MC Z n0 ad0 (pc + 3) lv (w ++ rest) sh' M' (kc + mc) (ks + ms))) : gG p l e R s m args below meth c A D cy nL MC Z n0 ad0 pc lv (.ref bb :: rest) sh M kc ks := by
  obtain ⟨hx, hb, hr, hml, hown, hts, hlocks, hK, hA, hR, hini, hX⟩ := S
  obtain ⟨hB, hW⟩ := glk_spec glk_8_9
  have hm := gm_X6_init
  obtain ⟨g1, g2, g3, g4, g5⟩ := gmt_spec hm
  have hgood := ggood hm
  dsimp only at g1 g2 g3 g4 g5 hgood
  intro ad H locs ls h1 h2 h3 hP hD hS hl
  have hMet := hM l D cy ad H.size
  have hFc : ∀ z, va_A (gW cy ad sh M) H.size z → A z := by
    intro z hz
    rcases hz with ⟨k, e, hz⟩ | hz
    · exact hD.2 k (z, e) hz
    · exact hA z (Nat.le_trans hS.1 hz)
  have hpre : PreS s H (gPcE a v [.ref bb] D cy ad H.size sh M) (.ref (ad bb) :: []) :=
    ⟨gblindE _ _ _ _ _ _ _ _ _, fun U hU hWm => ⟨rfl, ⟨by rw [hU], by rw [hU]; exact hP, va_K.moved hWm.alike hK, hD.weaken (fun _ _ _ _ => trivial), gXt_warm hWm hX⟩, vk_R.warm hWm hR9, by rw [hU]; exact strH.moved hWm.alike ((hH.kept hS.2.1).narrow hFc)⟩⟩
  have hroom : (grm d' mc ms).frames + 1 ≤ R.frames ∧ 8 + (2 + 11) + (grm d' mc ms).locals ≤ R.locals := by
    refine ⟨?_, ?_⟩
    · show d' + 1 ≤ R.frames
      have := hR.1; omega
    · show 8 + (2 + 11) + 40 * d' ≤ R.locals
      have := hR.2.1; omega
  unfold glkB at hB
  unfold glkW at hW
  simp only [show ¬ (2 : Nat) = 5 by decide, show ¬ (2 : Nat) = 6 by decide, show ¬ (2 : Nat) = 0 by decide, show ¬ (2 : Nat) = 1 by decide, if_false, if_true, hm, Bool.and_eq_true, decide_eq_true_eq] at hB hW
  exact gs_run (va_runI (As := []) (rest := rest.map (gv ad)) ⟨hx, hb, hml, hown, hts⟩ hMet ⟨callB_of 0 hts hgood rfl rfl rfl (hts _ (hW _ (by simp))) (hts _ (hW _ (by simp))) ⟨g2, g3, hB.1.1.1⟩ hroom, hB.2.1, hts _ (hW _ (by simp))⟩ hpre rfl rfl hl.1 rfl (lv_room (by rw [gcat_map]; exact hcat)) hd ⟨by rw [hR.2.2.1]; exact hmc, by rw [hR.2.2.2]; exact hms⟩) hS hFc (fun v sh' M' ad' H1 locs1 hQ k1 k2 k3 k4 k5 hS1 => gs_after hmc (Or.inr hoth) h1 h2 h3 hl hFc k1 k2 k3 k4 k5 hS1 (hQ9 v sh' M' hQ))
end GSE
set_option maxRecDepth 100000 in
theorem law_K {s : State} {args : Array Value} (hts : ∀ w ∈ lw_tbl, w.before args s = true) : ∃ (D : va_G) (cy : Nat → ClassId), va_K D vwCl (gtys cy) s := by
  have hg : ∀ w ∈ gwl, w.before args s = true := fun w hw => hts w (gwl_in w hw)
  obtain ⟨c0, i0, h0⟩ := u_known (C := RX0) (T := TX0) (N := 6) (n := 6) hg (gvcls (show vwCl[0]? = some (RX0, TX0, 6) from rfl)).2.2.2.2 (hts (.instantiable RX0 6) (List.mem_of_getElem? (i := 187) (by rfl)))
  obtain ⟨c1, i1, h1⟩ := u_known (C := RX1) (T := TX1) (N := 4) (n := 4) hg (gvcls (show vwCl[1]? = some (RX1, TX1, 4) from rfl)).2.2.2.2 (hts (.instantiable RX1 4) (List.mem_of_getElem? (i := 68) (by rfl)))
  obtain ⟨c2, i2, h2⟩ := u_known (C := RX2) (T := TX2) (N := 3) (n := 3) hg (gvcls (show vwCl[2]? = some (RX2, TX2, 3) from rfl)).2.2.2.2 (hts (.instantiable RX2 3) (List.mem_of_getElem? (i := 164) (by rfl)))
  obtain ⟨c3, i3, h3⟩ := u_known (C := RX3) (T := TX3) (N := 4) (n := 4) hg (gvcls (show vwCl[3]? = some (RX3, TX3, 4) from rfl)).2.2.2.2 (hts (.instantiable RX3 4) (List.mem_of_getElem? (i := 139) (by rfl)))
  obtain ⟨c4, i4, h4⟩ := u_known (C := RX4) (T := TX4) (N := 9) (n := 9) hg (gvcls (show vwCl[4]? = some (RX4, TX4, 9) from rfl)).2.2.2.2 (hts (.instantiable RX4 9) (List.mem_of_getElem? (i := 89) (by rfl)))
  obtain ⟨c5, i5, h5⟩ := u_known (C := RX5) (T := TX5) (N := 8) (n := 8) hg (gvcls (show vwCl[5]? = some (RX5, TX5, 8) from rfl)).2.2.2.2 (hts (.instantiable RX5 8) (List.mem_of_getElem? (i := 214) (by rfl)))
  obtain ⟨c6, i6, h6⟩ := u_known (C := RX6) (T := TX6) (N := 10) (n := 10) hg (gvcls (show vwCl[6]? = some (RX6, TX6, 10) from rfl)).2.2.2.2 (hts (.instantiable RX6 10) (List.mem_of_getElem? (i := 60) (by rfl)))
  obtain ⟨c7, i7, h7⟩ := u_known (C := RX7) (T := TX7) (N := 23) (n := 23) hg (gvcls (show vwCl[7]? = some (RX7, TX7, 23) from rfl)).2.2.2.2 (hts (.instantiable RX7 23) (List.mem_of_getElem? (i := 716) (by rfl)))
  obtain ⟨a0, ka0, p0, e01, e02, e03⟩ := Cond.arrayClass_spec (hts (.arrayClass .int) (List.mem_of_getElem? (i := 87) (by rfl)))
  obtain ⟨a1, ka1, p1, e11, e12, e13⟩ := Cond.arrayClass_spec (hts (.arrayClass .byte) (List.mem_of_getElem? (i := 388) (by rfl)))
  obtain ⟨p2, a2, ka2, f1, f2, f3, f4, f5⟩ := Cond.arrayOver_spec (hts (.arrayOver (.object "GreyByFriday$Street")) (List.mem_of_getElem? (i := 173) (by rfl)))
  refine ⟨(fun k => if k = 0 then c0 else if k = 1 then c1 else if k = 2 then c2 else if k = 3 then c3 else if k = 4 then c4 else if k = 5 then c5 else if k = 6 then c6 else c7, fun k => if k = 0 then i0 else if k = 1 then i1 else if k = 2 then i2 else if k = 3 then i3 else if k = 4 then i4 else if k = 5 then i5 else if k = 6 then i6 else i7), fun k => if k = 0 then a0 else if k = 1 then a1 else a2, ?_, ?_⟩
  · intro k q hq
    match k, hq with
    | 0, hq => cases hq; exact h0
    | 1, hq => cases hq; exact h1
    | 2, hq => cases hq; exact h2
    | 3, hq => cases hq; exact h3
    | 4, hq => cases hq; exact h4
    | 5, hq => cases hq; exact h5
    | 6, hq => cases hq; exact h6
    | 7, hq => cases hq; exact h7
    | k + 8, hq => simp [vwCl] at hq
  · intro k q hq
    match k, hq with
    | 0, hq => cases hq; exact ⟨fun N z => ⟨(fun k h => by cases h), ka0, e02, p0, e03⟩, e01⟩
    | 1, hq => cases hq; exact ⟨fun N z => ⟨(fun k h => by cases h), ka1, e12, p1, e13⟩, e11⟩
    | 2, hq => cases hq; exact ⟨fun N z => ⟨(fun k h => by cases h), ka2, f3, p2, f4⟩, ka2, p2, f3, f4, f1, f5⟩
    | k + 3, hq => simp [gtys] at hq
def lnest : List Jvm.Cond := [.methodLinkNest (gown 6) 9 yX1_init "GreyByFriday", .methodLinkNest (gown 6) 18 yX4_init "GreyByFriday", .methodLinkNest (gown 6) 28 yX3_init "GreyByFriday", .methodLinkNest (gown 2) 21 yX3_init "GreyByFriday", .methodLinkNest (gown 6) 50 yX0_init "GreyByFriday", .methodLinkNest (gown 6) 57 yX5_init "GreyByFriday", .methodLinkNest (gown 1) 49 yX6_within "GreyByFriday", .methodLinkNest (gown 3) 36 yX6_hueOf "GreyByFriday", .methodLinkNest (gown 5) 87 yX6_hueOf "GreyByFriday"]
set_option maxRecDepth 100000 in
theorem lnest_in : ∀ w ∈ lnest, w ∈ lw_tbl := by
  have e : lnest = [69, 90, 140, 174, 188, 215, 323, 418, 642].filterMap (fun i => lw_tbl[i]?) := by rfl
  intro w hw
  rw [e] at hw
  obtain ⟨i, -, hi⟩ := List.mem_filterMap.mp hw
  exact List.mem_of_getElem? hi
set_option maxRecDepth 100000 in
theorem law_X {s : State} {args : Array Value} (hts : ∀ w ∈ lw_tbl, w.before args s = true) : gXt s := by
  refine ⟨fun q hq => va_Nw.of rfl (hts _ (lnest_in _ ?_)), va_AO.of (hts (.arrayOver (.object "GreyByFriday$Street")) (List.mem_of_getElem? (i := 173) (by rfl)))⟩
  have e : lnest = gnest.map (fun q => .methodLinkNest (gown q.1) q.2.1 q.2.2 "GreyByFriday") := rfl
  rw [e]
  exact List.mem_map_of_mem (f := fun q => Jvm.Cond.methodLinkNest (gown q.1) q.2.1 q.2.2 "GreyByFriday") hq
def by0 : List Int32 := [112, 48, 44, 51, 44, 50, 44, 52, 59, 112, 49, 44, 52, 44, 49, 44, 50, 59, 112, 50, 44, 50, 44, 50, 44, 54, 59, 112, 51, 44, 49, 44, 53, 44, 48, 59, 100, 49, 44, 48, 44, 48, 44, 50, 59, 100, 48, 44, 49, 44, 49, 44, 51, 59, 100, 50, 44, 48, 44, 49, 44, 53, 59, 104, 48, 44, 48, 44, 50, 59, 104, 48, 44, 50, 44, 49, 59, 104, 49, 44, 49, 44, 48, 59, 104, 50, 44, 48, 44, 49, 59, 104, 50, 44, 51, 44, 49, 59, 104, 51, 44, 52, 44, 49, 59, 99, 50, 59]
theorem by0_e : ∀ j, j < 108 → by0.getD j 0 = nI (tx0 j) := by decide +kernel
abbrev sT : Term := .string "GreyByFriday" 66
abbrev sV : Term := .field sT "java/lang/String" "value" "[B"
set_option maxRecDepth 100000 in
theorem by0_in : ∀ j, j < 108 → Jvm.Cond.eq (.elem sV (.int (Int32.ofNat j))) (.int (by0.getD j 0)) ∈ flatC (Jvm.Cond.and given_1 narrow_1) := by decide +kernel
theorem va_T.cg {ty : FieldType} {t N : Nat} {f g : Nat → Value} {A : Nat → Prop} {U : State} {H : Heap} (h : va_T ty t N f A U H) (e : ∀ j, j < N → f j = g j) : va_T ty t N g A U H := by
  obtain ⟨cell, h1, h2, h3, h4, h5, h6, h7⟩ := h
  exact ⟨cell, h1, h2, h3, h4, h5, fun j hj => by rw [← e j hj]; exact h6 j hj, h7⟩
set_option maxRecDepth 100000 in
theorem law_str {s : State} {b : Nat} (hts : ∀ w ∈ lw_tbl, w.before #[Value.ref b] s = true) (hgv : (Jvm.Cond.and given_1 narrow_1).before #[Value.ref b] s = true) : ∃ a v, vk_R RX6 66 txS a s ∧ strH a v (fun q => s.heap.size ≤ q) s s.heap := by
  have hs := flat_of_before _ hgv
  have hA : ∀ a : Nat, a < s.heap.size → ¬ (fun q : Nat => s.heap.size ≤ q) a := fun a h => Nat.not_le.mpr h
  obtain ⟨adK, adV, h1, h2⟩ := vk_Sof (args := #[Value.ref b]) (s := s) (N := 1) (tm := fun _ => sT) (len := [108]) (byt := [by0]) (A := fun q => s.heap.size ≤ q)
    (fun i hi => by rw [show i = 0 by omega]; decide) (fun i hi => hs _ (by decide +kernel)) (fun i hi => hs _ (by decide +kernel)) (fun i hi => hs _ (by decide +kernel))
    (fun i hi => by rw [show i = 0 by omega]; exact hs _ (by decide +kernel)) (fun i hi j hj => by rw [show i = 0 by omega] at hj ⊢; exact hs _ (by0_in j hj)) (fun i j hi hj h => absurd (show i = j by omega) h) hA
  obtain ⟨q1, q2, q3, q4⟩ := h1.1 0 (by decide)
  refine ⟨adK 0, adV 0, vk_R.of (hts (.stringRef "GreyByFriday" 66 txS) (List.mem_of_getElem? (i := 247) (by rfl))) (h2 0 (by decide)), q1, q2, q3, q4.cg (fun j hj => ?_), va_Zof (hts (.laysStatic "java/lang/String" "COMPACT_STRINGS" "Z") (List.mem_of_getElem? (i := 257) (by rfl))) (hts (.initialized "java/lang/String") (List.mem_of_getElem? (i := 52) (by rfl))) (va_eqi (hs _ (by decide +kernel))) hA, va_Zqof (hts (.laysStatic "jdk/internal/util/Preconditions" "SIOOBE_FORMATTER" "Ljava/util/function/BiFunction;") (List.mem_of_getElem? (i := 273) (by rfl))) (hts (.initialized "jdk/internal/util/Preconditions") (List.mem_of_getElem? (i := 54) (by rfl))) (hs _ (by decide +kernel)) hA⟩
  show Value.int (by0.getD j 0) = Value.int (nI (tx0 j))
  rw [by0_e j hj]
