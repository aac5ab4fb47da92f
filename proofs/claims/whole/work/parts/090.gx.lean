/-! EVERY STEP OF gx IS ONE OF THE MACHINE -/
theorem glk_spec {o i : Nat} {q : Nat × Nat × Nat × Nat × Nat} (h : glk o i = some q) : glkB ((o, i), q) = true ∧ ∀ w ∈ glkW ((o, i), q), w ∈ gwl := by
  have hm := glook (show glkT.lookup (o, i) = some q from h)
  exact ⟨List.all_eq_true.mp glkT_ok _ hm, fun w hw => glkT_in w (List.mem_flatMap.mpr ⟨_, hm, hw⟩)⟩
theorem gst_split (ad : Nat → Nat) (st : List Value) (n : Nat) : st.map (gv ad) = (((st.take n).reverse).map (gv ad)).reverse ++ (st.drop n).map (gv ad) := by
  rw [← List.map_reverse, List.reverse_reverse, ← List.map_append, List.take_append_drop]
section GSc
variable {p : Program} {l : Launch} {e : Env} {R : Room} {s : State} {m : MethodId} {args : Array Value} {below : List Frame} {meth : Method} {c : Code} {A : Nat → Prop} {D : va_G} {cy : Nat → ClassId} {o nL d MC MS : Nat} {cc : ByteArray} {ret : Option FieldType} {ini : Bool} {Z : State → Prop} {n0 : Nat} {ad0 : Nat → Nat} {pc : Nat} {lv : List (Nat × Value)} {st : List Value} {sh : List gS} {M : gM} {kc ks : Nat}
theorem gs_callV (S : gSt p R s m args meth c A D cy o nL d MC MS cc ret ini) {i mi n r ci b : Nat} {rest : List Value} (hq : glk o i = some (0, mi, n, r, ci)) (hd : decode cc pc = .ok (.invokevirtual i, 3)) (hn : n ≤ st.length) (hdr : st.drop n = .ref b :: rest) (hcat : gcat rest ≤ 8) (hrc : grc sh b ci)
    (hC : gCall d mi (.ref b :: (st.take n).reverse) sh M kc ks MC MS (lv.map Prod.snd ++ rest) (fun v sh' M' kc' ks' => gret r v (fun w => gG p l e R s m args below meth c A D cy nL MC Z n0 ad0 (pc + 3) lv (w ++ rest) sh' M' kc' ks'))) : gG p l e R s m args below meth c A D cy nL MC Z n0 ad0 pc lv st sh M kc ks := by
  obtain ⟨hx, hb, hr, hml, hown, hts, hlocks, hK, hA, hR, hini, hX⟩ := S
  obtain ⟨d', mc, ms, hd', hmc, hms, hoth, hM⟩ := hC
  obtain ⟨hB, hW⟩ := glk_spec hq
  unfold glkB at hB
  unfold glkW at hW
  simp only [show ¬ (0 : Nat) = 5 by decide, show ¬ (0 : Nat) = 6 by decide, if_false, if_true] at hB hW
  cases hm : gmt[mi]? with
  | none => simp only [hm] at hB; cases hB
  | some q =>
    simp only [hm, Bool.and_eq_true, decide_eq_true_eq] at hB hW
    obtain ⟨⟨⟨hpar, -⟩, hci⟩, hcls⟩ := hB
    obtain ⟨g1, g2, g3, g4, g5⟩ := gmt_spec hm
    obtain ⟨fs, hfs⟩ := grc_e hrc
    intro ad H locs ls h1 h2 h3 hP hD hS hl
    have hMet := hM q hm l D cy ad H.size
    have hFc : ∀ z, va_A (gW cy ad sh M) H.size z → A z := by
      intro z hz
      rcases hz with ⟨k, e, hz⟩ | hz
      · exact hD.2 k (z, e) hz
      · exact hA z (Nat.le_trans hS.1 hz)
    obtain ⟨qv, hqv, hqc⟩ : ∃ qv : vw_C, vwCl[ci]? = some qv ∧ qv.1 = q.1.cls := by
      rw [hci] at hcls
      cases hv : vwCl[ci]? with
      | none => rw [hv] at hcls; cases hcls
      | some qv => rw [hv] at hcls; exact ⟨qv, rfl, Option.some.inj hcls⟩
    have hpre : PreV s H q.1.cls (ad b) (gPc (.ref b :: (st.take n).reverse) D cy ad H.size sh M) ((st.take n).reverse.map (gv ad)) := by
      refine ⟨gblind _ _ _, ?_, fun U hU hWm => ⟨rfl, by rw [hU], by rw [hU]; exact hP, va_K.moved hWm.alike hK, hD.weaken (fun _ _ _ _ => trivial), gXt_warm hWm hX⟩⟩
      rw [← hqc]
      exact va_recv hK hP hqv (gW_get hfs)
    have hcw : CallW R s args (gown o) q.1.cls i q.1 q.2.1 q.2.2.1 q.2.2.2.1 (.code q.1 q.2.1 q.2.2.1 q.2.2.2.1 :: gwl) (grm d' mc ms) mc ms n := by
      refine ⟨callB_of n hts (ggood hm) rfl rfl rfl (hts _ (hW _ (by simp))) (hts _ (hW _ (by simp))) ⟨g2, g3, hpar⟩ ⟨?_, ?_⟩, hts _ (hW _ (by simp)), hts _ (hW _ (by simp))⟩
      · show d' + 1 ≤ R.frames
        have := hR.1; omega
      · show 8 + (q.2.2.1 + 11) + 40 * d' ≤ R.locals
        have := hR.2.1; omega
    refine gs_run (va_runV (As := (st.take n).reverse.map (gv ad)) (rest := rest.map (gv ad)) ⟨hx, hb, hml, hown, hts⟩ hMet hcw hpre rfl (by rw [List.length_map, List.length_reverse, List.length_take]; omega) hl.1 ?_ (lv_room (by rw [gcat_map]; exact hcat)) hd ⟨by rw [hR.2.2.1]; exact hmc, by rw [hR.2.2.2]; exact hms⟩) hS hFc (fun v sh' M' ad' H1 locs1 hQ k1 k2 k3 k4 k5 hS1 => gs_after hmc hoth h1 h2 h3 hl hFc k1 k2 k3 k4 k5 hS1 hQ)
    show st.map (gv ad) = _
    rw [gst_split ad st n, hdr]
    rfl
theorem gs_callS (S : gSt p R s m args meth c A D cy o nL d MC MS cc ret ini) {i mi n r ci kd : Nat} (hkd : kd = 1 ∨ kd = 3) (hq : glk o i = some (kd, mi, n, r, ci)) (hd : decode cc pc = .ok (.invokestatic i, 3)) (hn : n ≤ st.length) (hcat : gcat (st.drop n) ≤ 8)
    (hC : gCall d mi ((st.take n).reverse) sh M kc ks MC MS (lv.map Prod.snd ++ st.drop n) (fun v sh' M' kc' ks' => gret r v (fun w => gG p l e R s m args below meth c A D cy nL MC Z n0 ad0 (pc + 3) lv (w ++ st.drop n) sh' M' kc' ks'))) : gG p l e R s m args below meth c A D cy nL MC Z n0 ad0 pc lv st sh M kc ks := by
  obtain ⟨hx, hb, hr, hml, hown, hts, hlocks, hK, hA, hR, hini, hX⟩ := S
  obtain ⟨d', mc, ms, hd', hmc, hms, hoth, hM⟩ := hC
  obtain ⟨hB, hW⟩ := glk_spec hq
  cases hm : gmt[mi]? with
  | none =>
    unfold glkB at hB
    rcases hkd with rfl | rfl <;> simp [hm] at hB
  | some q =>
    obtain ⟨g1, g2, g3, g4, g5⟩ := gmt_spec hm
    intro ad H locs ls h1 h2 h3 hP hD hS hl
    have hMet := hM q hm l D cy ad H.size
    have hFc : ∀ z, va_A (gW cy ad sh M) H.size z → A z := by
      intro z hz
      rcases hz with ⟨k, e, hz⟩ | hz
      · exact hD.2 k (z, e) hz
      · exact hA z (Nat.le_trans hS.1 hz)
    have hpre : PreS s H (gPc ((st.take n).reverse) D cy ad H.size sh M) ((st.take n).reverse.map (gv ad)) :=
      ⟨gblind _ _ _, fun U hU hWm => ⟨rfl, by rw [hU], by rw [hU]; exact hP, va_K.moved hWm.alike hK, hD.weaken (fun _ _ _ _ => trivial), gXt_warm hWm hX⟩⟩
    have hroom : (grm d' mc ms).frames + 1 ≤ R.frames ∧ 8 + (q.2.2.1 + 11) + (grm d' mc ms).locals ≤ R.locals := by
      refine ⟨?_, ?_⟩
      · show d' + 1 ≤ R.frames
        have := hR.1; omega
      · show 8 + (q.2.2.1 + 11) + 40 * d' ≤ R.locals
        have := hR.2.1; omega
    have hst : (F0 m pc ls (st.map (gv ad))).stack = ((st.take n).reverse.map (gv ad)).reverse ++ (st.drop n).map (gv ad) := gst_split ad st n
    have hlen : ((st.take n).reverse.map (gv ad)).length = n := by rw [List.length_map, List.length_reverse, List.length_take]; omega
    unfold glkB at hB
    unfold glkW at hW
    rcases hkd with rfl | rfl
    · simp only [show ¬ (1 : Nat) = 5 by decide, show ¬ (1 : Nat) = 6 by decide, show ¬ (1 : Nat) = 0 by decide, if_false, if_true, hm, Bool.and_eq_true, decide_eq_true_eq] at hB hW
      exact gs_run (va_runS (As := (st.take n).reverse.map (gv ad)) (rest := (st.drop n).map (gv ad)) ⟨hx, hb, hml, hown, hts⟩ hMet ⟨callB_of n hts (ggood hm) rfl rfl rfl (hts _ (hW _ (by simp))) (hts _ (hW _ (by simp))) ⟨g2, g3, hB.1.1.1⟩ hroom, hts _ (hW _ (by simp))⟩ hpre rfl hlen hl.1 hst (lv_room (by rw [gcat_map]; exact hcat)) hd ⟨by rw [hR.2.2.1]; exact hmc, by rw [hR.2.2.2]; exact hms⟩) hS hFc (fun v sh' M' ad' H1 locs1 hQ k1 k2 k3 k4 k5 hS1 => gs_after hmc hoth h1 h2 h3 hl hFc k1 k2 k3 k4 k5 hS1 hQ)
    · simp only [show ¬ (3 : Nat) = 5 by decide, show ¬ (3 : Nat) = 6 by decide, show ¬ (3 : Nat) = 0 by decide, show ¬ (3 : Nat) = 1 by decide, show ¬ (3 : Nat) = 2 by decide, if_false, if_true, hm, Bool.and_eq_true, decide_eq_true_eq] at hB hW
      obtain ⟨z, hz1, hz2⟩ := List.any_eq_true.mp hB.2
      have hz2 := of_decide_eq_true hz2
      have hnest := hX.1 z hz1
      rw [hz2.1, hz2.2.1, hz2.2.2] at hnest
      exact gs_run (va_runSN (As := (st.take n).reverse.map (gv ad)) (rest := (st.drop n).map (gv ad)) ⟨hx, hb, hml, hown, hts⟩ hMet ⟨va_cnB n hts (ggood hm) rfl rfl rfl hnest (hts _ (hW _ (by simp))) ⟨g2, g3, hB.1.1.1⟩ hroom, hts _ (hW _ (by simp)), trivial⟩ hpre rfl hlen hl.1 hst (lv_room (by rw [gcat_map]; exact hcat)) hd ⟨by rw [hR.2.2.1]; exact hmc, by rw [hR.2.2.2]; exact hms⟩) hS hFc (fun v sh' M' ad' H1 locs1 hQ k1 k2 k3 k4 k5 hS1 => gs_after hmc hoth h1 h2 h3 hl hFc k1 k2 k3 k4 k5 hS1 hQ)
theorem gs_callI (S : gSt p R s m args meth c A D cy o nL d MC MS cc ret ini) {i mi n r ci kd b : Nat} {rest : List Value} (hkd : kd = 2 ∨ kd = 4) (hq : glk o i = some (kd, mi, n, r, ci)) (hd : decode cc pc = .ok (.invokespecial i, 3)) (hn : n ≤ st.length) (hdr : st.drop n = .ref b :: rest) (hcat : gcat rest ≤ 8)
    (hC : gCall d mi (.ref b :: (st.take n).reverse) sh M kc ks MC MS (lv.map Prod.snd ++ rest) (fun v sh' M' kc' ks' => gret r v (fun w => gG p l e R s m args below meth c A D cy nL MC Z n0 ad0 (pc + 3) lv (w ++ rest) sh' M' kc' ks'))) : gG p l e R s m args below meth c A D cy nL MC Z n0 ad0 pc lv st sh M kc ks := by
  obtain ⟨hx, hb, hr, hml, hown, hts, hlocks, hK, hA, hR, hini, hX⟩ := S
  obtain ⟨d', mc, ms, hd', hmc, hms, hoth, hM⟩ := hC
  obtain ⟨hB, hW⟩ := glk_spec hq
  cases hm : gmt[mi]? with
  | none =>
    unfold glkB at hB
    rcases hkd with rfl | rfl <;> simp [hm] at hB
  | some q =>
    obtain ⟨qy, qc, ql, qr, qo⟩ := q
    obtain ⟨g1, g2, g3, g4, g5⟩ := gmt_spec hm
    have hgood := ggood hm
    dsimp only at g1 g2 g3 g4 g5 hgood
    intro ad H locs ls h1 h2 h3 hP hD hS hl
    have hMet := hM _ hm l D cy ad H.size
    dsimp only at hMet
    have hFc : ∀ z, va_A (gW cy ad sh M) H.size z → A z := by
      intro z hz
      rcases hz with ⟨k, e, hz⟩ | hz
      · exact hD.2 k (z, e) hz
      · exact hA z (Nat.le_trans hS.1 hz)
    have hpre : PreS s H (gPc (.ref b :: (st.take n).reverse) D cy ad H.size sh M) (.ref (ad b) :: (st.take n).reverse.map (gv ad)) :=
      ⟨gblind _ _ _, fun U hU hWm => ⟨rfl, by rw [hU], by rw [hU]; exact hP, va_K.moved hWm.alike hK, hD.weaken (fun _ _ _ _ => trivial), gXt_warm hWm hX⟩⟩
    have hroom : (grm d' mc ms).frames + 1 ≤ R.frames ∧ 8 + (ql + 11) + (grm d' mc ms).locals ≤ R.locals := by
      refine ⟨?_, ?_⟩
      · show d' + 1 ≤ R.frames
        have := hR.1; omega
      · show 8 + (ql + 11) + 40 * d' ≤ R.locals
        have := hR.2.1; omega
    have hst : (F0 m pc ls (st.map (gv ad))).stack = ((st.take n).reverse.map (gv ad)).reverse ++ .ref (ad b) :: rest.map (gv ad) := by
      show st.map (gv ad) = _
      rw [gst_split ad st n, hdr]
      rfl
    have hlen : ((st.take n).reverse.map (gv ad)).length = n := by rw [List.length_map, List.length_reverse, List.length_take]; omega
    unfold glkB at hB
    unfold glkW at hW
    rcases hkd with rfl | rfl
    · simp only [show ¬ (2 : Nat) = 5 by decide, show ¬ (2 : Nat) = 6 by decide, show ¬ (2 : Nat) = 0 by decide, show ¬ (2 : Nat) = 1 by decide, if_false, if_true, hm, Bool.and_eq_true, decide_eq_true_eq] at hB hW
      have hnone : qr = none := hB.2.2
      subst hnone
      exact gs_run (va_runI (As := (st.take n).reverse.map (gv ad)) (rest := rest.map (gv ad)) ⟨hx, hb, hml, hown, hts⟩ hMet ⟨callB_of n hts hgood rfl rfl rfl (hts _ (hW _ (by simp))) (hts _ (hW _ (by simp))) ⟨g2, g3, hB.1.1.1⟩ hroom, hB.2.1, hts _ (hW _ (by simp))⟩ hpre rfl hlen hl.1 hst (lv_room (by rw [gcat_map]; exact hcat)) hd ⟨by rw [hR.2.2.1]; exact hmc, by rw [hR.2.2.2]; exact hms⟩) hS hFc (fun v sh' M' ad' H1 locs1 hQ k1 k2 k3 k4 k5 hS1 => gs_after hmc hoth h1 h2 h3 hl hFc k1 k2 k3 k4 k5 hS1 hQ)
    · simp only [show ¬ (4 : Nat) = 5 by decide, show ¬ (4 : Nat) = 6 by decide, show ¬ (4 : Nat) = 0 by decide, show ¬ (4 : Nat) = 1 by decide, show ¬ (4 : Nat) = 2 by decide, show ¬ (4 : Nat) = 3 by decide, if_false, if_true, hm, Bool.and_eq_true, decide_eq_true_eq] at hB hW
      have hnone : qr = none := hB.2.2
      subst hnone
      obtain ⟨z, hz1, hz2⟩ := List.any_eq_true.mp hB.2.1.1
      have hz2 := of_decide_eq_true hz2
      have hnest := hX.1 z hz1
      rw [hz2.1, hz2.2.1, hz2.2.2] at hnest
      exact gs_run (va_runIN (As := (st.take n).reverse.map (gv ad)) (rest := rest.map (gv ad)) ⟨hx, hb, hml, hown, hts⟩ hMet ⟨va_cnB n hts hgood rfl rfl rfl hnest (hts _ (hW _ (by simp))) ⟨g2, g3, hB.1.1.1⟩ hroom, hB.2.1.2, hts _ (hW _ (by simp))⟩ hpre rfl hlen hl.1 hst (lv_room (by rw [gcat_map]; exact hcat)) hd ⟨by rw [hR.2.2.1]; exact hmc, by rw [hR.2.2.2]; exact hms⟩) hS hFc (fun v sh' M' ad' H1 locs1 hQ k1 k2 k3 k4 k5 hS1 => gs_after hmc hoth h1 h2 h3 hl hFc k1 k2 k3 k4 k5 hS1 hQ)
end GSc
