set_option maxHeartbeats 4000000 in
set_option maxRecDepth 100000 in
theorem c_firstFault {d t p len : Nat} {tx : Nat → Nat} {sh : List gS} {M : gM} {Q : Option Value → List gS → gM → Prop} (hd : 4 ≤ d) (hP : isPaper sh p) (hA : PAP M p tx len) (hok : txok tx len) (hT : isTown sh t) (hap : t + 6 < p ∨ p + 2 < t) (hcon0 : ∀ q, flt tx len 200 0 gT.e0 = .inl q → ∀ M', PAP M' p tx len → (∀ c, c ≠ p → c ≠ p + 2 → (c < t ∨ t + 5 < c) → M' c = M c) → Q (some (.int (nI q))) sh M') (hcon1 : ∀ T', flt tx len 200 0 gT.e0 = .inr T' → T'.dr → ∀ M', DRF M' t T' → PAP M' p tx len → (∀ c, c ≠ p → c ≠ p + 2 → (c < t ∨ t + 5 < c) → M' c = M c) → Q (some (.int (-4))) sh M') : gC mX1_firstFault d 0 0 [.ref p, .ref t] sh M Q := by
  have hP0 := hP
  have hT0 := hT
  have hok0 := hok
  obtain ⟨x0, x1, x2⟩ := hP
  obtain ⟨z0, z1, z2, z3, z4, z5, z6⟩ := hT
  obtain ⟨k1, k2⟩ := hok
  refine gC_of (rt := 1) (ini := false) gm_X1_firstFault rfl (by decide) (Nat.le_of_ble_eq_true rfl) (fun X hX => ?_)
  have L : ∀ (m i pl : Nat) (T : gT) (M' : gM), i + m = 200 → flt tx len m pl T = flt tx len 200 0 gT.e0 → T.dr → DRF M' t T → PAP M' p tx len → M' p 3 = nI pl → pl ≤ len → (∀ c, c ≠ p → c ≠ p + 2 → (c < t ∨ t + 5 < c) → M' c = M c) → X 11 [(0, .ref p), (1, .ref t), (2, .int (nI i))] [] sh M' 0 0 := by
    intro m
    induction m with
    | zero =>
      intro i pl T M' him hfl hdr hD hA' hpl hle hF
      have hi : i = 200 := by omega
      subst hi
      refine s_iload_n (q := 12) hX dX1_firstFault_11 rfl rfl ?_
      refine s_sipush (q := 15) (v := 200) hX dX1_firstFault_12 rfl rfl (by decide) ?_
      refine s_icmp_ge_t (q := 18) (r := 50) hX dX1_firstFault_15 rfl rfl (by decide) ?_
      refine s_bipush (q := 52) (v := (-4)) hX dX1_firstFault_50 rfl rfl (by decide) ?_
      refine s_iret hX dX1_firstFault_52 (Or.inl rfl) ⟨Nat.le_refl _, Nat.le_refl _, Nat.le_refl _, ?_⟩
      exact hcon1 T hfl.symm hdr M' hD hA' hF
    | succ m ih =>
      intro i pl T M' him hfl hdr hD hA' hpl hle hF
      refine s_iload_n (q := 12) hX dX1_firstFault_11 rfl rfl ?_
      refine s_sipush (q := 15) (v := 200) hX dX1_firstFault_12 rfl rfl (by decide) ?_
      refine s_icmp_ge_f (q := 18) (r := 50) hX dX1_firstFault_15 rfl rfl (nI_ge (b := 200) (by omega) (by omega)) ?_
      refine s_aload_n (q := 19) hX dX1_firstFault_18 rfl rfl ?_
      refine s_geti (q := 22) hX dX1_firstFault_19 rfl gfl_1_27 (by assumption) rfl ?_
      refine s_topi (v := nI (pl)) hpl ?_
      refine s_aload_n (q := 23) hX dX1_firstFault_22 rfl rfl ?_
      refine s_geti (q := 26) hX dX1_firstFault_23 rfl gfl_1_18 (by assumption) rfl ?_
      refine s_topi (v := nI (len)) hA'.1 ?_
      refine s_nicmp_ge (a := pl) (b := len) (q := 29) (r := 50) hX dX1_firstFault_26 rfl rfl rfl rfl (by omega) (by omega) (fun c26 => ?_) (fun c26 => ?_)
      · refine s_bipush (q := 52) (v := (-4)) hX dX1_firstFault_50 rfl rfl (by decide) ?_
        refine s_iret hX dX1_firstFault_52 (Or.inl rfl) ⟨Nat.le_refl _, Nat.le_refl _, Nat.le_refl _, ?_⟩
        refine hcon1 T ?_ hdr M' hD hA' hF
        rw [← hfl]
        show (if pl < len then (match itm T tx len pl with
          | none => (Sum.inl pl : Nat ⊕ gT)
          | some q => flt tx len m q.2 q.1) else Sum.inr T) = _
        rw [if_neg (by omega)]
      · refine s_aload_n (q := 30) hX dX1_firstFault_29 rfl rfl ?_
        refine s_geti (q := 33) hX dX1_firstFault_30 rfl gfl_1_27 (by assumption) rfl ?_
        refine s_topi (v := nI (pl)) hpl ?_
        refine s_istore_n (q := 34) (lv' := [(0, _), (1, _), (2, _), (3, _)]) hX dX1_firstFault_33 rfl (Nat.le_of_ble_eq_true rfl) rfl ?_
        refine s_aload_n (q := 35) hX dX1_firstFault_34 rfl rfl ?_
        refine s_aload_n (q := 36) hX dX1_firstFault_35 rfl rfl ?_
        refine s_invv1_1 (q := 39) hX dX1_firstFault_36 rfl glk_1_30 (by assumption) (Nat.le_of_ble_eq_true rfl) ⟨Nat.le_refl _, Nat.le_refl _⟩ (by omega) (c_readItem (d := 3) (Nat.le_refl _) hP0 hA' hok0 hT0 hD hdr hap hpl (by omega) (fun e M2 hA2 hF2 => ?_) (fun T2 q2 e M2 hD2 hA2 hp2 hF2 => ?_)) 
        · refine ⟨_, rfl, ?_⟩
          refine s_if_ne_f (q := 42) (r := 44) hX dX1_firstFault_39 rfl rfl (by decide) ?_
          refine s_iload_n (q := 43) hX dX1_firstFault_42 rfl rfl ?_
          refine s_iret hX dX1_firstFault_43 (Or.inl rfl) ⟨Nat.le_refl _, Nat.le_refl _, Nat.le_refl _, ?_⟩
          refine hcon0 pl ?_ M2 hA2 (fun c h1 h2 h3 => (hF2 c h1 h2 h3).trans (hF c h1 h2 h3))
          rw [← hfl]
          show (if pl < len then (match itm T tx len pl with
            | none => (Sum.inl pl : Nat ⊕ gT)
            | some q => flt tx len m q.2 q.1) else Sum.inr T) = _
          rw [if_pos (by omega), e]
        · refine ⟨_, rfl, ?_⟩
          refine s_if_ne_t (q := 42) (r := 44) hX dX1_firstFault_39 rfl rfl (by decide) ?_
          refine s_iinc (q := 47) (v := nI (i + 1)) (lv' := [(0, _), (1, _), (2, _), (3, _)]) hX dX1_firstFault_44 rfl rfl (nI_add (i) 1) (Nat.le_of_ble_eq_true rfl) rfl ?_
          refine s_goto (q := 11) hX dX1_firstFault_47 rfl ?_
          obtain ⟨q1, q2'⟩ := itm_b (by omega) e
          refine s_dl hX (ih (i + 1) q2 T2 M2 (by omega) ?_ (itm_dr hdr e) hD2 hA2 hp2 (by omega) (fun c h1 h2 h3 => (hF2 c h1 h2 h3).trans (hF c h1 h2 h3)))
          rw [← hfl]
          show _ = if pl < len then (match itm T tx len pl with
            | none => (Sum.inl pl : Nat ⊕ gT)
            | some q => flt tx len m q.2 q.1) else Sum.inr T
          rw [if_pos (by omega), e]
  refine s_aload_n (q := 1) hX dX1_firstFault_0 rfl rfl ?_
  refine s_invv0_0 (q := 4) hX dX1_firstFault_1 rfl glk_1_22 (by assumption) (Nat.le_of_ble_eq_true rfl) ⟨Nat.le_refl _, Nat.le_refl _⟩ (by omega) (c_empty (d := 0) hT0 (fun M1 hD1 hF1 => ?_)) 
  refine ⟨rfl, ?_⟩
  refine s_aload_n (q := 5) hX dX1_firstFault_4 rfl rfl ?_
  refine s_iconst (q := 6) (v := 0) hX dX1_firstFault_5 rfl rfl ?_
  refine s_puti (q := 9) hX dX1_firstFault_6 rfl gfl_1_27 (by assumption) rfl ?_
  refine s_iconst (q := 10) (v := 0) hX dX1_firstFault_9 rfl rfl ?_
  refine s_istore_n (q := 11) (lv' := [(0, _), (1, _), (2, _)]) hX dX1_firstFault_10 rfl (Nat.le_of_ble_eq_true rfl) rfl ?_
  refine L 200 0 0 gT.e0 _ (by omega) rfl gT.e0_dr (hD1.keep8 (fun c a b => gsr_n _ _ (by omega))) (PAP.pl (hA.keep9 (hF1 p (by omega)) (hF1 (p + 1) (by omega))) 0) (by rw [gsr_s, pk_us]; rfl) (by omega) (fun c h1 h2 h3 => ?_)
  rw [gsr_n _ _ h1]; exact hF1 c h3
