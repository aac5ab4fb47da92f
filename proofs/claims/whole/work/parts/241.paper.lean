/-! PAPER: items, the first fault -/
theorem rdA_none {tx : Nat → Nat} {len m pl n : Nat} {v : Nat → Nat} (h : (rdNum tx len pl).1 = none) : rdA tx len (m + 1) pl v n = none := by
  unfold rdA; rw [h]
theorem rdA_bad {tx : Nat → Nat} {len m pl n x : Nat} {v : Nat → Nat} (h : (rdNum tx len pl).1 = some x) (hb : ¬ ((rdNum tx len pl).2 < len ∧ tx (rdNum tx len pl).2 = (if m = 0 then 59 else 44))) : rdA tx len (m + 1) pl v n = none := by
  unfold rdA; rw [h]; dsimp only; rw [if_neg hb]
theorem rdA_go {tx : Nat → Nat} {len m pl n x : Nat} {v : Nat → Nat} (h : (rdNum tx len pl).1 = some x) (hb : (rdNum tx len pl).2 < len ∧ tx (rdNum tx len pl).2 = (if m = 0 then 59 else 44)) : rdA tx len (m + 1) pl v n = rdA tx len m ((rdNum tx len pl).2 + 1) (fun s => if s = n then x else v s) (n + 1) := by
  rw [rdA]; rw [h]; dsimp only; rw [if_pos hb]
theorem itm_none {T : gT} {tx : Nat → Nat} {len pl : Nat} (h : rdA tx len (nbh (tx pl)) (pl + 1) (fun _ => 0) 0 = none) : itm T tx len pl = none := by
  unfold itm; rw [h]
theorem itm_some {T : gT} {tx : Nat → Nat} {len pl q : Nat} {v : Nat → Nat} (h : rdA tx len (nbh (tx pl)) (pl + 1) (fun _ => 0) 0 = some (q, v)) : itm T tx len pl = (T.tk (tx pl) v).map (fun T' => (T', q)) := by
  unfold itm; rw [h]
set_option maxHeartbeats 4000000 in
set_option maxRecDepth 100000 in
theorem c_readItem {d t p len pl : Nat} {T : gT} {tx : Nat → Nat} {sh : List gS} {M : gM} {Q : Option Value → List gS → gM → Prop} (hd : 3 ≤ d) (hP : isPaper sh p) (hA : PAP M p tx len) (hok : txok tx len) (hT : isTown sh t) (hD : DRF M t T) (hdr : T.dr) (hap : t + 6 < p ∨ p + 2 < t) (hpl : M p 3 = nI pl) (hlt : pl < len) (hcon0 : itm T tx len pl = none → ∀ M', PAP M' p tx len → (∀ c, c ≠ p → c ≠ p + 2 → (c < t ∨ t + 5 < c) → M' c = M c) → Q (some (.int 0)) sh M') (hcon1 : ∀ T' q, itm T tx len pl = some (T', q) → ∀ M', DRF M' t T' → PAP M' p tx len → M' p 3 = nI q → (∀ c, c ≠ p → c ≠ p + 2 → (c < t ∨ t + 5 < c) → M' c = M c) → Q (some (.int 1)) sh M') : gC mX1_readItem d 0 0 [.ref p, .ref t] sh M Q := by
  have hP0 := hP
  have hT0 := hT
  obtain ⟨x0, x1, x2⟩ := hP
  obtain ⟨z0, z1, z2, z3, z4, z5, z6⟩ := hT
  obtain ⟨k1, k2⟩ := hok
  have hc9 := k2 pl hlt
  have hw4 := nbh_le (tx pl)
  refine gC_of (rt := 2) (ini := false) gm_X1_readItem rfl (by decide) (Nat.le_of_ble_eq_true rfl) (fun X hX => ?_)
  have L : ∀ (m n pl' : Nat) (v : Nat → Nat) (M' : gM), n + m = nbh (tx pl) → (∀ s, v s ≤ 99) → (∀ s, s < n → M' (p + 2) s = nI (v s)) → M' p 3 = nI pl' → pl' ≤ len → PAP M' p tx len → (∀ c, c ≠ p → c ≠ p + 2 → M' c = M c) → rdA tx len m pl' v n = rdA tx len (nbh (tx pl)) (pl + 1) (fun _ => 0) 0 → X 13 [(0, .ref p), (1, .ref t), (2, .int (nI (tx pl))), (3, .int (nI (nbh (tx pl)))), (4, .int (nI n))] [] sh M' 0 0 := by
    intro m
    induction m with
    | zero =>
      intro n pl' v M' hnm hv9 hv hpl' hle hA' hF hR
      have hn9 : n = nbh (tx pl) := by omega
      subst hn9
      have hi := itm_some (T := T) hR.symm
      refine s_iload (q := 15) hX dX1_readItem_13 rfl rfl ?_
      refine s_iload_n (q := 16) hX dX1_readItem_15 rfl rfl ?_
      refine s_icmp_ge_t (q := 19) (r := 74) hX dX1_readItem_16 rfl rfl (Int32.le_refl _) ?_
      refine s_aload_n (q := 75) hX dX1_readItem_74 rfl rfl ?_
      refine s_iload_n (q := 76) hX dX1_readItem_75 rfl rfl ?_
      refine s_aload_n (q := 77) hX dX1_readItem_76 rfl rfl ?_
      refine s_getr (q := 80) hX dX1_readItem_77 rfl gfl_1_15 (by assumption) rfl ?_
      refine s_invv2_1 (q := 83) hX dX1_readItem_80 rfl glk_1_45 (by assumption) (Nat.le_of_ble_eq_true rfl) ⟨Nat.le_refl _, Nat.le_refl _⟩ (by omega) (c_take (d := 2) (v := v) (Nat.le_refl _) hT0 (hD.keep8 (fun c a b => hF c (by omega) (by omega))) hdr x2 (by omega) (by omega) (fun s hs => hv s hs) hv9 (fun e => ?_) (fun T2 e M2 hD2 hF2 => ?_)) 
      · refine ⟨_, rfl, ?_⟩
        refine s_iret hX dX1_readItem_83 (Or.inr ⟨rfl, Or.inl rfl⟩) ⟨Nat.le_refl _, Nat.le_refl _, Nat.le_refl _, ?_⟩
        exact hcon0 (by rw [hi, e]; rfl) M' hA' (fun c h1 h2 _ => hF c h1 h2)
      · refine ⟨_, rfl, ?_⟩
        refine s_iret hX dX1_readItem_83 (Or.inr ⟨rfl, Or.inr rfl⟩) ⟨Nat.le_refl _, Nat.le_refl _, Nat.le_refl _, ?_⟩
        refine hcon1 T2 pl' (by rw [hi, e]; rfl) M2 hD2 (hA'.keep9 (hF2 p (by omega)) (hF2 (p + 1) (by omega))) (by rw [hF2 p (by omega)]; exact hpl') (fun c h1 h2 h3 => ?_)
        rw [hF2 c h3]; exact hF c h1 h2
    | succ m ih =>
      intro n pl' v M' hnm hv9 hv hpl' hle hA' hF hR
      obtain ⟨b1, b2, b3⟩ := rdNum_b tx len pl' hle
      have hA2 := hA'.pl (nI (rdNum tx len pl').2)
      cases hx : (rdNum tx len pl').1 with
      | none =>
        have hnone := rdA_none (m := m) (n := n) (v := v) hx
        rw [hR] at hnone
        refine s_iload (q := 15) hX dX1_readItem_13 rfl rfl ?_
        refine s_iload_n (q := 16) hX dX1_readItem_15 rfl rfl ?_
        refine s_icmp_ge_f (q := 19) (r := 74) hX dX1_readItem_16 rfl rfl (nI_ge (by omega) (by omega)) ?_
        refine s_aload_n (q := 20) hX dX1_readItem_19 rfl rfl ?_
        refine s_getr (q := 23) hX dX1_readItem_20 rfl gfl_1_15 (by assumption) rfl ?_
        refine s_iload (q := 25) hX dX1_readItem_23 rfl rfl ?_
        refine s_aload_n (q := 26) hX dX1_readItem_25 rfl rfl ?_
        refine s_invv0_1 (q := 29) hX dX1_readItem_26 rfl glk_1_42 (by assumption) (Nat.le_of_ble_eq_true rfl) ⟨Nat.le_refl _, Nat.le_refl _⟩ (by omega) (c_readNumber (d := 1) (Nat.le_refl _) hP0 hA' ⟨k1, k2⟩ hpl' hle ?_) 
        refine ⟨_, rfl, ?_⟩
        refine s_topi (v := (-4)) (by rw [hx]) ?_
        refine s_iast (k := n) (q := 30) hX dX1_readItem_29 rfl (by assumption) rfl (by omega) (by omega) ?_
        refine s_iload (q := 32) hX dX1_readItem_30 rfl rfl ?_
        refine s_iload_n (q := 33) hX dX1_readItem_32 rfl rfl ?_
        refine s_iconst (q := 34) (v := 1) hX dX1_readItem_33 rfl rfl ?_
        refine s_isub (q := 35) (v := nI (nbh (tx pl) - 1)) hX dX1_readItem_34 rfl (pk_sub (a := nbh (tx pl)) (b := 1) (by omega)) ?_
        refine s_nicmp_ne (a := n) (b := nbh (tx pl) - 1) (q := 38) (r := 43) hX dX1_readItem_35 rfl rfl rfl rfl (by omega) (by omega) (fun c35 => ?_) (fun c35 => ?_)
        · refine s_bipush (q := 45) (v := 44) hX dX1_readItem_43 rfl rfl (by decide) ?_
          refine s_istore (q := 47) (lv' := [(0, _), (1, _), (2, _), (3, _), (4, _), (5, _)]) hX dX1_readItem_45 rfl (Nat.le_of_ble_eq_true rfl) rfl ?_
          refine s_aload_n (q := 48) hX dX1_readItem_47 rfl rfl ?_
          refine s_getr (q := 51) hX dX1_readItem_48 rfl gfl_1_15 (by assumption) rfl ?_
          refine s_iload (q := 53) hX dX1_readItem_51 rfl rfl ?_
          refine s_iald (k := n) (q := 54) hX dX1_readItem_53 rfl (by assumption) rfl (by omega) (by omega) ?_
          refine s_topi (v := (-4)) (by rw [gsr_s, pk_us]) ?_
          refine s_if_lt_t (q := 57) (r := 66) hX dX1_readItem_54 rfl rfl (by decide) ?_
          refine s_iconst (q := 67) (v := 0) hX dX1_readItem_66 rfl rfl ?_
          refine s_iret hX dX1_readItem_67 (Or.inr ⟨rfl, Or.inl rfl⟩) ⟨Nat.le_refl _, Nat.le_refl _, Nat.le_refl _, ?_⟩
          refine hcon0 (itm_none hnone) _ ⟨by rw [gsr_n _ _ (by omega)]; exact hA2.1, fun j hj => by rw [gsr_n _ _ (by omega)]; exact hA2.2 j hj⟩ (fun c h1 h2 h3 => ?_)
          rw [gsr_n _ _ h2, gsr_n _ _ h1]; exact hF c h1 h2
        · refine s_bipush (q := 40) (v := 59) hX dX1_readItem_38 rfl rfl (by decide) ?_
          refine s_goto (q := 45) hX dX1_readItem_40 rfl ?_
          refine s_istore (q := 47) (lv' := [(0, _), (1, _), (2, _), (3, _), (4, _), (5, _)]) hX dX1_readItem_45 rfl (Nat.le_of_ble_eq_true rfl) rfl ?_
          refine s_aload_n (q := 48) hX dX1_readItem_47 rfl rfl ?_
          refine s_getr (q := 51) hX dX1_readItem_48 rfl gfl_1_15 (by assumption) rfl ?_
          refine s_iload (q := 53) hX dX1_readItem_51 rfl rfl ?_
          refine s_iald (k := n) (q := 54) hX dX1_readItem_53 rfl (by assumption) rfl (by omega) (by omega) ?_
          refine s_topi (v := (-4)) (by rw [gsr_s, pk_us]) ?_
          refine s_if_lt_t (q := 57) (r := 66) hX dX1_readItem_54 rfl rfl (by decide) ?_
          refine s_iconst (q := 67) (v := 0) hX dX1_readItem_66 rfl rfl ?_
          refine s_iret hX dX1_readItem_67 (Or.inr ⟨rfl, Or.inl rfl⟩) ⟨Nat.le_refl _, Nat.le_refl _, Nat.le_refl _, ?_⟩
          refine hcon0 (itm_none hnone) _ ⟨by rw [gsr_n _ _ (by omega)]; exact hA2.1, fun j hj => by rw [gsr_n _ _ (by omega)]; exact hA2.2 j hj⟩ (fun c h1 h2 h3 => ?_)
          rw [gsr_n _ _ h2, gsr_n _ _ h1]; exact hF c h1 h2
      | some x =>
        have hx9 := b3 x hx
        refine s_iload (q := 15) hX dX1_readItem_13 rfl rfl ?_
        refine s_iload_n (q := 16) hX dX1_readItem_15 rfl rfl ?_
        refine s_icmp_ge_f (q := 19) (r := 74) hX dX1_readItem_16 rfl rfl (nI_ge (by omega) (by omega)) ?_
        refine s_aload_n (q := 20) hX dX1_readItem_19 rfl rfl ?_
        refine s_getr (q := 23) hX dX1_readItem_20 rfl gfl_1_15 (by assumption) rfl ?_
        refine s_iload (q := 25) hX dX1_readItem_23 rfl rfl ?_
        refine s_aload_n (q := 26) hX dX1_readItem_25 rfl rfl ?_
        refine s_invv0_1 (q := 29) hX dX1_readItem_26 rfl glk_1_42 (by assumption) (Nat.le_of_ble_eq_true rfl) ⟨Nat.le_refl _, Nat.le_refl _⟩ (by omega) (c_readNumber (d := 1) (Nat.le_refl _) hP0 hA' ⟨k1, k2⟩ hpl' hle ?_) 
        refine ⟨_, rfl, ?_⟩
        refine s_topi (v := nI (x)) (by rw [hx]) ?_
        refine s_iast (k := n) (q := 30) hX dX1_readItem_29 rfl (by assumption) rfl (by omega) (by omega) ?_
        refine s_iload (q := 32) hX dX1_readItem_30 rfl rfl ?_
        refine s_iload_n (q := 33) hX dX1_readItem_32 rfl rfl ?_
        refine s_iconst (q := 34) (v := 1) hX dX1_readItem_33 rfl rfl ?_
        refine s_isub (q := 35) (v := nI (nbh (tx pl) - 1)) hX dX1_readItem_34 rfl (pk_sub (a := nbh (tx pl)) (b := 1) (by omega)) ?_
        refine s_nicmp_ne (a := n) (b := nbh (tx pl) - 1) (q := 38) (r := 43) hX dX1_readItem_35 rfl rfl rfl rfl (by omega) (by omega) (fun c35 => ?_) (fun c35 => ?_)
        · refine s_bipush (q := 45) (v := 44) hX dX1_readItem_43 rfl rfl (by decide) ?_
          refine s_istore (q := 47) (lv' := [(0, _), (1, _), (2, _), (3, _), (4, _), (5, _)]) hX dX1_readItem_45 rfl (Nat.le_of_ble_eq_true rfl) rfl ?_
          refine s_aload_n (q := 48) hX dX1_readItem_47 rfl rfl ?_
          refine s_getr (q := 51) hX dX1_readItem_48 rfl gfl_1_15 (by assumption) rfl ?_
          refine s_iload (q := 53) hX dX1_readItem_51 rfl rfl ?_
          refine s_iald (k := n) (q := 54) hX dX1_readItem_53 rfl (by assumption) rfl (by omega) (by omega) ?_
          refine s_topi (v := nI (x)) (by rw [gsr_s, pk_us]) ?_
          refine s_if_lt_f (q := 57) (r := 66) hX dX1_readItem_54 rfl rfl (nI_pos (by omega)) ?_
          refine s_aload_n (q := 58) hX dX1_readItem_57 rfl rfl ?_
          refine s_invv0_1 (q := 61) hX dX1_readItem_58 rfl glk_1_34 (by assumption) (Nat.le_of_ble_eq_true rfl) ⟨Nat.le_refl _, Nat.le_refl _⟩ (by omega) (c_readLetter (d := 0) (pl := (rdNum tx len pl').2) hP0 ⟨by rw [gsr_n _ _ (by omega)]; exact hA2.1, fun j hj => by rw [gsr_n _ _ (by omega)]; exact hA2.2 j hj⟩ ⟨k1, k2⟩ (by rw [gsr_n _ _ (by omega), gsr_s, pk_us]) b2 (fun hq => ?_) (fun hq => ?_)) 
          · refine ⟨_, rfl, ?_⟩
            refine s_iload (q := 63) hX dX1_readItem_61 rfl rfl ?_
            refine s_icmp_eq_f (q := 66) (r := 68) hX dX1_readItem_63 rfl rfl (by decide) ?_
            refine s_iconst (q := 67) (v := 0) hX dX1_readItem_66 rfl rfl ?_
            refine s_iret hX dX1_readItem_67 (Or.inr ⟨rfl, Or.inl rfl⟩) ⟨Nat.le_refl _, Nat.le_refl _, Nat.le_refl _, ?_⟩
            have hnone := rdA_bad (m := m) (n := n) (v := v) hx (by rw [if_neg (by omega)]; omega)
            rw [hR] at hnone
            first
              | (refine hcon0 (itm_none hnone) _ ⟨by rw [gsr_n _ _ (by omega)]; exact hA2.1, fun j hj => by rw [gsr_n _ _ (by omega)]; exact hA2.2 j hj⟩ (fun c h1 h2 h3 => ?_)
                 rw [gsr_n _ _ h2, gsr_n _ _ h1]; exact hF c h1 h2)
              | (refine hcon0 (itm_none hnone) _ (PAP.pl ⟨by rw [gsr_n _ _ (by omega)]; exact hA2.1, fun j hj => by rw [gsr_n _ _ (by omega)]; exact hA2.2 j hj⟩ _) (fun c h1 h2 h3 => ?_)
                 rw [gsr_n _ _ h1, gsr_n _ _ h2, gsr_n _ _ h1]; exact hF c h1 h2)
          · have hq9 := k2 _ hq
            refine ⟨_, rfl, ?_⟩
            refine s_iload (q := 63) hX dX1_readItem_61 rfl rfl ?_
            refine s_nicmp_eq (a := tx (rdNum tx len pl').2) (b := 44) (q := 66) (r := 68) hX dX1_readItem_63 rfl rfl rfl rfl (by omega) (by omega) (fun c63 => ?_) (fun c63 => ?_)
            · have hbb : (rdNum tx len pl').2 < len ∧ tx (rdNum tx len pl').2 = (if m = 0 then 59 else 44) := ⟨hq, by rw [if_neg (by omega)]; omega⟩
              refine s_iinc (q := 71) (v := nI (n + 1)) (lv' := [(0, _), (1, _), (2, _), (3, _), (4, _), (5, _)]) hX dX1_readItem_68 rfl rfl (nI_add (n) 1) (Nat.le_of_ble_eq_true rfl) rfl ?_
              refine s_goto (q := 13) hX dX1_readItem_71 rfl ?_
              refine s_dl hX ?_
              refine ih (n + 1) ((rdNum tx len pl').2 + 1) (fun s => if s = n then x else v s) _ (by omega) (fun s => by show (if s = n then x else v s) ≤ 99; have := hv9 s; split <;> omega) (fun s hs => ?_) ?_ (by omega) ?_ ?_ ?_
              · rw [gsr_n _ _ (by omega), gsr_s]
                show _ = nI (if s = n then x else v s)
                by_cases e : s = n
                · rw [if_pos e, e, pk_us]
                · rw [if_neg e, pk_un e, gsr_n _ _ (by omega)]; exact hv s (by omega)
              · rw [gsr_s, pk_us]
              · exact PAP.pl ⟨by rw [gsr_n _ _ (by omega)]; exact hA2.1, fun j hj => by rw [gsr_n _ _ (by omega)]; exact hA2.2 j hj⟩ _
              · intro c h1 h2
                rw [gsr_n _ _ h1, gsr_n _ _ h2, gsr_n _ _ h1]; exact hF c h1 h2
              · rw [← hR]
                exact (rdA_go hx hbb).symm
            · refine s_iconst (q := 67) (v := 0) hX dX1_readItem_66 rfl rfl ?_
              refine s_iret hX dX1_readItem_67 (Or.inr ⟨rfl, Or.inl rfl⟩) ⟨Nat.le_refl _, Nat.le_refl _, Nat.le_refl _, ?_⟩
              have hnone := rdA_bad (m := m) (n := n) (v := v) hx (by rw [if_neg (by omega)]; omega)
              rw [hR] at hnone
              first
                | (refine hcon0 (itm_none hnone) _ ⟨by rw [gsr_n _ _ (by omega)]; exact hA2.1, fun j hj => by rw [gsr_n _ _ (by omega)]; exact hA2.2 j hj⟩ (fun c h1 h2 h3 => ?_)
                   rw [gsr_n _ _ h2, gsr_n _ _ h1]; exact hF c h1 h2)
                | (refine hcon0 (itm_none hnone) _ (PAP.pl ⟨by rw [gsr_n _ _ (by omega)]; exact hA2.1, fun j hj => by rw [gsr_n _ _ (by omega)]; exact hA2.2 j hj⟩ _) (fun c h1 h2 h3 => ?_)
                   rw [gsr_n _ _ h1, gsr_n _ _ h2, gsr_n _ _ h1]; exact hF c h1 h2)
        · refine s_bipush (q := 40) (v := 59) hX dX1_readItem_38 rfl rfl (by decide) ?_
          refine s_goto (q := 45) hX dX1_readItem_40 rfl ?_
          refine s_istore (q := 47) (lv' := [(0, _), (1, _), (2, _), (3, _), (4, _), (5, _)]) hX dX1_readItem_45 rfl (Nat.le_of_ble_eq_true rfl) rfl ?_
          refine s_aload_n (q := 48) hX dX1_readItem_47 rfl rfl ?_
          refine s_getr (q := 51) hX dX1_readItem_48 rfl gfl_1_15 (by assumption) rfl ?_
          refine s_iload (q := 53) hX dX1_readItem_51 rfl rfl ?_
          refine s_iald (k := n) (q := 54) hX dX1_readItem_53 rfl (by assumption) rfl (by omega) (by omega) ?_
          refine s_topi (v := nI (x)) (by rw [gsr_s, pk_us]) ?_
          refine s_if_lt_f (q := 57) (r := 66) hX dX1_readItem_54 rfl rfl (nI_pos (by omega)) ?_
          refine s_aload_n (q := 58) hX dX1_readItem_57 rfl rfl ?_
          refine s_invv0_1 (q := 61) hX dX1_readItem_58 rfl glk_1_34 (by assumption) (Nat.le_of_ble_eq_true rfl) ⟨Nat.le_refl _, Nat.le_refl _⟩ (by omega) (c_readLetter (d := 0) (pl := (rdNum tx len pl').2) hP0 ⟨by rw [gsr_n _ _ (by omega)]; exact hA2.1, fun j hj => by rw [gsr_n _ _ (by omega)]; exact hA2.2 j hj⟩ ⟨k1, k2⟩ (by rw [gsr_n _ _ (by omega), gsr_s, pk_us]) b2 (fun hq => ?_) (fun hq => ?_)) 
          · refine ⟨_, rfl, ?_⟩
            refine s_iload (q := 63) hX dX1_readItem_61 rfl rfl ?_
            refine s_icmp_eq_f (q := 66) (r := 68) hX dX1_readItem_63 rfl rfl (by decide) ?_
            refine s_iconst (q := 67) (v := 0) hX dX1_readItem_66 rfl rfl ?_
            refine s_iret hX dX1_readItem_67 (Or.inr ⟨rfl, Or.inl rfl⟩) ⟨Nat.le_refl _, Nat.le_refl _, Nat.le_refl _, ?_⟩
            have hnone := rdA_bad (m := m) (n := n) (v := v) hx (by rw [if_pos (by omega)]; omega)
            rw [hR] at hnone
            first
              | (refine hcon0 (itm_none hnone) _ ⟨by rw [gsr_n _ _ (by omega)]; exact hA2.1, fun j hj => by rw [gsr_n _ _ (by omega)]; exact hA2.2 j hj⟩ (fun c h1 h2 h3 => ?_)
                 rw [gsr_n _ _ h2, gsr_n _ _ h1]; exact hF c h1 h2)
              | (refine hcon0 (itm_none hnone) _ (PAP.pl ⟨by rw [gsr_n _ _ (by omega)]; exact hA2.1, fun j hj => by rw [gsr_n _ _ (by omega)]; exact hA2.2 j hj⟩ _) (fun c h1 h2 h3 => ?_)
                 rw [gsr_n _ _ h1, gsr_n _ _ h2, gsr_n _ _ h1]; exact hF c h1 h2)
          · have hq9 := k2 _ hq
            refine ⟨_, rfl, ?_⟩
            refine s_iload (q := 63) hX dX1_readItem_61 rfl rfl ?_
            refine s_nicmp_eq (a := tx (rdNum tx len pl').2) (b := 59) (q := 66) (r := 68) hX dX1_readItem_63 rfl rfl rfl rfl (by omega) (by omega) (fun c63_1 => ?_) (fun c63_1 => ?_)
            · have hbb : (rdNum tx len pl').2 < len ∧ tx (rdNum tx len pl').2 = (if m = 0 then 59 else 44) := ⟨hq, by rw [if_pos (by omega)]; omega⟩
              refine s_iinc (q := 71) (v := nI (n + 1)) (lv' := [(0, _), (1, _), (2, _), (3, _), (4, _), (5, _)]) hX dX1_readItem_68 rfl rfl (nI_add (n) 1) (Nat.le_of_ble_eq_true rfl) rfl ?_
              refine s_goto (q := 13) hX dX1_readItem_71 rfl ?_
              refine s_dl hX ?_
              refine ih (n + 1) ((rdNum tx len pl').2 + 1) (fun s => if s = n then x else v s) _ (by omega) (fun s => by show (if s = n then x else v s) ≤ 99; have := hv9 s; split <;> omega) (fun s hs => ?_) ?_ (by omega) ?_ ?_ ?_
              · rw [gsr_n _ _ (by omega), gsr_s]
                show _ = nI (if s = n then x else v s)
                by_cases e : s = n
                · rw [if_pos e, e, pk_us]
                · rw [if_neg e, pk_un e, gsr_n _ _ (by omega)]; exact hv s (by omega)
              · rw [gsr_s, pk_us]
              · exact PAP.pl ⟨by rw [gsr_n _ _ (by omega)]; exact hA2.1, fun j hj => by rw [gsr_n _ _ (by omega)]; exact hA2.2 j hj⟩ _
              · intro c h1 h2
                rw [gsr_n _ _ h1, gsr_n _ _ h2, gsr_n _ _ h1]; exact hF c h1 h2
              · rw [← hR]
                exact (rdA_go hx hbb).symm
            · refine s_iconst (q := 67) (v := 0) hX dX1_readItem_66 rfl rfl ?_
              refine s_iret hX dX1_readItem_67 (Or.inr ⟨rfl, Or.inl rfl⟩) ⟨Nat.le_refl _, Nat.le_refl _, Nat.le_refl _, ?_⟩
              have hnone := rdA_bad (m := m) (n := n) (v := v) hx (by rw [if_pos (by omega)]; omega)
              rw [hR] at hnone
              first
                | (refine hcon0 (itm_none hnone) _ ⟨by rw [gsr_n _ _ (by omega)]; exact hA2.1, fun j hj => by rw [gsr_n _ _ (by omega)]; exact hA2.2 j hj⟩ (fun c h1 h2 h3 => ?_)
                   rw [gsr_n _ _ h2, gsr_n _ _ h1]; exact hF c h1 h2)
                | (refine hcon0 (itm_none hnone) _ (PAP.pl ⟨by rw [gsr_n _ _ (by omega)]; exact hA2.1, fun j hj => by rw [gsr_n _ _ (by omega)]; exact hA2.2 j hj⟩ _) (fun c h1 h2 h3 => ?_)
                   rw [gsr_n _ _ h1, gsr_n _ _ h2, gsr_n _ _ h1]; exact hF c h1 h2)
  refine s_aload_n (q := 1) hX dX1_readItem_0 rfl rfl ?_
  refine s_invv0_1 (q := 4) hX dX1_readItem_1 rfl glk_1_34 (by assumption) (Nat.le_of_ble_eq_true rfl) ⟨Nat.le_refl _, Nat.le_refl _⟩ (by omega) (c_readLetter (d := 0) hP0 hA ⟨k1, k2⟩ hpl (by omega) (fun hq => ?_) (fun hq => ?_)) 
  · exact absurd hlt hq
  · refine ⟨_, rfl, ?_⟩
    refine s_istore_n (q := 5) (lv' := [(0, _), (1, _), (2, _)]) hX dX1_readItem_4 rfl (Nat.le_of_ble_eq_true rfl) rfl ?_
    refine s_iload_n (q := 6) hX dX1_readItem_5 rfl rfl ?_
    refine s_invs1_1 (q := 9) hX dX1_readItem_6 rfl glk_1_38 (by decide) (Nat.le_of_ble_eq_true rfl) ⟨Nat.le_refl _, Nat.le_refl _⟩ (by omega) (c_numbersBehind (d := 0) (by omega) ?_) 
    refine ⟨_, rfl, ?_⟩
    refine s_istore_n (q := 10) (lv' := [(0, _), (1, _), (2, _), (3, _)]) hX dX1_readItem_9 rfl (Nat.le_of_ble_eq_true rfl) rfl ?_
    refine s_iconst (q := 11) (v := 0) hX dX1_readItem_10 rfl rfl ?_
    refine s_istore (q := 13) (lv' := [(0, _), (1, _), (2, _), (3, _), (4, _)]) hX dX1_readItem_11 rfl (Nat.le_of_ble_eq_true rfl) rfl ?_
    refine L (nbh (tx pl)) 0 (pl + 1) (fun _ => 0) _ (by omega) (fun s => by show (0 : Nat) ≤ 99; omega) (fun s hs => by omega) (by rw [gsr_s, pk_us]) (by omega) (hA.pl _) (fun c h1 h2 => gsr_n _ _ h1) rfl
