/-! PAPER -/
set_option maxHeartbeats 4000000 in
set_option maxRecDepth 100000 in
theorem c_padd {c : Nat} {d p len : Nat} {tx : Nat → Nat} {sh : List gS} {M : gM} {Q : Option Value → List gS → gM → Prop} (hP : isPaper sh p) (hA : PAP M p tx len) (hok : txok tx len) (hcon0 : 200 ≤ len → Q (some (.int 0)) sh M) (hcon1 : len < 200 → ∀ M', PAP M' p (fun j => if j = len then c else tx j) (len + 1) → (∀ a, a ≠ p → a ≠ p + 1 → M' a = M a) → Q (some (.int 1)) sh M') : gC mX1_add d 0 0 [.ref p, .int (nI c)] sh M Q := by
  obtain ⟨x0, x1, x2⟩ := hP
  obtain ⟨a1, a2⟩ := hA
  obtain ⟨k1, k2⟩ := hok
  refine gC_of (rt := 2) (ini := false) gm_X1_add rfl (by decide) (Nat.le_of_ble_eq_true rfl) (fun X hX => ?_)
  refine s_aload_n (q := 1) hX dX1_add_0 rfl rfl ?_
  refine s_geti (q := 4) hX dX1_add_1 rfl gfl_1_18 (by assumption) rfl ?_
  refine s_topi (v := nI (len)) a1 ?_
  refine s_sipush (q := 7) (v := 200) hX dX1_add_4 rfl rfl (by decide) ?_
  refine s_nicmp_lt (a := len) (b := 200) (q := 10) (r := 12) hX dX1_add_7 rfl rfl rfl rfl (by omega) (by omega) (fun c7 => ?_) (fun c7 => ?_)
  · refine s_aload_n (q := 13) hX dX1_add_12 rfl rfl ?_
    refine s_getr (q := 16) hX dX1_add_13 rfl gfl_1_11 (by assumption) rfl ?_
    refine s_aload_n (q := 17) hX dX1_add_16 rfl rfl ?_
    refine s_geti (q := 20) hX dX1_add_17 rfl gfl_1_18 (by assumption) rfl ?_
    refine s_topi (v := nI (len)) a1 ?_
    refine s_iload_n (q := 21) hX dX1_add_20 rfl rfl ?_
    refine s_iast (k := len) (q := 22) hX dX1_add_21 rfl (by assumption) rfl (by omega) (by omega) ?_
    refine s_aload_n (q := 23) hX dX1_add_22 rfl rfl ?_
    refine s_dup (q := 24) hX dX1_add_23 rfl rfl ?_
    refine s_geti (q := 27) hX dX1_add_24 rfl gfl_1_18 (by assumption) rfl ?_
    refine s_topi (v := nI (len)) (by rw [gsr_n _ _ (by omega)]; exact a1) ?_
    refine s_iconst (q := 28) (v := 1) hX dX1_add_27 rfl rfl ?_
    refine s_iadd (q := 29) (v := nI (len + 1)) hX dX1_add_28 rfl (nI_add (len) (1)) ?_
    refine s_puti (q := 32) hX dX1_add_29 rfl gfl_1_18 (by assumption) rfl ?_
    refine s_iconst (q := 33) (v := 1) hX dX1_add_32 rfl rfl ?_
    refine s_iret hX dX1_add_33 (Or.inr ⟨rfl, Or.inr rfl⟩) ⟨Nat.le_refl _, Nat.le_refl _, Nat.le_refl _, ?_⟩
    refine hcon1 (by omega) _ ⟨?_, fun j hj => ?_⟩ (fun a h1 h2 => ?_)
    · rw [gsr_s, pk_us]
    · rw [gsr_n _ _ (by omega), gsr_s]
      show _ = nI (if j = len then c else tx j)
      by_cases e : j = len
      · rw [if_pos e, e, pk_us]
      · rw [if_neg e, pk_un e]; exact a2 j (by omega)
    · rw [gsr_n _ _ h1, gsr_n _ _ h2]
  · refine s_iconst (q := 11) (v := 0) hX dX1_add_10 rfl rfl ?_
    refine s_iret hX dX1_add_11 (Or.inr ⟨rfl, Or.inl rfl⟩) ⟨Nat.le_refl _, Nat.le_refl _, Nat.le_refl _, ?_⟩
    exact hcon0 (by omega)
set_option maxHeartbeats 4000000 in
set_option maxRecDepth 100000 in
theorem c_readLetter {pl : Nat} {d p len : Nat} {tx : Nat → Nat} {sh : List gS} {M : gM} {Q : Option Value → List gS → gM → Prop} (hP : isPaper sh p) (hA : PAP M p tx len) (hok : txok tx len) (hpl : M p 3 = nI pl) (hle : pl ≤ len) (hcon0 : ¬ pl < len → Q (some (.int (-4))) sh M) (hcon1 : pl < len → Q (some (.int (nI (tx pl)))) sh (gsr M p (upd (M p) 3 (nI (pl + 1))))) : gC mX1_readLetter d 0 0 [.ref p] sh M Q := by
  obtain ⟨x0, x1, x2⟩ := hP
  obtain ⟨a1, a2⟩ := hA
  obtain ⟨k1, k2⟩ := hok
  refine gC_of (rt := 1) (ini := false) gm_X1_readLetter rfl (by decide) (Nat.le_of_ble_eq_true rfl) (fun X hX => ?_)
  refine s_aload_n (q := 1) hX dX1_readLetter_0 rfl rfl ?_
  refine s_geti (q := 4) hX dX1_readLetter_1 rfl gfl_1_27 (by assumption) rfl ?_
  refine s_topi (v := nI (pl)) hpl ?_
  refine s_aload_n (q := 5) hX dX1_readLetter_4 rfl rfl ?_
  refine s_geti (q := 8) hX dX1_readLetter_5 rfl gfl_1_18 (by assumption) rfl ?_
  refine s_topi (v := nI (len)) a1 ?_
  refine s_nicmp_lt (a := pl) (b := len) (q := 11) (r := 14) hX dX1_readLetter_8 rfl rfl rfl rfl (by omega) (by omega) (fun c8 => ?_) (fun c8 => ?_)
  · refine s_aload_n (q := 15) hX dX1_readLetter_14 rfl rfl ?_
    refine s_dup (q := 16) hX dX1_readLetter_15 rfl rfl ?_
    refine s_geti (q := 19) hX dX1_readLetter_16 rfl gfl_1_27 (by assumption) rfl ?_
    refine s_topi (v := nI (pl)) hpl ?_
    refine s_iconst (q := 20) (v := 1) hX dX1_readLetter_19 rfl rfl ?_
    refine s_iadd (q := 21) (v := nI (pl + 1)) hX dX1_readLetter_20 rfl (nI_add (pl) (1)) ?_
    refine s_puti (q := 24) hX dX1_readLetter_21 rfl gfl_1_27 (by assumption) rfl ?_
    refine s_aload_n (q := 25) hX dX1_readLetter_24 rfl rfl ?_
    refine s_getr (q := 28) hX dX1_readLetter_25 rfl gfl_1_11 (by assumption) rfl ?_
    refine s_aload_n (q := 29) hX dX1_readLetter_28 rfl rfl ?_
    refine s_geti (q := 32) hX dX1_readLetter_29 rfl gfl_1_27 (by assumption) rfl ?_
    refine s_topi (v := nI (pl + 1)) (by rw [gsr_s, pk_us]) ?_
    refine s_iconst (q := 33) (v := 1) hX dX1_readLetter_32 rfl rfl ?_
    refine s_isub (q := 34) (v := nI (pl)) hX dX1_readLetter_33 rfl (pk_sub (a := pl + 1) (b := 1) (by omega)) ?_
    refine s_iald (k := pl) (q := 35) hX dX1_readLetter_34 rfl (by assumption) rfl (by omega) (by omega) ?_
    refine s_topi (v := nI (tx pl)) (by rw [gsr_n _ _ (by omega)]; exact a2 pl (by omega)) ?_
    refine s_iret hX dX1_readLetter_35 (Or.inl rfl) ⟨Nat.le_refl _, Nat.le_refl _, Nat.le_refl _, ?_⟩
    exact hcon1 c8
  · refine s_bipush (q := 13) (v := (-4)) hX dX1_readLetter_11 rfl rfl (by decide) ?_
    refine s_iret hX dX1_readLetter_13 (Or.inl rfl) ⟨Nat.le_refl _, Nat.le_refl _, Nat.le_refl _, ?_⟩
    exact hcon0 c8
set_option maxHeartbeats 4000000 in
set_option maxRecDepth 100000 in
theorem c_readNumber {pl : Nat} {d p len : Nat} {tx : Nat → Nat} {sh : List gS} {M : gM} {Q : Option Value → List gS → gM → Prop} (hd : 1 ≤ d) (hP : isPaper sh p) (hA : PAP M p tx len) (hok : txok tx len) (hpl : M p 3 = nI pl) (hle : pl ≤ len) (hcon : Q (some (.int (match (rdNum tx len pl).1 with | some x => nI x | none => -4))) sh (gsr M p (upd (M p) 3 (nI (rdNum tx len pl).2)))) : gC mX1_readNumber d 0 0 [.ref p] sh M Q := by
  obtain ⟨x0, x1, x2⟩ := hP
  obtain ⟨a1, a2⟩ := hA
  obtain ⟨k1, k2⟩ := hok
  refine gC_of (rt := 1) (ini := false) gm_X1_readNumber rfl (by decide) (Nat.le_of_ble_eq_true rfl) (fun X hX => ?_)
  refine s_bipush (q := 2) (v := (-4)) hX dX1_readNumber_0 rfl rfl (by decide) ?_
  refine s_istore_n (q := 3) (lv' := [(0, _), (1, _)]) hX dX1_readNumber_2 rfl (Nat.le_of_ble_eq_true rfl) rfl ?_
  refine s_iconst (q := 4) (v := 0) hX dX1_readNumber_3 rfl rfl ?_
  refine s_istore_n (q := 5) (lv' := [(0, _), (1, _), (2, _)]) hX dX1_readNumber_4 rfl (Nat.le_of_ble_eq_true rfl) rfl ?_
  refine s_iload_n (q := 6) hX dX1_readNumber_5 rfl rfl ?_
  refine s_iconst (q := 7) (v := 2) hX dX1_readNumber_6 rfl rfl ?_
  refine s_icmp_ge_f (q := 10) (r := 79) hX dX1_readNumber_7 rfl rfl (by decide) ?_
  refine s_aload_n (q := 11) hX dX1_readNumber_10 rfl rfl ?_
  refine s_geti (q := 14) hX dX1_readNumber_11 rfl gfl_1_27 (by assumption) rfl ?_
  refine s_topi (v := nI (pl)) hpl ?_
  refine s_aload_n (q := 15) hX dX1_readNumber_14 rfl rfl ?_
  refine s_geti (q := 18) hX dX1_readNumber_15 rfl gfl_1_18 (by assumption) rfl ?_
  refine s_topi (v := nI (len)) a1 ?_
  refine s_nicmp_ge (a := pl) (b := len) (q := 21) (r := 79) hX dX1_readNumber_18 rfl rfl rfl rfl (by omega) (by omega) (fun c18 => ?_) (fun c18 => ?_)
  · refine s_iload_n (q := 80) hX dX1_readNumber_79 rfl rfl ?_
    refine s_iret hX dX1_readNumber_80 (Or.inl rfl) ⟨Nat.le_refl _, Nat.le_refl _, Nat.le_refl _, ?_⟩
    have e : rdNum tx len pl = (none, pl) := by
      unfold rdNum
      rw [if_neg (by omega)]
    rw [e] at hcon
    refine gqv hcon rfl ?_
    funext a
    by_cases z : a = p
    · subst z
      rw [gsr_s]
      funext k
      by_cases y : k = 3
      · subst y; rw [pk_us]; exact hpl
      · rw [pk_un y]
    · rw [gsr_n _ _ z]
  · refine s_aload_n (q := 22) hX dX1_readNumber_21 rfl rfl ?_
    refine s_getr (q := 25) hX dX1_readNumber_22 rfl gfl_1_11 (by assumption) rfl ?_
    refine s_aload_n (q := 26) hX dX1_readNumber_25 rfl rfl ?_
    refine s_geti (q := 29) hX dX1_readNumber_26 rfl gfl_1_27 (by assumption) rfl ?_
    refine s_topi (v := nI (pl)) hpl ?_
    refine s_iald (k := pl) (q := 30) hX dX1_readNumber_29 rfl (by assumption) rfl (by omega) (by omega) ?_
    refine s_topi (v := nI (tx (pl))) (a2 _ (by omega)) ?_
    refine s_istore_n (q := 31) (lv' := [(0, _), (1, _), (2, _), (3, _)]) hX dX1_readNumber_30 rfl (Nat.le_of_ble_eq_true rfl) rfl ?_
    refine s_iload_n (q := 32) hX dX1_readNumber_31 rfl rfl ?_
    refine s_bipush (q := 34) (v := 48) hX dX1_readNumber_32 rfl rfl (by decide) ?_
    refine s_bipush (q := 36) (v := 57) hX dX1_readNumber_34 rfl rfl (by decide) ?_
    refine s_invs3_1 (q := 39) hX dX1_readNumber_36 rfl glk_1_49 (by decide) (Nat.le_of_ble_eq_true rfl) ⟨Nat.le_refl _, Nat.le_refl _⟩ (by omega) (c_within (d := 0) ?_) 
    refine ⟨_, rfl, ?_⟩
    refine s_if_ne (q := 42) (r := 45) hX dX1_readNumber_39 rfl rfl (fun c39 => ?_) (fun c39 => ?_)
    · have w0 : 48 ≤ tx (pl) ∧ tx (pl) ≤ 57 := (gwithin (b := 48) (c := 57) (by have := k2 (pl) (by omega); omega) (by omega) (by omega)).mp (gif_t c39)
      refine s_iload_n (q := 46) hX dX1_readNumber_45 rfl rfl ?_
      refine s_if_ne_f (q := 49) (r := 53) hX dX1_readNumber_46 rfl rfl (by decide) ?_
      refine s_iconst (q := 50) (v := 0) hX dX1_readNumber_49 rfl rfl ?_
      refine s_goto (q := 57) hX dX1_readNumber_50 rfl ?_
      refine s_iload_n (q := 58) hX dX1_readNumber_57 rfl rfl ?_
      refine s_iadd (q := 59) (v := nI (0 + (tx (pl)))) hX dX1_readNumber_58 rfl (nI_add (0) (tx (pl))) ?_
      refine s_bipush (q := 61) (v := 48) hX dX1_readNumber_59 rfl rfl (by decide) ?_
      refine s_isub (q := 62) (v := nI (0 + (tx (pl)) - 48)) hX dX1_readNumber_61 rfl (pk_sub (a := 0 + (tx (pl))) (b := 48) (by omega)) ?_
      refine s_istore_n (q := 63) (lv' := [(0, _), (1, _), (2, _), (3, _)]) hX dX1_readNumber_62 rfl (Nat.le_of_ble_eq_true rfl) rfl ?_
      refine s_aload_n (q := 64) hX dX1_readNumber_63 rfl rfl ?_
      refine s_dup (q := 65) hX dX1_readNumber_64 rfl rfl ?_
      refine s_geti (q := 68) hX dX1_readNumber_65 rfl gfl_1_27 (by assumption) rfl ?_
      refine s_topi (v := nI (pl)) hpl ?_
      refine s_iconst (q := 69) (v := 1) hX dX1_readNumber_68 rfl rfl ?_
      refine s_iadd (q := 70) (v := nI (pl + 1)) hX dX1_readNumber_69 rfl (nI_add (pl) (1)) ?_
      refine s_puti (q := 73) hX dX1_readNumber_70 rfl gfl_1_27 (by assumption) rfl ?_
      refine s_iinc (q := 76) (v := 1) (lv' := [(0, _), (1, _), (2, _), (3, _)]) hX dX1_readNumber_73 rfl rfl (by decide) (Nat.le_of_ble_eq_true rfl) rfl ?_
      refine s_goto (q := 5) hX dX1_readNumber_76 rfl ?_
      refine s_iload_n (q := 6) hX dX1_readNumber_5 rfl rfl ?_
      refine s_iconst (q := 7) (v := 2) hX dX1_readNumber_6 rfl rfl ?_
      refine s_icmp_ge_f (q := 10) (r := 79) hX dX1_readNumber_7 rfl rfl (by decide) ?_
      refine s_aload_n (q := 11) hX dX1_readNumber_10 rfl rfl ?_
      refine s_geti (q := 14) hX dX1_readNumber_11 rfl gfl_1_27 (by assumption) rfl ?_
      refine s_topi (v := nI (pl + 1)) (by rw [gsr_s, pk_us]) ?_
      refine s_aload_n (q := 15) hX dX1_readNumber_14 rfl rfl ?_
      refine s_geti (q := 18) hX dX1_readNumber_15 rfl gfl_1_18 (by assumption) rfl ?_
      refine s_topi (v := nI (len)) (by rw [gsr_s, pk_un (by decide)]; exact a1) ?_
      refine s_nicmp_ge (a := pl + 1) (b := len) (q := 21) (r := 79) hX dX1_readNumber_18 rfl rfl rfl rfl (by omega) (by omega) (fun c18_1 => ?_) (fun c18_1 => ?_)
      · refine s_iload_n (q := 80) hX dX1_readNumber_79 rfl rfl ?_
        refine s_iret hX dX1_readNumber_80 (Or.inl rfl) ⟨Nat.le_refl _, Nat.le_refl _, Nat.le_refl _, ?_⟩
        have e : rdNum tx len pl = (some (tx pl - 48), pl + 1) := by
          unfold rdNum
          rw [if_pos (by omega), if_neg (by omega)]
        rw [e] at hcon
        refine gqv hcon (by show nI _ = nI _; congr 1; omega) rfl
      · refine s_aload_n (q := 22) hX dX1_readNumber_21 rfl rfl ?_
        refine s_getr (q := 25) hX dX1_readNumber_22 rfl gfl_1_11 (by assumption) rfl ?_
        refine s_aload_n (q := 26) hX dX1_readNumber_25 rfl rfl ?_
        refine s_geti (q := 29) hX dX1_readNumber_26 rfl gfl_1_27 (by assumption) rfl ?_
        refine s_topi (v := nI (pl + 1)) (by rw [gsr_s, pk_us]) ?_
        refine s_iald (k := pl + 1) (q := 30) hX dX1_readNumber_29 rfl (by assumption) rfl (by omega) (by omega) ?_
        refine s_topi (v := nI (tx (pl + 1))) (by rw [gsr_n _ _ (by omega)]; exact a2 _ (by omega)) ?_
        refine s_istore_n (q := 31) (lv' := [(0, _), (1, _), (2, _), (3, _)]) hX dX1_readNumber_30 rfl (Nat.le_of_ble_eq_true rfl) rfl ?_
        refine s_iload_n (q := 32) hX dX1_readNumber_31 rfl rfl ?_
        refine s_bipush (q := 34) (v := 48) hX dX1_readNumber_32 rfl rfl (by decide) ?_
        refine s_bipush (q := 36) (v := 57) hX dX1_readNumber_34 rfl rfl (by decide) ?_
        refine s_invs3_1 (q := 39) hX dX1_readNumber_36 rfl glk_1_49 (by decide) (Nat.le_of_ble_eq_true rfl) ⟨Nat.le_refl _, Nat.le_refl _⟩ (by omega) (c_within (d := 0) ?_) 
        refine ⟨_, rfl, ?_⟩
        refine s_if_ne (q := 42) (r := 45) hX dX1_readNumber_39 rfl rfl (fun c39_1 => ?_) (fun c39_1 => ?_)
        · have w1 : 48 ≤ tx (pl + 1) ∧ tx (pl + 1) ≤ 57 := (gwithin (b := 48) (c := 57) (by have := k2 (pl + 1) (by omega); omega) (by omega) (by omega)).mp (gif_t c39_1)
          refine s_iload_n (q := 46) hX dX1_readNumber_45 rfl rfl ?_
          refine s_if_ne_t (q := 49) (r := 53) hX dX1_readNumber_46 rfl rfl (by decide) ?_
          refine s_iload_n (q := 54) hX dX1_readNumber_53 rfl rfl ?_
          refine s_bipush (q := 56) (v := 10) hX dX1_readNumber_54 rfl rfl (by decide) ?_
          refine s_imul (q := 57) (v := nI ((0 + (tx (pl)) - 48) * 10)) hX dX1_readNumber_56 rfl (pk_mul (0 + (tx (pl)) - 48) (10)) ?_
          refine s_iload_n (q := 58) hX dX1_readNumber_57 rfl rfl ?_
          refine s_iadd (q := 59) (v := nI ((0 + (tx (pl)) - 48) * 10 + (tx (pl + 1)))) hX dX1_readNumber_58 rfl (nI_add ((0 + (tx (pl)) - 48) * 10) (tx (pl + 1))) ?_
          refine s_bipush (q := 61) (v := 48) hX dX1_readNumber_59 rfl rfl (by decide) ?_
          refine s_isub (q := 62) (v := nI ((0 + (tx (pl)) - 48) * 10 + (tx (pl + 1)) - 48)) hX dX1_readNumber_61 rfl (pk_sub (a := (0 + (tx (pl)) - 48) * 10 + (tx (pl + 1))) (b := 48) (by omega)) ?_
          refine s_istore_n (q := 63) (lv' := [(0, _), (1, _), (2, _), (3, _)]) hX dX1_readNumber_62 rfl (Nat.le_of_ble_eq_true rfl) rfl ?_
          refine s_aload_n (q := 64) hX dX1_readNumber_63 rfl rfl ?_
          refine s_dup (q := 65) hX dX1_readNumber_64 rfl rfl ?_
          refine s_geti (q := 68) hX dX1_readNumber_65 rfl gfl_1_27 (by assumption) rfl ?_
          refine s_topi (v := nI (pl + 1)) (by rw [gsr_s, pk_us]) ?_
          refine s_iconst (q := 69) (v := 1) hX dX1_readNumber_68 rfl rfl ?_
          refine s_iadd (q := 70) (v := nI (pl + 1 + 1)) hX dX1_readNumber_69 rfl (nI_add (pl + 1) (1)) ?_
          refine s_puti (q := 73) hX dX1_readNumber_70 rfl gfl_1_27 (by assumption) rfl ?_
          refine s_iinc (q := 76) (v := 2) (lv' := [(0, _), (1, _), (2, _), (3, _)]) hX dX1_readNumber_73 rfl rfl (by decide) (Nat.le_of_ble_eq_true rfl) rfl ?_
          refine s_goto (q := 5) hX dX1_readNumber_76 rfl ?_
          refine s_iload_n (q := 6) hX dX1_readNumber_5 rfl rfl ?_
          refine s_iconst (q := 7) (v := 2) hX dX1_readNumber_6 rfl rfl ?_
          refine s_icmp_ge_t (q := 10) (r := 79) hX dX1_readNumber_7 rfl rfl (by decide) ?_
          refine s_iload_n (q := 80) hX dX1_readNumber_79 rfl rfl ?_
          refine s_iret hX dX1_readNumber_80 (Or.inl rfl) ⟨Nat.le_refl _, Nat.le_refl _, Nat.le_refl _, ?_⟩
          have e : rdNum tx len pl = (some ((tx pl - 48) * 10 + (tx (pl + 1) - 48)), pl + 2) := by
            unfold rdNum
            rw [if_pos (by omega), if_pos (by omega)]
          rw [e] at hcon
          refine gqv hcon (by show nI _ = nI _; congr 1; omega) (by rw [gsr_gsr, gsr_s, guu])
        · have w1 : ¬ (48 ≤ tx (pl + 1) ∧ tx (pl + 1) ≤ 57) := fun z => gif_f2 c39_1 ((gwithin (b := 48) (c := 57) (by omega) (by omega) (by omega)).mpr z)
          refine s_goto (q := 79) hX dX1_readNumber_42 rfl ?_
          refine s_iload_n (q := 80) hX dX1_readNumber_79 rfl rfl ?_
          refine s_iret hX dX1_readNumber_80 (Or.inl rfl) ⟨Nat.le_refl _, Nat.le_refl _, Nat.le_refl _, ?_⟩
          have e : rdNum tx len pl = (some (tx pl - 48), pl + 1) := by
            unfold rdNum
            rw [if_pos (by omega), if_neg (by omega)]
          rw [e] at hcon
          refine gqv hcon (by show nI _ = nI _; congr 1; omega) rfl
    · have w0 : ¬ (48 ≤ tx (pl) ∧ tx (pl) ≤ 57) := fun z => gif_f2 c39 ((gwithin (b := 48) (c := 57) (by omega) (by omega) (by omega)).mpr z)
      refine s_goto (q := 79) hX dX1_readNumber_42 rfl ?_
      refine s_iload_n (q := 80) hX dX1_readNumber_79 rfl rfl ?_
      refine s_iret hX dX1_readNumber_80 (Or.inl rfl) ⟨Nat.le_refl _, Nat.le_refl _, Nat.le_refl _, ?_⟩
      have e : rdNum tx len pl = (none, pl) := by
        unfold rdNum
        rw [if_neg (by omega)]
      rw [e] at hcon
      refine gqv hcon rfl ?_
      funext a
      by_cases z : a = p
      · subst z
        rw [gsr_s]
        funext k
        by_cases y : k = 3
        · subst y; rw [pk_us]; exact hpl
        · rw [pk_un y]
      · rw [gsr_n _ _ z]
set_option maxHeartbeats 4000000 in
set_option maxRecDepth 100000 in
theorem c_numbersBehind {d c : Nat} {sh : List gS} {M : gM} {Q : Option Value → List gS → gM → Prop} (hc : c ≤ 126) (hcon : Q (some (.int (nI (nbh c)))) sh M) : gC mX1_numbersBehind d 0 0 [.int (nI c)] sh M Q := by
  have ht := nI_toInt (n := c) (by omega)
  refine gC_of (rt := 1) (ini := false) gm_X1_numbersBehind rfl (by decide) (Nat.le_of_ble_eq_true rfl) (fun X hX => ?_)
  refine s_iload_n (q := 1) hX dX1_numbersBehind_0 rfl rfl ?_
  refine s_lookup hX dX1_numbersBehind_1 rfl ?_
  refine ⟨fun c1 => ?_, fun c1 => ?_⟩
  · refine s_to (r := 48) rfl ?_
    refine s_iconst (q := 49) (v := 1) hX dX1_numbersBehind_48 rfl rfl ?_
    refine s_iret hX dX1_numbersBehind_49 (Or.inl rfl) ⟨Nat.le_refl _, Nat.le_refl _, Nat.le_refl _, ?_⟩
    have e : nbh c = 1 := by unfold nbh; (repeat' split) <;> omega
    rw [e] at hcon
    exact hcon
  refine ⟨fun c1_1 => ?_, fun c1_1 => ?_⟩
  · refine s_to (r := 44) rfl ?_
    refine s_iconst (q := 45) (v := 4) hX dX1_numbersBehind_44 rfl rfl ?_
    refine s_iret hX dX1_numbersBehind_45 (Or.inl rfl) ⟨Nat.le_refl _, Nat.le_refl _, Nat.le_refl _, ?_⟩
    have e : nbh c = 4 := by unfold nbh; (repeat' split) <;> omega
    rw [e] at hcon
    exact hcon
  refine ⟨fun c1_2 => ?_, fun c1_2 => ?_⟩
  · refine s_to (r := 46) rfl ?_
    refine s_iconst (q := 47) (v := 3) hX dX1_numbersBehind_46 rfl rfl ?_
    refine s_iret hX dX1_numbersBehind_47 (Or.inl rfl) ⟨Nat.le_refl _, Nat.le_refl _, Nat.le_refl _, ?_⟩
    have e : nbh c = 3 := by unfold nbh; (repeat' split) <;> omega
    rw [e] at hcon
    exact hcon
  refine ⟨fun c1_3 => ?_, fun c1_3 => ?_⟩
  · refine s_to (r := 44) rfl ?_
    refine s_iconst (q := 45) (v := 4) hX dX1_numbersBehind_44 rfl rfl ?_
    refine s_iret hX dX1_numbersBehind_45 (Or.inl rfl) ⟨Nat.le_refl _, Nat.le_refl _, Nat.le_refl _, ?_⟩
    have e : nbh c = 4 := by unfold nbh; (repeat' split) <;> omega
    rw [e] at hcon
    exact hcon
  refine s_to (r := 50) rfl ?_
  refine s_iconst (q := 51) (v := 0) hX dX1_numbersBehind_50 rfl rfl ?_
  refine s_iret hX dX1_numbersBehind_51 (Or.inl rfl) ⟨Nat.le_refl _, Nat.le_refl _, Nat.le_refl _, ?_⟩
  have e : nbh c = 0 := by unfold nbh; (repeat' split) <;> omega
  rw [e] at hcon
  exact hcon
set_option maxHeartbeats 4000000 in
set_option maxRecDepth 100000 in
theorem c_take {d t f c : Nat} {T : gT} {v : Nat → Nat} {sh : List gS} {M : gM} {Q : Option Value → List gS → gM → Prop} (hd : 2 ≤ d) (hT : isTown sh t) (hD : DRF M t T) (hok : T.dr) (hf : sh[f]? = some (.inr (.inl (0, 4)))) (hft : f < t ∨ t + 6 < f) (hc : c ≤ 126) (hv : ∀ s, s < nbh c → M f s = nI (v s)) (hv9 : ∀ s, v s ≤ 99) (hn : T.tk c v = none → Q (some (.int 0)) sh M) (hs : ∀ T', T.tk c v = some T' → ∀ M', DRF M' t T' → (∀ c, (c < t ∨ t + 5 < c) → M' c = M c) → Q (some (.int 1)) sh M') : gC mX4_take d 0 0 [.ref t, .int (nI c), .ref f] sh M Q := by
  have hT0 := hT
  obtain ⟨z0, z1, z2, z3, z4, z5, z6⟩ := hT
  have ht := nI_toInt (n := c) (by omega)
  refine gC_of (rt := 2) (ini := false) gm_X4_take rfl (by decide) (Nat.le_of_ble_eq_true rfl) (fun X hX => ?_)
  refine s_iload_n (q := 1) hX dX4_take_0 rfl rfl ?_
  refine s_lookup hX dX4_take_1 rfl ?_
  refine ⟨fun c1 => ?_, fun c1 => ?_⟩
  · refine s_to (r := 62) rfl ?_
    refine s_aload_n (q := 63) hX dX4_take_62 rfl rfl ?_
    refine s_aload_n (q := 64) hX dX4_take_63 rfl rfl ?_
    have hk : T.tk c v = T.tkC v := by unfold gT.tk; rw [if_neg (by omega), if_neg (by omega), if_neg (by omega), if_pos (by omega)]
    refine s_invv1_1 (q := 67) hX dX4_take_64 rfl glk_4_50 (by assumption) (Nat.le_of_ble_eq_true rfl) ⟨Nat.le_refl _, Nat.le_refl _⟩ (by omega) (c_takePrice (d := 0) hT0 hD hok hf hft (fun s hs => hv s (by rw [show c = 99 by omega]; exact hs)) (fun s _ => hv9 s) (fun e => ?_) (fun T2 e M2 hD2 hF2 => ?_)) 
    · refine ⟨_, rfl, ?_⟩
      refine s_iret hX dX4_take_67 (Or.inr ⟨rfl, Or.inl rfl⟩) ⟨Nat.le_refl _, Nat.le_refl _, Nat.le_refl _, ?_⟩
      exact hn (by rw [hk]; exact e)
    · refine ⟨_, rfl, ?_⟩
      refine s_iret hX dX4_take_67 (Or.inr ⟨rfl, Or.inr rfl⟩) ⟨Nat.le_refl _, Nat.le_refl _, Nat.le_refl _, ?_⟩
      exact hs T2 (by rw [hk]; exact e) M2 hD2 hF2
  refine ⟨fun c1_1 => ?_, fun c1_1 => ?_⟩
  · refine s_to (r := 50) rfl ?_
    refine s_aload_n (q := 51) hX dX4_take_50 rfl rfl ?_
    refine s_aload_n (q := 52) hX dX4_take_51 rfl rfl ?_
    have hk : T.tk c v = T.tkD v := by unfold gT.tk; rw [if_neg (by omega), if_pos (by omega)]
    refine s_invv1_1 (q := 55) hX dX4_take_52 rfl glk_4_44 (by assumption) (Nat.le_of_ble_eq_true rfl) ⟨Nat.le_refl _, Nat.le_refl _⟩ (by omega) (c_takeDeed (d := 1) (Nat.le_refl _) hT0 hD hok hf hft (fun s hs => hv s (by rw [show c = 100 by omega]; exact hs)) (fun s _ => hv9 s) (fun e => ?_) (fun T2 e M2 hD2 hF2 => ?_)) 
    · refine ⟨_, rfl, ?_⟩
      refine s_iret hX dX4_take_55 (Or.inr ⟨rfl, Or.inl rfl⟩) ⟨Nat.le_refl _, Nat.le_refl _, Nat.le_refl _, ?_⟩
      exact hn (by rw [hk]; exact e)
    · refine ⟨_, rfl, ?_⟩
      refine s_iret hX dX4_take_55 (Or.inr ⟨rfl, Or.inr rfl⟩) ⟨Nat.le_refl _, Nat.le_refl _, Nat.le_refl _, ?_⟩
      exact hs T2 (by rw [hk]; exact e) M2 hD2 hF2
  refine ⟨fun c1_2 => ?_, fun c1_2 => ?_⟩
  · refine s_to (r := 56) rfl ?_
    refine s_aload_n (q := 57) hX dX4_take_56 rfl rfl ?_
    refine s_aload_n (q := 58) hX dX4_take_57 rfl rfl ?_
    have hk : T.tk c v = T.tkH v := by unfold gT.tk; rw [if_neg (by omega), if_neg (by omega), if_pos (by omega)]
    refine s_invv1_1 (q := 61) hX dX4_take_58 rfl glk_4_47 (by assumption) (Nat.le_of_ble_eq_true rfl) ⟨Nat.le_refl _, Nat.le_refl _⟩ (by omega) (c_takeHabit (d := 0) hT0 hD hok hf hft (fun s hs => hv s (by rw [show c = 104 by omega]; exact hs)) (fun s _ => hv9 s) (fun e => ?_) (fun T2 e M2 hD2 hF2 => ?_)) 
    · refine ⟨_, rfl, ?_⟩
      refine s_iret hX dX4_take_61 (Or.inr ⟨rfl, Or.inl rfl⟩) ⟨Nat.le_refl _, Nat.le_refl _, Nat.le_refl _, ?_⟩
      exact hn (by rw [hk]; exact e)
    · refine ⟨_, rfl, ?_⟩
      refine s_iret hX dX4_take_61 (Or.inr ⟨rfl, Or.inr rfl⟩) ⟨Nat.le_refl _, Nat.le_refl _, Nat.le_refl _, ?_⟩
      exact hs T2 (by rw [hk]; exact e) M2 hD2 hF2
  refine ⟨fun c1_3 => ?_, fun c1_3 => ?_⟩
  · refine s_to (r := 44) rfl ?_
    refine s_aload_n (q := 45) hX dX4_take_44 rfl rfl ?_
    refine s_aload_n (q := 46) hX dX4_take_45 rfl rfl ?_
    have hk : T.tk c v = T.tkP v := by unfold gT.tk; rw [if_pos (by omega)]
    refine s_invv1_1 (q := 49) hX dX4_take_46 rfl glk_4_40 (by assumption) (Nat.le_of_ble_eq_true rfl) ⟨Nat.le_refl _, Nat.le_refl _⟩ (by omega) (c_takePerson (d := 1) (Nat.le_refl _) hT0 hD hok hf hft (fun s hs => hv s (by rw [show c = 112 by omega]; exact hs)) (fun s _ => hv9 s) (fun e => ?_) (fun T2 e M2 hD2 hF2 => ?_)) 
    · refine ⟨_, rfl, ?_⟩
      refine s_iret hX dX4_take_49 (Or.inr ⟨rfl, Or.inl rfl⟩) ⟨Nat.le_refl _, Nat.le_refl _, Nat.le_refl _, ?_⟩
      exact hn (by rw [hk]; exact e)
    · refine ⟨_, rfl, ?_⟩
      refine s_iret hX dX4_take_49 (Or.inr ⟨rfl, Or.inr rfl⟩) ⟨Nat.le_refl _, Nat.le_refl _, Nat.le_refl _, ?_⟩
      exact hs T2 (by rw [hk]; exact e) M2 hD2 hF2
  refine s_to (r := 68) rfl ?_
  refine s_iconst (q := 69) (v := 0) hX dX4_take_68 rfl rfl ?_
  refine s_iret hX dX4_take_69 (Or.inr ⟨rfl, Or.inl rfl⟩) ⟨Nat.le_refl _, Nat.le_refl _, Nat.le_refl _, ?_⟩
  exact hn (by unfold gT.tk; rw [if_neg (by omega), if_neg (by omega), if_neg (by omega), if_neg (by omega)])
