set_option maxHeartbeats 4000000 in
set_option maxRecDepth 100000 in
theorem c_begin {d t s : Nat} {T : gT} {sh : List gS} {M : gM} {Q : Option Value → List gS → gM → Prop} (hd : 1 ≤ d) (hT : isTown sh t) (hW : TWN M t T) (hok : T.ok) (hS : isStreet sh s) (hap : apart t s) (hcon : ∀ M', STR M' s T.P T.U0 → (∀ c, (c < s ∨ s + 3 < c) → M' c = M c) → Q none sh M') : gC mX3_begin d 0 0 [.ref s, .ref t] sh M Q := by
  have hT0 := hT
  have hok0 := hok
  have hS0 := hS
  obtain ⟨z0, z1, z2, z3, z4, z5, z6⟩ := hT
  obtain ⟨y0, y1, y2, y3⟩ := hS
  obtain ⟨o1, o2, o3, o4, o5, o6, o7, o8⟩ := hok
  have hap2 := hap
  unfold apart at hap2
  refine gC_of (rt := 0) (ini := false) gm_X3_begin rfl (by decide) (Nat.le_of_ble_eq_true rfl) (fun X hX => ?_)
  refine s_aload_n (q := 1) hX dX3_begin_0 rfl rfl ?_
  refine s_iconst (q := 2) (v := 0) hX dX3_begin_1 rfl rfl ?_
  refine s_puti (q := 5) hX dX3_begin_2 rfl gfl_3_21 (by assumption) rfl ?_
  refine s_aload_n (q := 6) hX dX3_begin_5 rfl rfl ?_
  refine s_getr (q := 9) hX dX3_begin_6 rfl gfl_3_25 (by assumption) rfl ?_
  refine s_iconst (q := 10) (v := 0) hX dX3_begin_9 rfl rfl ?_
  refine s_aload_n (q := 11) hX dX3_begin_10 rfl rfl ?_
  refine s_getr (q := 14) hX dX3_begin_11 rfl gfl_3_9 (by assumption) rfl ?_
  refine s_iconst (q := 15) (v := 0) hX dX3_begin_14 rfl rfl ?_
  refine s_aload_n (q := 16) hX dX3_begin_15 rfl rfl ?_
  refine s_getr (q := 19) hX dX3_begin_16 rfl gfl_3_9 (by assumption) rfl ?_
  refine s_alen (q := 20) hX dX3_begin_19 rfl (by assumption) (by decide) ?_
  refine s_cpy (k0 := 0) (k1 := 0) (n := 18) (q := 23) hX dX3_begin_20 rfl glk_3_30 (by omega) (Nat.le_of_ble_eq_true rfl) (by assumption) (by assumption) rfl rfl rfl (by omega) (by omega) (by omega) (by omega) ?_
  refine s_iconst (q := 24) (v := 0) hX dX3_begin_23 rfl rfl ?_
  refine s_istore_n (q := 25) (lv' := [(0, _), (1, _), (2, _)]) hX dX3_begin_24 rfl (Nat.le_of_ble_eq_true rfl) rfl ?_
  refine s_iload_n (q := 26) hX dX3_begin_25 rfl rfl ?_
  refine s_bipush (q := 28) (v := 6) hX dX3_begin_26 rfl rfl (by decide) ?_
  refine s_icmp_ge_f (q := 31) (r := 51) hX dX3_begin_28 rfl rfl (by decide) ?_
  refine s_aload_n (q := 32) hX dX3_begin_31 rfl rfl ?_
  refine s_getr (q := 35) hX dX3_begin_32 rfl gfl_3_15 (by assumption) rfl ?_
  refine s_iload_n (q := 36) hX dX3_begin_35 rfl rfl ?_
  refine s_iconst (q := 37) (v := 0) hX dX3_begin_36 rfl rfl ?_
  refine s_iast (k := 0) (q := 38) hX dX3_begin_37 rfl (by assumption) rfl (by omega) (by omega) ?_
  refine s_aload_n (q := 39) hX dX3_begin_38 rfl rfl ?_
  refine s_getr (q := 42) hX dX3_begin_39 rfl gfl_3_18 (by assumption) rfl ?_
  refine s_iload_n (q := 43) hX dX3_begin_42 rfl rfl ?_
  refine s_iconst (q := 44) (v := 0) hX dX3_begin_43 rfl rfl ?_
  refine s_iast (k := 0) (q := 45) hX dX3_begin_44 rfl (by assumption) rfl (by omega) (by omega) ?_
  refine s_iinc (q := 48) (v := 1) (lv' := [(0, _), (1, _), (2, _)]) hX dX3_begin_45 rfl rfl (by decide) (Nat.le_of_ble_eq_true rfl) rfl ?_
  refine s_goto (q := 25) hX dX3_begin_48 rfl ?_
  refine s_iload_n (q := 26) hX dX3_begin_25 rfl rfl ?_
  refine s_bipush (q := 28) (v := 6) hX dX3_begin_26 rfl rfl (by decide) ?_
  refine s_icmp_ge_f (q := 31) (r := 51) hX dX3_begin_28 rfl rfl (by decide) ?_
  refine s_aload_n (q := 32) hX dX3_begin_31 rfl rfl ?_
  refine s_getr (q := 35) hX dX3_begin_32 rfl gfl_3_15 (by assumption) rfl ?_
  refine s_iload_n (q := 36) hX dX3_begin_35 rfl rfl ?_
  refine s_iconst (q := 37) (v := 0) hX dX3_begin_36 rfl rfl ?_
  refine s_iast (k := 1) (q := 38) hX dX3_begin_37 rfl (by assumption) rfl (by omega) (by omega) ?_
  refine s_aload_n (q := 39) hX dX3_begin_38 rfl rfl ?_
  refine s_getr (q := 42) hX dX3_begin_39 rfl gfl_3_18 (by assumption) rfl ?_
  refine s_iload_n (q := 43) hX dX3_begin_42 rfl rfl ?_
  refine s_iconst (q := 44) (v := 0) hX dX3_begin_43 rfl rfl ?_
  refine s_iast (k := 1) (q := 45) hX dX3_begin_44 rfl (by assumption) rfl (by omega) (by omega) ?_
  refine s_iinc (q := 48) (v := 2) (lv' := [(0, _), (1, _), (2, _)]) hX dX3_begin_45 rfl rfl (by decide) (Nat.le_of_ble_eq_true rfl) rfl ?_
  refine s_goto (q := 25) hX dX3_begin_48 rfl ?_
  refine s_iload_n (q := 26) hX dX3_begin_25 rfl rfl ?_
  refine s_bipush (q := 28) (v := 6) hX dX3_begin_26 rfl rfl (by decide) ?_
  refine s_icmp_ge_f (q := 31) (r := 51) hX dX3_begin_28 rfl rfl (by decide) ?_
  refine s_aload_n (q := 32) hX dX3_begin_31 rfl rfl ?_
  refine s_getr (q := 35) hX dX3_begin_32 rfl gfl_3_15 (by assumption) rfl ?_
  refine s_iload_n (q := 36) hX dX3_begin_35 rfl rfl ?_
  refine s_iconst (q := 37) (v := 0) hX dX3_begin_36 rfl rfl ?_
  refine s_iast (k := 2) (q := 38) hX dX3_begin_37 rfl (by assumption) rfl (by omega) (by omega) ?_
  refine s_aload_n (q := 39) hX dX3_begin_38 rfl rfl ?_
  refine s_getr (q := 42) hX dX3_begin_39 rfl gfl_3_18 (by assumption) rfl ?_
  refine s_iload_n (q := 43) hX dX3_begin_42 rfl rfl ?_
  refine s_iconst (q := 44) (v := 0) hX dX3_begin_43 rfl rfl ?_
  refine s_iast (k := 2) (q := 45) hX dX3_begin_44 rfl (by assumption) rfl (by omega) (by omega) ?_
  refine s_iinc (q := 48) (v := 3) (lv' := [(0, _), (1, _), (2, _)]) hX dX3_begin_45 rfl rfl (by decide) (Nat.le_of_ble_eq_true rfl) rfl ?_
  refine s_goto (q := 25) hX dX3_begin_48 rfl ?_
  refine s_iload_n (q := 26) hX dX3_begin_25 rfl rfl ?_
  refine s_bipush (q := 28) (v := 6) hX dX3_begin_26 rfl rfl (by decide) ?_
  refine s_icmp_ge_f (q := 31) (r := 51) hX dX3_begin_28 rfl rfl (by decide) ?_
  refine s_aload_n (q := 32) hX dX3_begin_31 rfl rfl ?_
  refine s_getr (q := 35) hX dX3_begin_32 rfl gfl_3_15 (by assumption) rfl ?_
  refine s_iload_n (q := 36) hX dX3_begin_35 rfl rfl ?_
  refine s_iconst (q := 37) (v := 0) hX dX3_begin_36 rfl rfl ?_
  refine s_iast (k := 3) (q := 38) hX dX3_begin_37 rfl (by assumption) rfl (by omega) (by omega) ?_
  refine s_aload_n (q := 39) hX dX3_begin_38 rfl rfl ?_
  refine s_getr (q := 42) hX dX3_begin_39 rfl gfl_3_18 (by assumption) rfl ?_
  refine s_iload_n (q := 43) hX dX3_begin_42 rfl rfl ?_
  refine s_iconst (q := 44) (v := 0) hX dX3_begin_43 rfl rfl ?_
  refine s_iast (k := 3) (q := 45) hX dX3_begin_44 rfl (by assumption) rfl (by omega) (by omega) ?_
  refine s_iinc (q := 48) (v := 4) (lv' := [(0, _), (1, _), (2, _)]) hX dX3_begin_45 rfl rfl (by decide) (Nat.le_of_ble_eq_true rfl) rfl ?_
  refine s_goto (q := 25) hX dX3_begin_48 rfl ?_
  refine s_iload_n (q := 26) hX dX3_begin_25 rfl rfl ?_
  refine s_bipush (q := 28) (v := 6) hX dX3_begin_26 rfl rfl (by decide) ?_
  refine s_icmp_ge_f (q := 31) (r := 51) hX dX3_begin_28 rfl rfl (by decide) ?_
  refine s_aload_n (q := 32) hX dX3_begin_31 rfl rfl ?_
  refine s_getr (q := 35) hX dX3_begin_32 rfl gfl_3_15 (by assumption) rfl ?_
  refine s_iload_n (q := 36) hX dX3_begin_35 rfl rfl ?_
  refine s_iconst (q := 37) (v := 0) hX dX3_begin_36 rfl rfl ?_
  refine s_iast (k := 4) (q := 38) hX dX3_begin_37 rfl (by assumption) rfl (by omega) (by omega) ?_
  refine s_aload_n (q := 39) hX dX3_begin_38 rfl rfl ?_
  refine s_getr (q := 42) hX dX3_begin_39 rfl gfl_3_18 (by assumption) rfl ?_
  refine s_iload_n (q := 43) hX dX3_begin_42 rfl rfl ?_
  refine s_iconst (q := 44) (v := 0) hX dX3_begin_43 rfl rfl ?_
  refine s_iast (k := 4) (q := 45) hX dX3_begin_44 rfl (by assumption) rfl (by omega) (by omega) ?_
  refine s_iinc (q := 48) (v := 5) (lv' := [(0, _), (1, _), (2, _)]) hX dX3_begin_45 rfl rfl (by decide) (Nat.le_of_ble_eq_true rfl) rfl ?_
  refine s_goto (q := 25) hX dX3_begin_48 rfl ?_
  refine s_iload_n (q := 26) hX dX3_begin_25 rfl rfl ?_
  refine s_bipush (q := 28) (v := 6) hX dX3_begin_26 rfl rfl (by decide) ?_
  refine s_icmp_ge_f (q := 31) (r := 51) hX dX3_begin_28 rfl rfl (by decide) ?_
  refine s_aload_n (q := 32) hX dX3_begin_31 rfl rfl ?_
  refine s_getr (q := 35) hX dX3_begin_32 rfl gfl_3_15 (by assumption) rfl ?_
  refine s_iload_n (q := 36) hX dX3_begin_35 rfl rfl ?_
  refine s_iconst (q := 37) (v := 0) hX dX3_begin_36 rfl rfl ?_
  refine s_iast (k := 5) (q := 38) hX dX3_begin_37 rfl (by assumption) rfl (by omega) (by omega) ?_
  refine s_aload_n (q := 39) hX dX3_begin_38 rfl rfl ?_
  refine s_getr (q := 42) hX dX3_begin_39 rfl gfl_3_18 (by assumption) rfl ?_
  refine s_iload_n (q := 43) hX dX3_begin_42 rfl rfl ?_
  refine s_iconst (q := 44) (v := 0) hX dX3_begin_43 rfl rfl ?_
  refine s_iast (k := 5) (q := 45) hX dX3_begin_44 rfl (by assumption) rfl (by omega) (by omega) ?_
  refine s_iinc (q := 48) (v := 6) (lv' := [(0, _), (1, _), (2, _)]) hX dX3_begin_45 rfl rfl (by decide) (Nat.le_of_ble_eq_true rfl) rfl ?_
  refine s_goto (q := 25) hX dX3_begin_48 rfl ?_
  refine s_iload_n (q := 26) hX dX3_begin_25 rfl rfl ?_
  refine s_bipush (q := 28) (v := 6) hX dX3_begin_26 rfl rfl (by decide) ?_
  refine s_icmp_ge_t (q := 31) (r := 51) hX dX3_begin_28 rfl rfl (by decide) ?_
  refine s_ret hX dX3_begin_51 rfl ⟨Nat.le_refl _, Nat.le_refl _, Nat.le_refl _, ?_⟩
  refine hcon _ ⟨?_, fun j hj => ?_, fun j hj => ?_, fun j hj => ?_⟩ (fun c h1 => ?_)
  · simp only [gsr_n _ _ (show s ≠ s + 1 by omega), gsr_n _ _ (show s ≠ s + 2 by omega), gsr_n _ _ (show s ≠ s + 3 by omega), gsr_s, pk_us]; rfl
  · simp only [gsr_n _ _ (show s + 1 ≠ s + 2 by omega), gsr_n _ _ (show s + 1 ≠ s + 3 by omega), gsr_s, gsr_n _ _ (show t + 2 ≠ s by omega)]
    rw [pk_cpy_in (by omega) (by omega)]
    have := hW.2.2.2.2.1 j hj
    rw [show 0 + (j - 0) = j by omega, this]
    rfl
  · simp only [gsr_n _ _ (show s + 2 ≠ s + 3 by omega), gsr_n _ _ (show s + 3 ≠ s + 2 by omega), gsr_s]
    show _ = (0 : Int32)
    rcases (show j = 0 ∨ j = 1 ∨ j = 2 ∨ j = 3 ∨ j = 4 ∨ j = 5 by omega) with rfl | rfl | rfl | rfl | rfl | rfl <;> rfl
  · simp only [gsr_n _ _ (show s + 2 ≠ s + 3 by omega), gsr_n _ _ (show s + 3 ≠ s + 2 by omega), gsr_s]
    show _ = (0 : Int32)
    rcases (show j = 0 ∨ j = 1 ∨ j = 2 ∨ j = 3 ∨ j = 4 ∨ j = 5 by omega) with rfl | rfl | rfl | rfl | rfl | rfl <;> rfl
  · simp only [gsr_n _ _ (show c ≠ s by omega), gsr_n _ _ (show c ≠ s + 1 by omega), gsr_n _ _ (show c ≠ s + 2 by omega), gsr_n _ _ (show c ≠ s + 3 by omega)]
set_option maxHeartbeats 4000000 in
set_option maxRecDepth 100000 in
theorem c_copyFrom {d s r : Nat} {sh : List gS} {M : gM} {Q : Option Value → List gS → gM → Prop} (hd : 1 ≤ d) (hS : isStreet sh s) (hR : isStreet sh r) (hap : r + 3 < s ∨ s + 3 < r) (hcon : ∀ M', (∀ P U, P ≤ 6 → STR M r P U → STR M' s P U) → (∀ c, (c < s ∨ s + 3 < c) → M' c = M c) → Q none sh M') : gC mX3_copyFrom d 0 0 [.ref s, .ref r] sh M Q := by
  obtain ⟨y0, y1, y2, y3⟩ := hS
  obtain ⟨x0, x1, x2, x3⟩ := hR
  refine gC_of (rt := 0) (ini := false) gm_X3_copyFrom rfl (by decide) (Nat.le_of_ble_eq_true rfl) (fun X hX => ?_)
  refine s_aload_n (q := 1) hX dX3_copyFrom_0 rfl rfl ?_
  refine s_getr (q := 4) hX dX3_copyFrom_1 rfl gfl_3_9 (by assumption) rfl ?_
  refine s_iconst (q := 5) (v := 0) hX dX3_copyFrom_4 rfl rfl ?_
  refine s_aload_n (q := 6) hX dX3_copyFrom_5 rfl rfl ?_
  refine s_getr (q := 9) hX dX3_copyFrom_6 rfl gfl_3_9 (by assumption) rfl ?_
  refine s_iconst (q := 10) (v := 0) hX dX3_copyFrom_9 rfl rfl ?_
  refine s_aload_n (q := 11) hX dX3_copyFrom_10 rfl rfl ?_
  refine s_getr (q := 14) hX dX3_copyFrom_11 rfl gfl_3_9 (by assumption) rfl ?_
  refine s_alen (q := 15) hX dX3_copyFrom_14 rfl (by assumption) (by decide) ?_
  refine s_cpy (k0 := 0) (k1 := 0) (n := 18) (q := 18) hX dX3_copyFrom_15 rfl glk_3_30 (by omega) (Nat.le_of_ble_eq_true rfl) (by assumption) (by assumption) rfl rfl rfl (by omega) (by omega) (by omega) (by omega) ?_
  refine s_aload_n (q := 19) hX dX3_copyFrom_18 rfl rfl ?_
  refine s_getr (q := 22) hX dX3_copyFrom_19 rfl gfl_3_15 (by assumption) rfl ?_
  refine s_iconst (q := 23) (v := 0) hX dX3_copyFrom_22 rfl rfl ?_
  refine s_aload_n (q := 24) hX dX3_copyFrom_23 rfl rfl ?_
  refine s_getr (q := 27) hX dX3_copyFrom_24 rfl gfl_3_15 (by assumption) rfl ?_
  refine s_iconst (q := 28) (v := 0) hX dX3_copyFrom_27 rfl rfl ?_
  refine s_aload_n (q := 29) hX dX3_copyFrom_28 rfl rfl ?_
  refine s_getr (q := 32) hX dX3_copyFrom_29 rfl gfl_3_15 (by assumption) rfl ?_
  refine s_alen (q := 33) hX dX3_copyFrom_32 rfl (by assumption) (by decide) ?_
  refine s_cpy (k0 := 0) (k1 := 0) (n := 6) (q := 36) hX dX3_copyFrom_33 rfl glk_3_30 (by omega) (Nat.le_of_ble_eq_true rfl) (by assumption) (by assumption) rfl rfl rfl (by omega) (by omega) (by omega) (by omega) ?_
  refine s_aload_n (q := 37) hX dX3_copyFrom_36 rfl rfl ?_
  refine s_getr (q := 40) hX dX3_copyFrom_37 rfl gfl_3_18 (by assumption) rfl ?_
  refine s_iconst (q := 41) (v := 0) hX dX3_copyFrom_40 rfl rfl ?_
  refine s_aload_n (q := 42) hX dX3_copyFrom_41 rfl rfl ?_
  refine s_getr (q := 45) hX dX3_copyFrom_42 rfl gfl_3_18 (by assumption) rfl ?_
  refine s_iconst (q := 46) (v := 0) hX dX3_copyFrom_45 rfl rfl ?_
  refine s_aload_n (q := 47) hX dX3_copyFrom_46 rfl rfl ?_
  refine s_getr (q := 50) hX dX3_copyFrom_47 rfl gfl_3_18 (by assumption) rfl ?_
  refine s_alen (q := 51) hX dX3_copyFrom_50 rfl (by assumption) (by decide) ?_
  refine s_cpy (k0 := 0) (k1 := 0) (n := 6) (q := 54) hX dX3_copyFrom_51 rfl glk_3_30 (by omega) (Nat.le_of_ble_eq_true rfl) (by assumption) (by assumption) rfl rfl rfl (by omega) (by omega) (by omega) (by omega) ?_
  refine s_aload_n (q := 55) hX dX3_copyFrom_54 rfl rfl ?_
  refine s_aload_n (q := 56) hX dX3_copyFrom_55 rfl rfl ?_
  refine s_geti (q := 59) hX dX3_copyFrom_56 rfl gfl_3_21 (by assumption) rfl ?_
  refine s_puti (q := 62) hX dX3_copyFrom_59 rfl gfl_3_21 (by assumption) rfl ?_
  refine s_ret hX dX3_copyFrom_62 rfl ⟨Nat.le_refl _, Nat.le_refl _, Nat.le_refl _, ?_⟩
  refine hcon _ (fun P U hP hU => ⟨?_, fun j hj => ?_, fun j hj => ?_, fun j hj => ?_⟩) (fun c h1 => ?_)
  · simp only [gsr_s, pk_us, gsr_n _ _ (show r ≠ s + 1 by omega), gsr_n _ _ (show r ≠ s + 2 by omega), gsr_n _ _ (show r ≠ s + 3 by omega)]; exact hU.1
  · simp only [gsr_n _ _ (show s + 1 ≠ s by omega), gsr_n _ _ (show s + 1 ≠ s + 2 by omega), gsr_n _ _ (show s + 1 ≠ s + 3 by omega), gsr_s]
    rw [pk_cpy_in (by omega) (by omega), show 0 + (j - 0) = j by omega]; exact hU.2.1 j hj
  · simp only [gsr_n _ _ (show s + 2 ≠ s by omega), gsr_n _ _ (show s + 2 ≠ s + 3 by omega), gsr_s, gsr_n _ _ (show r + 2 ≠ s + 1 by omega), gsr_n _ _ (show s + 2 ≠ s + 1 by omega)]
    rw [pk_cpy_in (by omega) (by omega), show 0 + (j - 0) = j by omega]; exact hU.2.2.1 j hj
  · simp only [gsr_n _ _ (show s + 3 ≠ s by omega), gsr_s, gsr_n _ _ (show r + 3 ≠ s + 1 by omega), gsr_n _ _ (show r + 3 ≠ s + 2 by omega), gsr_n _ _ (show s + 3 ≠ s + 1 by omega), gsr_n _ _ (show s + 3 ≠ s + 2 by omega)]
    rw [pk_cpy_in (by omega) (by omega), show 0 + (j - 0) = j by omega]; exact hU.2.2.2 j hj
  · simp only [gsr_n _ _ (show c ≠ s by omega), gsr_n _ _ (show c ≠ s + 1 by omega), gsr_n _ _ (show c ≠ s + 2 by omega), gsr_n _ _ (show c ≠ s + 3 by omega)]
set_option maxHeartbeats 4000000 in
set_option maxRecDepth 100000 in
theorem c_firstGrey {d t s : Nat} {T : gT} {U : gU} {sh : List gS} {M : gM} {Q : Option Value → List gS → gM → Prop} (hd : 2 ≤ d) (hT : isTown sh t) (hW : TWN M t T) (hok : T.ok) (hS : isStreet sh s) (hU : STR M s T.P U) (hUk : U.ok T.P) (hap : apart t s) (hcon : Q (some (.int (match U.fg T.P with | some i => nI i | none => -4))) sh M) : gC mX3_firstGrey d 0 0 [.ref s, .ref t] sh M Q := by
  have hT0 := hT
  have hok0 := hok
  have hS0 := hS
  obtain ⟨z0, z1, z2, z3, z4, z5, z6⟩ := hT
  obtain ⟨y0, y1, y2, y3⟩ := hS
  obtain ⟨o1, o2, o3, o4, o5, o6, o7, o8⟩ := hok
  have hap2 := hap
  unfold apart at hap2
  refine gC_of (rt := 1) (ini := false) gm_X3_firstGrey rfl (by decide) (Nat.le_of_ble_eq_true rfl) (fun X hX => ?_)
  have L : ∀ (m i : Nat), i ≤ T.P → T.P < i + m → U.fg i = none → X 2 [(0, .ref s), (1, .ref t), (2, .int (nI i))] [] sh M 0 0 := by
    intro m
    induction m with
    | zero => intro i h1 h2; omega
    | succ m ih =>
      intro i hi hm hfg
      have hh8 := hueN_lt (U.tr i)
      have hst : U.fg (i + 1) = if hueN (U.tr i) = 0 then some i else none := by
        show (match U.fg i with
          | some i => some i
          | none => if hueN (U.tr i) = 0 then some i else none) = _
        rw [hfg]
      refine s_iload_n (q := 3) hX dX3_firstGrey_2 rfl rfl ?_
      refine s_aload_n (q := 4) hX dX3_firstGrey_3 rfl rfl ?_
      refine s_geti (q := 7) hX dX3_firstGrey_4 rfl gfl_3_65 (by assumption) rfl ?_
      refine s_topi (v := nI (T.P)) hW.1 ?_
      refine s_nicmp_ge (a := i) (b := T.P) (q := 10) (r := 26) hX dX3_firstGrey_7 rfl rfl rfl rfl (by omega) (by omega) (fun c7 => ?_) (fun c7 => ?_)
      · refine s_bipush (q := 28) (v := (-4)) hX dX3_firstGrey_26 rfl rfl (by decide) ?_
        refine s_iret hX dX3_firstGrey_28 (Or.inl rfl) ⟨Nat.le_refl _, Nat.le_refl _, Nat.le_refl _, ?_⟩
        have e : i = T.P := by omega
        subst e
        rw [hfg] at hcon
        exact hcon
      · refine s_aload_n (q := 11) hX dX3_firstGrey_10 rfl rfl ?_
        refine s_iload_n (q := 12) hX dX3_firstGrey_11 rfl rfl ?_
        refine s_invv1_1 (q := 15) hX dX3_firstGrey_12 rfl glk_3_101 (by assumption) (Nat.le_of_ble_eq_true rfl) ⟨Nat.le_refl _, Nat.le_refl _⟩ (by omega) (c_hue (d := 1) (Nat.le_refl _) hS0 hU hUk o1 (by omega) ?_) 
        refine ⟨_, rfl, ?_⟩
        refine s_nif_ne (a := hueN (U.tr i)) (b := 0) (q := 18) (r := 20) hX dX3_firstGrey_15 rfl rfl rfl rfl (by omega) (by omega) (fun c15 => ?_) (fun c15 => ?_)
        · refine s_iinc (q := 23) (v := nI (i + 1)) (lv' := [(0, _), (1, _), (2, _)]) hX dX3_firstGrey_20 rfl rfl (nI_add (i) 1) (Nat.le_of_ble_eq_true rfl) rfl ?_
          refine s_goto (q := 2) hX dX3_firstGrey_23 rfl ?_
          exact ih (i + 1) (by omega) (by omega) (by rw [hst, if_neg c15])
        · refine s_iload_n (q := 19) hX dX3_firstGrey_18 rfl rfl ?_
          refine s_iret hX dX3_firstGrey_19 (Or.inl rfl) ⟨Nat.le_refl _, Nat.le_refl _, Nat.le_refl _, ?_⟩
          have e := U.fg_up (n := i + 1) (m := T.P) (by rw [hst, if_pos (by omega)]) (by omega)
          rw [e] at hcon
          exact hcon
  refine s_iconst (q := 1) (v := 0) hX dX3_firstGrey_0 rfl rfl ?_
  refine s_istore_n (q := 2) (lv' := [(0, _), (1, _), (2, _)]) hX dX3_firstGrey_1 rfl (Nat.le_of_ble_eq_true rfl) rfl ?_
  exact L (T.P + 1) 0 (by omega) (by omega) rfl
set_option maxHeartbeats 4000000 in
set_option maxRecDepth 100000 in
theorem c_countGrey {d t s : Nat} {T : gT} {U : gU} {sh : List gS} {M : gM} {Q : Option Value → List gS → gM → Prop} (hd : 2 ≤ d) (hT : isTown sh t) (hW : TWN M t T) (hok : T.ok) (hS : isStreet sh s) (hU : STR M s T.P U) (hUk : U.ok T.P) (hap : apart t s) (hcon : Q (some (.int (nI (U.gc T.P)))) sh M) : gC mX3_countGrey d 0 0 [.ref s, .ref t] sh M Q := by
  have hT0 := hT
  have hok0 := hok
  have hS0 := hS
  obtain ⟨z0, z1, z2, z3, z4, z5, z6⟩ := hT
  obtain ⟨y0, y1, y2, y3⟩ := hS
  obtain ⟨o1, o2, o3, o4, o5, o6, o7, o8⟩ := hok
  have hap2 := hap
  unfold apart at hap2
  refine gC_of (rt := 1) (ini := false) gm_X3_countGrey rfl (by decide) (Nat.le_of_ble_eq_true rfl) (fun X hX => ?_)
  have L : ∀ (m i : Nat), i ≤ T.P → T.P < i + m → X 4 [(0, .ref s), (1, .ref t), (2, .int (nI (U.gc i))), (3, .int (nI i))] [] sh M 0 0 := by
    intro m
    induction m with
    | zero => intro i h1 h2; omega
    | succ m ih =>
      intro i hi hm
      have hh8 := hueN_lt (U.tr i)
      have hgc := U.gc_le i
      have hst : U.gc (i + 1) = U.gc i + (if hueN (U.tr i) = 0 then 1 else 0) := rfl
      refine s_iload_n (q := 5) hX dX3_countGrey_4 rfl rfl ?_
      refine s_aload_n (q := 6) hX dX3_countGrey_5 rfl rfl ?_
      refine s_geti (q := 9) hX dX3_countGrey_6 rfl gfl_3_65 (by assumption) rfl ?_
      refine s_topi (v := nI (T.P)) hW.1 ?_
      refine s_nicmp_ge (a := i) (b := T.P) (q := 12) (r := 34) hX dX3_countGrey_9 rfl rfl rfl rfl (by omega) (by omega) (fun c9 => ?_) (fun c9 => ?_)
      · refine s_iload_n (q := 35) hX dX3_countGrey_34 rfl rfl ?_
        refine s_iret hX dX3_countGrey_35 (Or.inl rfl) ⟨Nat.le_refl _, Nat.le_refl _, Nat.le_refl _, ?_⟩
        have e : i = T.P := by omega
        subst e
        exact hcon
      · refine s_iload_n (q := 13) hX dX3_countGrey_12 rfl rfl ?_
        refine s_aload_n (q := 14) hX dX3_countGrey_13 rfl rfl ?_
        refine s_iload_n (q := 15) hX dX3_countGrey_14 rfl rfl ?_
        refine s_invv1_1 (q := 18) hX dX3_countGrey_15 rfl glk_3_101 (by assumption) (Nat.le_of_ble_eq_true rfl) ⟨Nat.le_refl _, Nat.le_refl _⟩ (by omega) (c_hue (d := 1) (Nat.le_refl _) hS0 hU hUk o1 (by omega) ?_) 
        refine ⟨_, rfl, ?_⟩
        refine s_nif_ne (a := hueN (U.tr i)) (b := 0) (q := 21) (r := 25) hX dX3_countGrey_18 rfl rfl rfl rfl (by omega) (by omega) (fun c18 => ?_) (fun c18 => ?_)
        · refine s_iconst (q := 26) (v := 0) hX dX3_countGrey_25 rfl rfl ?_
          refine s_iadd (q := 27) (v := nI (U.gc i + 0)) hX dX3_countGrey_26 rfl (nI_add (U.gc i) (0)) ?_
          refine s_istore_n (q := 28) (lv' := [(0, _), (1, _), (2, _), (3, _)]) hX dX3_countGrey_27 rfl (Nat.le_of_ble_eq_true rfl) rfl ?_
          refine s_iinc (q := 31) (v := nI (i + 1)) (lv' := [(0, _), (1, _), (2, _), (3, _)]) hX dX3_countGrey_28 rfl rfl (nI_add (i) 1) (Nat.le_of_ble_eq_true rfl) rfl ?_
          refine s_goto (q := 4) hX dX3_countGrey_31 rfl ?_
          have hi2 := ih (i + 1) (by omega) (by omega)
          rw [hst, if_neg (by omega)] at hi2
          exact hi2
        · refine s_iconst (q := 22) (v := 1) hX dX3_countGrey_21 rfl rfl ?_
          refine s_goto (q := 26) hX dX3_countGrey_22 rfl ?_
          refine s_iadd (q := 27) (v := nI (U.gc i + 1)) hX dX3_countGrey_26 rfl (nI_add (U.gc i) (1)) ?_
          refine s_istore_n (q := 28) (lv' := [(0, _), (1, _), (2, _), (3, _)]) hX dX3_countGrey_27 rfl (Nat.le_of_ble_eq_true rfl) rfl ?_
          refine s_iinc (q := 31) (v := nI (i + 1)) (lv' := [(0, _), (1, _), (2, _), (3, _)]) hX dX3_countGrey_28 rfl rfl (nI_add (i) 1) (Nat.le_of_ble_eq_true rfl) rfl ?_
          refine s_goto (q := 4) hX dX3_countGrey_31 rfl ?_
          have hi2 := ih (i + 1) (by omega) (by omega)
          rw [hst, if_pos (by omega)] at hi2
          exact hi2
  refine s_iconst (q := 1) (v := 0) hX dX3_countGrey_0 rfl rfl ?_
  refine s_istore_n (q := 2) (lv' := [(0, _), (1, _), (2, _)]) hX dX3_countGrey_1 rfl (Nat.le_of_ble_eq_true rfl) rfl ?_
  refine s_iconst (q := 3) (v := 0) hX dX3_countGrey_2 rfl rfl ?_
  refine s_istore_n (q := 4) (lv' := [(0, _), (1, _), (2, _), (3, _)]) hX dX3_countGrey_3 rfl (Nat.le_of_ble_eq_true rfl) rfl ?_
  exact L (T.P + 1) 0 (by omega) (by omega)
set_option maxHeartbeats 4000000 in
set_option maxRecDepth 100000 in
theorem c_worthOfAll {d t s : Nat} {T : gT} {U : gU} {sh : List gS} {M : gM} {Q : Option Value → List gS → gM → Prop} (hT : isTown sh t) (hW : TWN M t T) (hok : T.ok) (hS : isStreet sh s) (hU : STR M s T.P U) (hUk : U.ok T.P) (hap : apart t s) (hcon : Q (some (.int (sumI U.w T.P))) sh M) : gC mX3_worthOfAll d 0 0 [.ref s, .ref t] sh M Q := by
  have hT0 := hT
  have hok0 := hok
  have hS0 := hS
  obtain ⟨z0, z1, z2, z3, z4, z5, z6⟩ := hT
  obtain ⟨y0, y1, y2, y3⟩ := hS
  obtain ⟨o1, o2, o3, o4, o5, o6, o7, o8⟩ := hok
  have hap2 := hap
  unfold apart at hap2
  refine gC_of (rt := 1) (ini := false) gm_X3_worthOfAll rfl (by decide) (Nat.le_of_ble_eq_true rfl) (fun X hX => ?_)
  have L : ∀ (m i : Nat), i ≤ T.P → T.P < i + m → X 4 [(0, .ref s), (1, .ref t), (2, .int (sumI U.w i)), (3, .int (nI i))] [] sh M 0 0 := by
    intro m
    induction m with
    | zero => intro i h1 h2; omega
    | succ m ih =>
      intro i hi hm
      refine s_iload_n (q := 5) hX dX3_worthOfAll_4 rfl rfl ?_
      refine s_aload_n (q := 6) hX dX3_worthOfAll_5 rfl rfl ?_
      refine s_geti (q := 9) hX dX3_worthOfAll_6 rfl gfl_3_65 (by assumption) rfl ?_
      refine s_topi (v := nI (T.P)) hW.1 ?_
      refine s_nicmp_ge (a := i) (b := T.P) (q := 12) (r := 27) hX dX3_worthOfAll_9 rfl rfl rfl rfl (by omega) (by omega) (fun c9 => ?_) (fun c9 => ?_)
      · refine s_iload_n (q := 28) hX dX3_worthOfAll_27 rfl rfl ?_
        refine s_iret hX dX3_worthOfAll_28 (Or.inl rfl) ⟨Nat.le_refl _, Nat.le_refl _, Nat.le_refl _, ?_⟩
        have e : i = T.P := by omega
        subst e
        exact hcon
      · refine s_iload_n (q := 13) hX dX3_worthOfAll_12 rfl rfl ?_
        refine s_aload_n (q := 14) hX dX3_worthOfAll_13 rfl rfl ?_
        refine s_getr (q := 17) hX dX3_worthOfAll_14 rfl gfl_3_18 (by assumption) rfl ?_
        refine s_iload_n (q := 18) hX dX3_worthOfAll_17 rfl rfl ?_
        refine s_iald (k := i) (q := 19) hX dX3_worthOfAll_18 rfl (by assumption) rfl (by omega) (by omega) ?_
        refine s_iadd (q := 20) hX dX3_worthOfAll_19 rfl rfl ?_
        refine s_istore_n (q := 21) (lv' := [(0, _), (1, _), (2, _), (3, _)]) hX dX3_worthOfAll_20 rfl (Nat.le_of_ble_eq_true rfl) rfl ?_
        refine s_iinc (q := 24) (v := nI (i + 1)) (lv' := [(0, _), (1, _), (2, _), (3, _)]) hX dX3_worthOfAll_21 rfl rfl (nI_add (i) 1) (Nat.le_of_ble_eq_true rfl) rfl ?_
        refine s_goto (q := 4) hX dX3_worthOfAll_24 rfl ?_
        have hi2 := ih (i + 1) (by omega) (by omega)
        rw [show sumI U.w (i + 1) = sumI U.w i + U.w i from rfl, ← hU.2.2.2 i (by omega)] at hi2
        exact hi2
  refine s_iconst (q := 1) (v := 0) hX dX3_worthOfAll_0 rfl rfl ?_
  refine s_istore_n (q := 2) (lv' := [(0, _), (1, _), (2, _)]) hX dX3_worthOfAll_1 rfl (Nat.le_of_ble_eq_true rfl) rfl ?_
  refine s_iconst (q := 3) (v := 0) hX dX3_worthOfAll_2 rfl rfl ?_
  refine s_istore_n (q := 4) (lv' := [(0, _), (1, _), (2, _), (3, _)]) hX dX3_worthOfAll_3 rfl (Nat.le_of_ble_eq_true rfl) rfl ?_
  exact L (T.P + 1) 0 (by omega) (by omega)
set_option maxHeartbeats 4000000 in
set_option maxRecDepth 100000 in
theorem c_thimblesOfAll {d t s : Nat} {T : gT} {U : gU} {sh : List gS} {M : gM} {Q : Option Value → List gS → gM → Prop} (hT : isTown sh t) (hW : TWN M t T) (hok : T.ok) (hS : isStreet sh s) (hU : STR M s T.P U) (hUk : U.ok T.P) (hap : apart t s) (hcon : Q (some (.int (sumI (fun j => nI (U.h j)) (3 * T.P)))) sh M) : gC mX3_thimblesOfAll d 0 0 [.ref s, .ref t] sh M Q := by
  have hT0 := hT
  have hok0 := hok
  have hS0 := hS
  obtain ⟨z0, z1, z2, z3, z4, z5, z6⟩ := hT
  obtain ⟨y0, y1, y2, y3⟩ := hS
  obtain ⟨o1, o2, o3, o4, o5, o6, o7, o8⟩ := hok
  have hap2 := hap
  unfold apart at hap2
  refine gC_of (rt := 1) (ini := false) gm_X3_thimblesOfAll rfl (by decide) (Nat.le_of_ble_eq_true rfl) (fun X hX => ?_)
  have L : ∀ (m i : Nat), i ≤ 3 * T.P → 3 * T.P < i + m → X 4 [(0, .ref s), (1, .ref t), (2, .int (sumI (fun j => nI (U.h j)) i)), (3, .int (nI i))] [] sh M 0 0 := by
    intro m
    induction m with
    | zero => intro i h1 h2; omega
    | succ m ih =>
      intro i hi hm
      refine s_iload_n (q := 5) hX dX3_thimblesOfAll_4 rfl rfl ?_
      refine s_aload_n (q := 6) hX dX3_thimblesOfAll_5 rfl rfl ?_
      refine s_geti (q := 9) hX dX3_thimblesOfAll_6 rfl gfl_3_65 (by assumption) rfl ?_
      refine s_topi (v := nI (T.P)) hW.1 ?_
      refine s_iconst (q := 10) (v := 3) hX dX3_thimblesOfAll_9 rfl rfl ?_
      refine s_imul (q := 11) (v := nI ((T.P) * 3)) hX dX3_thimblesOfAll_10 rfl (pk_mul (T.P) (3)) ?_
      refine s_nicmp_ge (a := i) (b := (T.P) * 3) (q := 14) (r := 29) hX dX3_thimblesOfAll_11 rfl rfl rfl rfl (by omega) (by omega) (fun c11 => ?_) (fun c11 => ?_)
      · refine s_iload_n (q := 30) hX dX3_thimblesOfAll_29 rfl rfl ?_
        refine s_iret hX dX3_thimblesOfAll_30 (Or.inl rfl) ⟨Nat.le_refl _, Nat.le_refl _, Nat.le_refl _, ?_⟩
        have e : i = 3 * T.P := by omega
        rw [e]
        exact hcon
      · refine s_iload_n (q := 15) hX dX3_thimblesOfAll_14 rfl rfl ?_
        refine s_aload_n (q := 16) hX dX3_thimblesOfAll_15 rfl rfl ?_
        refine s_getr (q := 19) hX dX3_thimblesOfAll_16 rfl gfl_3_9 (by assumption) rfl ?_
        refine s_iload_n (q := 20) hX dX3_thimblesOfAll_19 rfl rfl ?_
        refine s_iald (k := i) (q := 21) hX dX3_thimblesOfAll_20 rfl (by assumption) rfl (by omega) (by omega) ?_
        refine s_iadd (q := 22) hX dX3_thimblesOfAll_21 rfl rfl ?_
        refine s_istore_n (q := 23) (lv' := [(0, _), (1, _), (2, _), (3, _)]) hX dX3_thimblesOfAll_22 rfl (Nat.le_of_ble_eq_true rfl) rfl ?_
        refine s_iinc (q := 26) (v := nI (i + 1)) (lv' := [(0, _), (1, _), (2, _), (3, _)]) hX dX3_thimblesOfAll_23 rfl rfl (nI_add (i) 1) (Nat.le_of_ble_eq_true rfl) rfl ?_
        refine s_goto (q := 4) hX dX3_thimblesOfAll_26 rfl ?_
        have hi2 := ih (i + 1) (by omega) (by omega)
        rw [show sumI (fun j => nI (U.h j)) (i + 1) = sumI (fun j => nI (U.h j)) i + nI (U.h i) from rfl, ← hU.2.1 i (by omega)] at hi2
        exact hi2
  refine s_iconst (q := 1) (v := 0) hX dX3_thimblesOfAll_0 rfl rfl ?_
  refine s_istore_n (q := 2) (lv' := [(0, _), (1, _), (2, _)]) hX dX3_thimblesOfAll_1 rfl (Nat.le_of_ble_eq_true rfl) rfl ?_
  refine s_iconst (q := 3) (v := 0) hX dX3_thimblesOfAll_2 rfl rfl ?_
  refine s_istore_n (q := 4) (lv' := [(0, _), (1, _), (2, _), (3, _)]) hX dX3_thimblesOfAll_3 rfl (Nat.le_of_ble_eq_true rfl) rfl ?_
  exact L (3 * T.P + 1) 0 (by omega) (by omega)
set_option maxHeartbeats 4000000 in
set_option maxRecDepth 100000 in
theorem c_takeFromRichest {so : Nat} {d t s : Nat} {T : gT} {U : gU} {sh : List gS} {M : gM} {Q : Option Value → List gS → gM → Prop} (hT : isTown sh t) (hW : TWN M t T) (hok : T.ok) (hS : isStreet sh s) (hU : STR M s T.P U) (hUk : U.ok T.P) (hap : apart t s) (hso : so < 3) (hP1 : 0 < T.P) (hcon0 : U.h (3 * U.mx so T.P + so) = 0 → Q (some (.int 0)) sh M) (hcon1 : ¬ U.h (3 * U.mx so T.P + so) = 0 → ∀ M', STR M' s T.P (U.tk (3 * U.mx so T.P + so)) → (∀ c, c ≠ s + 1 → M' c = M c) → Q (some (.int 1)) sh M') : gC mX3_takeFromRichest d 0 0 [.ref s, .ref t, .int (nI so)] sh M Q := by
  have hT0 := hT
  have hok0 := hok
  have hS0 := hS
  obtain ⟨z0, z1, z2, z3, z4, z5, z6⟩ := hT
  obtain ⟨y0, y1, y2, y3⟩ := hS
  obtain ⟨o1, o2, o3, o4, o5, o6, o7, o8⟩ := hok
  have hap2 := hap
  unfold apart at hap2
  refine gC_of (rt := 2) (ini := false) gm_X3_takeFromRichest rfl (by decide) (Nat.le_of_ble_eq_true rfl) (fun X hX => ?_)
  have L : ∀ (m i : Nat), 1 ≤ i → i ≤ T.P → T.P < i + m → X 5 [(0, .ref s), (1, .ref t), (2, .int (nI so)), (3, .int (nI (3 * U.mx so i + so))), (4, .int (nI i))] [] sh M 0 0 := by
    intro m
    induction m with
    | zero => intro i h0 h1 h2; omega
    | succ m ih =>
      intro i h0 hi hm
      have hmx := U.mx_lt so i h0
      have hb1 := hUk.1 (3 * U.mx so i + so) (by omega)
      have hst : U.mx so (i + 1) = if U.h (3 * U.mx so i + so) < U.h (3 * i + so) then i else U.mx so i := by
        show (if i = 0 then 0 else if U.h (3 * U.mx so i + so) < U.h (3 * i + so) then i else U.mx so i) = _
        rw [if_neg (by omega)]
      refine s_iload (q := 7) hX dX3_takeFromRichest_5 rfl rfl ?_
      refine s_aload_n (q := 8) hX dX3_takeFromRichest_7 rfl rfl ?_
      refine s_geti (q := 11) hX dX3_takeFromRichest_8 rfl gfl_3_65 (by assumption) rfl ?_
      refine s_topi (v := nI (T.P)) hW.1 ?_
      refine s_nicmp_ge (a := i) (b := T.P) (q := 14) (r := 47) hX dX3_takeFromRichest_11 rfl rfl rfl rfl (by omega) (by omega) (fun c11 => ?_) (fun c11 => ?_)
      · have e : i = T.P := by omega
        subst e
        refine s_aload_n (q := 48) hX dX3_takeFromRichest_47 rfl rfl ?_
        refine s_getr (q := 51) hX dX3_takeFromRichest_48 rfl gfl_3_9 (by assumption) rfl ?_
        refine s_iload_n (q := 52) hX dX3_takeFromRichest_51 rfl rfl ?_
        refine s_iald (k := 3 * U.mx so T.P + so) (q := 53) hX dX3_takeFromRichest_52 rfl (by assumption) rfl (by omega) (by omega) ?_
        refine s_topi (v := nI (U.h (3 * U.mx so T.P + so))) (hU.2.1 _ (by omega)) ?_
        refine s_nif_ne (a := U.h (3 * U.mx so T.P + so)) (b := 0) (q := 56) (r := 58) hX dX3_takeFromRichest_53 rfl rfl rfl rfl (by omega) (by omega) (fun c53 => ?_) (fun c53 => ?_)
        · refine s_aload_n (q := 59) hX dX3_takeFromRichest_58 rfl rfl ?_
          refine s_getr (q := 62) hX dX3_takeFromRichest_59 rfl gfl_3_9 (by assumption) rfl ?_
          refine s_iload_n (q := 63) hX dX3_takeFromRichest_62 rfl rfl ?_
          refine s_dup2 (q := 64) hX dX3_takeFromRichest_63 rfl rfl rfl ?_
          refine s_iald (k := 3 * U.mx so T.P + so) (q := 65) hX dX3_takeFromRichest_64 rfl (by assumption) rfl (by omega) (by omega) ?_
          refine s_topi (v := nI (U.h (3 * U.mx so T.P + so))) (hU.2.1 _ (by omega)) ?_
          refine s_iconst (q := 66) (v := 1) hX dX3_takeFromRichest_65 rfl rfl ?_
          refine s_isub (q := 67) (v := nI (U.h (3 * U.mx so T.P + so) - 1)) hX dX3_takeFromRichest_66 rfl (pk_sub (a := U.h (3 * U.mx so T.P + so)) (b := 1) (by omega)) ?_
          refine s_iast (k := 3 * U.mx so T.P + so) (q := 68) hX dX3_takeFromRichest_67 rfl (by assumption) rfl (by omega) (by omega) ?_
          refine s_iconst (q := 69) (v := 1) hX dX3_takeFromRichest_68 rfl rfl ?_
          refine s_iret hX dX3_takeFromRichest_69 (Or.inr ⟨rfl, Or.inr rfl⟩) ⟨Nat.le_refl _, Nat.le_refl _, Nat.le_refl _, ?_⟩
          refine hcon1 c53 _ ⟨?_, fun j hj => ?_, fun j hj => ?_, fun j hj => ?_⟩ (fun c h1 => gsr_n _ _ h1)
          · rw [gsr_n _ _ (by omega)]; exact hU.1
          · rw [gsr_s]
            show _ = nI (if j = _ then U.h j - 1 else U.h j)
            by_cases e2 : j = 3 * U.mx so T.P + so
            · rw [if_pos e2, e2, pk_us]
            · rw [if_neg e2, pk_un e2]; exact hU.2.1 j hj
          · rw [gsr_n _ _ (by omega)]; exact hU.2.2.1 j hj
          · rw [gsr_n _ _ (by omega)]; exact hU.2.2.2 j hj
        · refine s_iconst (q := 57) (v := 0) hX dX3_takeFromRichest_56 rfl rfl ?_
          refine s_iret hX dX3_takeFromRichest_57 (Or.inr ⟨rfl, Or.inl rfl⟩) ⟨Nat.le_refl _, Nat.le_refl _, Nat.le_refl _, ?_⟩
          exact hcon0 (by omega)
      · have hb2 := hUk.1 (3 * i + so) (by omega)
        refine s_aload_n (q := 15) hX dX3_takeFromRichest_14 rfl rfl ?_
        refine s_getr (q := 18) hX dX3_takeFromRichest_15 rfl gfl_3_9 (by assumption) rfl ?_
        refine s_iload (q := 20) hX dX3_takeFromRichest_18 rfl rfl ?_
        refine s_iconst (q := 21) (v := 3) hX dX3_takeFromRichest_20 rfl rfl ?_
        refine s_imul (q := 22) (v := nI (i * 3)) hX dX3_takeFromRichest_21 rfl (pk_mul (i) (3)) ?_
        refine s_iload_n (q := 23) hX dX3_takeFromRichest_22 rfl rfl ?_
        refine s_iadd (q := 24) (v := nI (i * 3 + so)) hX dX3_takeFromRichest_23 rfl (nI_add (i * 3) (so)) ?_
        refine s_iald (k := i * 3 + so) (q := 25) hX dX3_takeFromRichest_24 rfl (by assumption) rfl (by omega) (by omega) ?_
        refine s_topi (v := nI (U.h (3 * i + so))) (by rw [show i * 3 + so = 3 * i + so by omega]; exact hU.2.1 _ (by omega)) ?_
        refine s_aload_n (q := 26) hX dX3_takeFromRichest_25 rfl rfl ?_
        refine s_getr (q := 29) hX dX3_takeFromRichest_26 rfl gfl_3_9 (by assumption) rfl ?_
        refine s_iload_n (q := 30) hX dX3_takeFromRichest_29 rfl rfl ?_
        refine s_iald (k := 3 * U.mx so i + so) (q := 31) hX dX3_takeFromRichest_30 rfl (by assumption) rfl (by omega) (by omega) ?_
        refine s_topi (v := nI (U.h (3 * U.mx so i + so))) (hU.2.1 _ (by omega)) ?_
        refine s_nicmp_le (a := U.h (3 * i + so)) (b := U.h (3 * U.mx so i + so)) (q := 34) (r := 41) hX dX3_takeFromRichest_31 rfl rfl rfl rfl (by omega) (by omega) (fun c31 => ?_) (fun c31 => ?_)
        · refine s_iinc (q := 44) (v := nI (i + 1)) (lv' := [(0, _), (1, _), (2, _), (3, _), (4, _)]) hX dX3_takeFromRichest_41 rfl rfl (nI_add (i) 1) (Nat.le_of_ble_eq_true rfl) rfl ?_
          refine s_goto (q := 5) hX dX3_takeFromRichest_44 rfl ?_
          have hi2 := ih (i + 1) (by omega) (by omega) (by omega)
          rw [hst, if_neg (by omega)] at hi2
          exact hi2
        · refine s_iload (q := 36) hX dX3_takeFromRichest_34 rfl rfl ?_
          refine s_iconst (q := 37) (v := 3) hX dX3_takeFromRichest_36 rfl rfl ?_
          refine s_imul (q := 38) (v := nI (i * 3)) hX dX3_takeFromRichest_37 rfl (pk_mul (i) (3)) ?_
          refine s_iload_n (q := 39) hX dX3_takeFromRichest_38 rfl rfl ?_
          refine s_iadd (q := 40) (v := nI (i * 3 + so)) hX dX3_takeFromRichest_39 rfl (nI_add (i * 3) (so)) ?_
          refine s_istore_n (q := 41) (lv' := [(0, _), (1, _), (2, _), (3, _), (4, _)]) hX dX3_takeFromRichest_40 rfl (Nat.le_of_ble_eq_true rfl) rfl ?_
          refine s_iinc (q := 44) (v := nI (i + 1)) (lv' := [(0, _), (1, _), (2, _), (3, _), (4, _)]) hX dX3_takeFromRichest_41 rfl rfl (nI_add (i) 1) (Nat.le_of_ble_eq_true rfl) rfl ?_
          refine s_goto (q := 5) hX dX3_takeFromRichest_44 rfl ?_
          have hi2 := ih (i + 1) (by omega) (by omega) (by omega)
          rw [hst, if_pos (by omega), show 3 * i + so = i * 3 + so by omega] at hi2
          exact hi2
  refine s_iload_n (q := 1) hX dX3_takeFromRichest_0 rfl rfl ?_
  refine s_istore_n (q := 2) (lv' := [(0, _), (1, _), (2, _), (3, _)]) hX dX3_takeFromRichest_1 rfl (Nat.le_of_ble_eq_true rfl) rfl ?_
  refine s_iconst (q := 3) (v := 1) hX dX3_takeFromRichest_2 rfl rfl ?_
  refine s_istore (q := 5) (lv' := [(0, _), (1, _), (2, _), (3, _), (4, _)]) hX dX3_takeFromRichest_3 rfl (Nat.le_of_ble_eq_true rfl) rfl ?_
  have h1 := L T.P 1 (by omega) (by omega) (by omega)
  rw [show U.mx so 1 = 0 from rfl, show 3 * 0 + so = so by omega] at h1
  exact h1
