/-! TOWN: bills -/
set_option maxHeartbeats 4000000 in
set_option maxRecDepth 100000 in
theorem c_billSum {d t : Nat} {sh : List gS} {M : gM} {Q : Option Value → List gS → gM → Prop} (hT : isTown sh t) (h : Q (some (.int (M (t + 6) 0 + M (t + 6) 1 + M (t + 6) 2))) sh M) : gC mX4_billSum d 0 0 [.ref t] sh M Q := by
  obtain ⟨z0, z1, z2, z3, z4, z5, z6⟩ := hT
  refine gC_of (rt := 1) (ini := false) gm_X4_billSum rfl (by decide) (Nat.le_of_ble_eq_true rfl) (fun X hX => ?_)
  refine s_aload_n (q := 1) hX dX4_billSum_0 rfl rfl ?_
  refine s_getr (q := 4) hX dX4_billSum_1 rfl gfl_4_27 (by assumption) rfl ?_
  refine s_iconst (q := 5) (v := 0) hX dX4_billSum_4 rfl rfl ?_
  refine s_iald (k := 0) (q := 6) hX dX4_billSum_5 rfl (by assumption) rfl (by omega) (by omega) ?_
  refine s_aload_n (q := 7) hX dX4_billSum_6 rfl rfl ?_
  refine s_getr (q := 10) hX dX4_billSum_7 rfl gfl_4_27 (by assumption) rfl ?_
  refine s_iconst (q := 11) (v := 1) hX dX4_billSum_10 rfl rfl ?_
  refine s_iald (k := 1) (q := 12) hX dX4_billSum_11 rfl (by assumption) rfl (by omega) (by omega) ?_
  refine s_iadd (q := 13) hX dX4_billSum_12 rfl rfl ?_
  refine s_aload_n (q := 14) hX dX4_billSum_13 rfl rfl ?_
  refine s_getr (q := 17) hX dX4_billSum_14 rfl gfl_4_27 (by assumption) rfl ?_
  refine s_iconst (q := 18) (v := 2) hX dX4_billSum_17 rfl rfl ?_
  refine s_iald (k := 2) (q := 19) hX dX4_billSum_18 rfl (by assumption) rfl (by omega) (by omega) ?_
  refine s_iadd (q := 20) hX dX4_billSum_19 rfl rfl ?_
  refine s_iret hX dX4_billSum_20 (Or.inl rfl) ⟨Nat.le_refl _, Nat.le_refl _, Nat.le_refl _, ?_⟩
  exact h
set_option maxHeartbeats 4000000 in
set_option maxRecDepth 100000 in
theorem c_writeBill {d t i k : Nat} {T : gT} {sh : List gS} {M : gM} {Q : Option Value → List gS → gM → Prop} (hd : 1 ≤ d) (hT : isTown sh t) (hW : TWN M t T) (hok : T.ok) (hi : i < T.P) (hk : k < T.D) (h : ∀ g, (∀ s, s < 3 → g s = nI (T.cs i k s)) → Q none sh (gsr M (t + 6) g)) : gC mX4_writeBill d 0 0 [.ref t, .int (nI i), .int (nI k)] sh M Q := by
  have hT0 := hT
  obtain ⟨z0, z1, z2, z3, z4, z5, z6⟩ := hT
  obtain ⟨w1, w2, w3, w4, w5, w6, w7, w8⟩ := hW
  obtain ⟨o1, o2, o3, o4, o5, o6, o7, o8⟩ := hok
  have hc0 := w6 (3 * k + 0) (by omega)
  have hc1 := w6 (3 * k + 1) (by omega)
  have hc2 := w6 (3 * k + 2) (by omega)
  have b0 := o6 (3 * k + 0) (by omega)
  have b1 := o6 (3 * k + 1) (by omega)
  have b2 := o6 (3 * k + 2) (by omega)
  have hkd := w4 i hi
  have bkd := o4 i hi
  refine gC_of (rt := 0) (ini := false) gm_X4_writeBill rfl (by decide) (Nat.le_of_ble_eq_true rfl) (fun X hX => ?_)
  refine s_aload_n (q := 1) hX dX4_writeBill_0 rfl rfl ?_
  refine s_getr (q := 4) hX dX4_writeBill_1 rfl gfl_4_18 (by assumption) rfl ?_
  refine s_iload_n (q := 5) hX dX4_writeBill_4 rfl rfl ?_
  refine s_iconst (q := 6) (v := 3) hX dX4_writeBill_5 rfl rfl ?_
  refine s_imul (q := 7) (v := nI (k * 3)) hX dX4_writeBill_6 rfl (pk_mul (k) (3)) ?_
  refine s_aload_n (q := 8) hX dX4_writeBill_7 rfl rfl ?_
  refine s_getr (q := 11) hX dX4_writeBill_8 rfl gfl_4_27 (by assumption) rfl ?_
  refine s_iconst (q := 12) (v := 0) hX dX4_writeBill_11 rfl rfl ?_
  refine s_iconst (q := 13) (v := 3) hX dX4_writeBill_12 rfl rfl ?_
  refine s_cpy (k0 := k * 3) (k1 := 0) (n := 3) (q := 16) hX dX4_writeBill_13 rfl glk_4_57 (by omega) (Nat.le_of_ble_eq_true rfl) (by assumption) (by assumption) rfl rfl rfl (by omega) (by omega) (by omega) (by omega) ?_
  generalize hg : va_cpy (M (t + 3)) (M (t + 6)) (k * 3) 0 3 = g
  have g0 : g 0 = nI (T.co (3 * k + 0)) := by rw [← hg, pk_cpy_in (by omega) (by omega), ← hc0]; congr 1; omega
  have g1 : g 1 = nI (T.co (3 * k + 1)) := by rw [← hg, pk_cpy_in (by omega) (by omega), ← hc1]; congr 1; omega
  have g2 : g 2 = nI (T.co (3 * k + 2)) := by rw [← hg, pk_cpy_in (by omega) (by omega), ← hc2]; congr 1; omega
  refine s_aload_n (q := 17) hX dX4_writeBill_16 rfl rfl ?_
  refine s_getr (q := 20) hX dX4_writeBill_17 rfl gfl_4_9 (by assumption) rfl ?_
  refine s_iload_n (q := 21) hX dX4_writeBill_20 rfl rfl ?_
  refine s_iald (k := i) (q := 22) hX dX4_writeBill_21 rfl (by assumption) rfl (by omega) (by omega) ?_
  refine s_topi (v := nI (T.kd i)) (by rw [gsr_n _ _ (by omega)]; exact hkd) ?_
  refine s_iconst (q := 23) (v := 3) hX dX4_writeBill_22 rfl rfl ?_
  refine s_nicmp_ne (a := T.kd i) (b := 3) (q := 26) (r := 34) hX dX4_writeBill_23 rfl rfl rfl rfl (by omega) (by omega) (fun c23 => ?_) (fun c23 => ?_)
  · refine s_ret hX dX4_writeBill_34 rfl ⟨Nat.le_refl _, Nat.le_refl _, Nat.le_refl _, ?_⟩
    refine h g (fun s hs => co_3 (P := fun s => g s = nI (T.cs i k s)) ?_ ?_ ?_ hs) <;> (clear hX h w1 w2 w3 w4 w5 w6 w7 w8 o1 o2 o3 o4 o5 o6 o7 o8; simp only [gT.cs, pcs, upd]; first | (simp_all; done) | (simp_all; omega) | (repeat' split) <;> first | (simp_all; done) | (simp_all; omega) | omega)
  · refine s_aload_n (q := 27) hX dX4_writeBill_26 rfl rfl ?_
    refine s_invv0_1 (q := 30) hX dX4_writeBill_27 rfl glk_4_63 (by assumption) (Nat.le_of_ble_eq_true rfl) ⟨Nat.le_refl _, Nat.le_refl _⟩ (by omega) (c_billSum hT0 ?_) 
    refine ⟨_, rfl, ?_⟩
    refine s_topi (v := nI (T.co (3 * k + 0) + T.co (3 * k + 1) + T.co (3 * k + 2))) (by rw [gsr_s, g0, g1, g2, nI_add, nI_add]) ?_
    refine s_iconst (q := 31) (v := 1) hX dX4_writeBill_30 rfl rfl ?_
    refine s_nicmp_gt (a := T.co (3 * k + 0) + T.co (3 * k + 1) + T.co (3 * k + 2)) (b := 1) (q := 34) (r := 35) hX dX4_writeBill_31 rfl rfl rfl rfl (by omega) (by omega) (fun c31 => ?_) (fun c31 => ?_)
    · refine s_iconst (q := 36) (v := 0) hX dX4_writeBill_35 rfl rfl ?_
      refine s_istore_n (q := 37) (lv' := [(0, _), (1, _), (2, _), (3, _)]) hX dX4_writeBill_36 rfl (Nat.le_of_ble_eq_true rfl) rfl ?_
      refine s_iload_n (q := 38) hX dX4_writeBill_37 rfl rfl ?_
      refine s_iconst (q := 39) (v := 3) hX dX4_writeBill_38 rfl rfl ?_
      refine s_icmp_ge_f (q := 42) (r := 68) hX dX4_writeBill_39 rfl rfl (by decide) ?_
      refine s_aload_n (q := 43) hX dX4_writeBill_42 rfl rfl ?_
      refine s_getr (q := 46) hX dX4_writeBill_43 rfl gfl_4_27 (by assumption) rfl ?_
      refine s_iload_n (q := 47) hX dX4_writeBill_46 rfl rfl ?_
      refine s_iald (k := 0) (q := 48) hX dX4_writeBill_47 rfl (by assumption) rfl (by omega) (by omega) ?_
      refine s_topi (v := nI (T.co (3 * k + 0))) (by rw [gsr_s]; exact g0) ?_
      refine s_nif_le (a := T.co (3 * k + 0)) (b := 0) (q := 51) (r := 62) hX dX4_writeBill_48 rfl rfl rfl rfl (by omega) (by omega) (fun c48 => ?_) (fun c48 => ?_)
      · refine s_iinc (q := 65) (v := 1) (lv' := [(0, _), (1, _), (2, _), (3, _)]) hX dX4_writeBill_62 rfl rfl (by decide) (Nat.le_of_ble_eq_true rfl) rfl ?_
        refine s_goto (q := 37) hX dX4_writeBill_65 rfl ?_
        refine s_iload_n (q := 38) hX dX4_writeBill_37 rfl rfl ?_
        refine s_iconst (q := 39) (v := 3) hX dX4_writeBill_38 rfl rfl ?_
        refine s_icmp_ge_f (q := 42) (r := 68) hX dX4_writeBill_39 rfl rfl (by decide) ?_
        refine s_aload_n (q := 43) hX dX4_writeBill_42 rfl rfl ?_
        refine s_getr (q := 46) hX dX4_writeBill_43 rfl gfl_4_27 (by assumption) rfl ?_
        refine s_iload_n (q := 47) hX dX4_writeBill_46 rfl rfl ?_
        refine s_iald (k := 1) (q := 48) hX dX4_writeBill_47 rfl (by assumption) rfl (by omega) (by omega) ?_
        refine s_topi (v := nI (T.co (3 * k + 1))) (by rw [gsr_s]; exact g1) ?_
        refine s_nif_le (a := T.co (3 * k + 1)) (b := 0) (q := 51) (r := 62) hX dX4_writeBill_48 rfl rfl rfl rfl (by omega) (by omega) (fun c48_1 => ?_) (fun c48_1 => ?_)
        · refine s_iinc (q := 65) (v := 2) (lv' := [(0, _), (1, _), (2, _), (3, _)]) hX dX4_writeBill_62 rfl rfl (by decide) (Nat.le_of_ble_eq_true rfl) rfl ?_
          refine s_goto (q := 37) hX dX4_writeBill_65 rfl ?_
          refine s_iload_n (q := 38) hX dX4_writeBill_37 rfl rfl ?_
          refine s_iconst (q := 39) (v := 3) hX dX4_writeBill_38 rfl rfl ?_
          refine s_icmp_ge_f (q := 42) (r := 68) hX dX4_writeBill_39 rfl rfl (by decide) ?_
          refine s_aload_n (q := 43) hX dX4_writeBill_42 rfl rfl ?_
          refine s_getr (q := 46) hX dX4_writeBill_43 rfl gfl_4_27 (by assumption) rfl ?_
          refine s_iload_n (q := 47) hX dX4_writeBill_46 rfl rfl ?_
          refine s_iald (k := 2) (q := 48) hX dX4_writeBill_47 rfl (by assumption) rfl (by omega) (by omega) ?_
          refine s_topi (v := nI (T.co (3 * k + 2))) (by rw [gsr_s]; exact g2) ?_
          refine s_nif_le (a := T.co (3 * k + 2)) (b := 0) (q := 51) (r := 62) hX dX4_writeBill_48 rfl rfl rfl rfl (by omega) (by omega) (fun c48_2 => ?_) (fun c48_2 => ?_)
          · refine s_iinc (q := 65) (v := 3) (lv' := [(0, _), (1, _), (2, _), (3, _)]) hX dX4_writeBill_62 rfl rfl (by decide) (Nat.le_of_ble_eq_true rfl) rfl ?_
            refine s_goto (q := 37) hX dX4_writeBill_65 rfl ?_
            refine s_iload_n (q := 38) hX dX4_writeBill_37 rfl rfl ?_
            refine s_iconst (q := 39) (v := 3) hX dX4_writeBill_38 rfl rfl ?_
            refine s_icmp_ge_t (q := 42) (r := 68) hX dX4_writeBill_39 rfl rfl (by decide) ?_
            refine s_ret hX dX4_writeBill_68 rfl ⟨Nat.le_refl _, Nat.le_refl _, Nat.le_refl _, ?_⟩
            refine h g (fun s hs => co_3 (P := fun s => g s = nI (T.cs i k s)) ?_ ?_ ?_ hs) <;> (clear hX h w1 w2 w3 w4 w5 w6 w7 w8 o1 o2 o3 o4 o5 o6 o7 o8; simp only [gT.cs, pcs, upd]; first | (simp_all; done) | (simp_all; omega) | (repeat' split) <;> first | (simp_all; done) | (simp_all; omega) | omega)
          · refine s_aload_n (q := 52) hX dX4_writeBill_51 rfl rfl ?_
            refine s_getr (q := 55) hX dX4_writeBill_52 rfl gfl_4_27 (by assumption) rfl ?_
            refine s_iload_n (q := 56) hX dX4_writeBill_55 rfl rfl ?_
            refine s_dup2 (q := 57) hX dX4_writeBill_56 rfl rfl rfl ?_
            refine s_iald (k := 2) (q := 58) hX dX4_writeBill_57 rfl (by assumption) rfl (by omega) (by omega) ?_
            refine s_topi (v := nI (T.co (3 * k + 2))) (by rw [gsr_s]; exact g2) ?_
            refine s_iconst (q := 59) (v := 1) hX dX4_writeBill_58 rfl rfl ?_
            refine s_isub (q := 60) (v := nI (T.co (3 * k + 2) - 1)) hX dX4_writeBill_59 rfl (pk_sub (a := T.co (3 * k + 2)) (b := 1) (by omega)) ?_
            refine s_iast (k := 2) (q := 61) hX dX4_writeBill_60 rfl (by assumption) rfl (by omega) (by omega) ?_
            refine s_ret hX dX4_writeBill_61 rfl ⟨Nat.le_refl _, Nat.le_refl _, Nat.le_refl _, ?_⟩
            rw [gsr_gsr, gsr_s]
            refine h _ (fun s hs => co_3 (P := fun s => upd g _ _ s = nI (T.cs i k s)) ?_ ?_ ?_ hs) <;> (clear hX h w1 w2 w3 w4 w5 w6 w7 w8 o1 o2 o3 o4 o5 o6 o7 o8; simp only [gT.cs, pcs, upd]; first | (simp_all; done) | (simp_all; omega) | (repeat' split) <;> first | (simp_all; done) | (simp_all; omega) | omega)
        · refine s_aload_n (q := 52) hX dX4_writeBill_51 rfl rfl ?_
          refine s_getr (q := 55) hX dX4_writeBill_52 rfl gfl_4_27 (by assumption) rfl ?_
          refine s_iload_n (q := 56) hX dX4_writeBill_55 rfl rfl ?_
          refine s_dup2 (q := 57) hX dX4_writeBill_56 rfl rfl rfl ?_
          refine s_iald (k := 1) (q := 58) hX dX4_writeBill_57 rfl (by assumption) rfl (by omega) (by omega) ?_
          refine s_topi (v := nI (T.co (3 * k + 1))) (by rw [gsr_s]; exact g1) ?_
          refine s_iconst (q := 59) (v := 1) hX dX4_writeBill_58 rfl rfl ?_
          refine s_isub (q := 60) (v := nI (T.co (3 * k + 1) - 1)) hX dX4_writeBill_59 rfl (pk_sub (a := T.co (3 * k + 1)) (b := 1) (by omega)) ?_
          refine s_iast (k := 1) (q := 61) hX dX4_writeBill_60 rfl (by assumption) rfl (by omega) (by omega) ?_
          refine s_ret hX dX4_writeBill_61 rfl ⟨Nat.le_refl _, Nat.le_refl _, Nat.le_refl _, ?_⟩
          rw [gsr_gsr, gsr_s]
          refine h _ (fun s hs => co_3 (P := fun s => upd g _ _ s = nI (T.cs i k s)) ?_ ?_ ?_ hs) <;> (clear hX h w1 w2 w3 w4 w5 w6 w7 w8 o1 o2 o3 o4 o5 o6 o7 o8; simp only [gT.cs, pcs, upd]; first | (simp_all; done) | (simp_all; omega) | (repeat' split) <;> first | (simp_all; done) | (simp_all; omega) | omega)
      · refine s_aload_n (q := 52) hX dX4_writeBill_51 rfl rfl ?_
        refine s_getr (q := 55) hX dX4_writeBill_52 rfl gfl_4_27 (by assumption) rfl ?_
        refine s_iload_n (q := 56) hX dX4_writeBill_55 rfl rfl ?_
        refine s_dup2 (q := 57) hX dX4_writeBill_56 rfl rfl rfl ?_
        refine s_iald (k := 0) (q := 58) hX dX4_writeBill_57 rfl (by assumption) rfl (by omega) (by omega) ?_
        refine s_topi (v := nI (T.co (3 * k + 0))) (by rw [gsr_s]; exact g0) ?_
        refine s_iconst (q := 59) (v := 1) hX dX4_writeBill_58 rfl rfl ?_
        refine s_isub (q := 60) (v := nI (T.co (3 * k + 0) - 1)) hX dX4_writeBill_59 rfl (pk_sub (a := T.co (3 * k + 0)) (b := 1) (by omega)) ?_
        refine s_iast (k := 0) (q := 61) hX dX4_writeBill_60 rfl (by assumption) rfl (by omega) (by omega) ?_
        refine s_ret hX dX4_writeBill_61 rfl ⟨Nat.le_refl _, Nat.le_refl _, Nat.le_refl _, ?_⟩
        rw [gsr_gsr, gsr_s]
        refine h _ (fun s hs => co_3 (P := fun s => upd g _ _ s = nI (T.cs i k s)) ?_ ?_ ?_ hs) <;> (clear hX h w1 w2 w3 w4 w5 w6 w7 w8 o1 o2 o3 o4 o5 o6 o7 o8; simp only [gT.cs, pcs, upd]; first | (simp_all; done) | (simp_all; omega) | (repeat' split) <;> first | (simp_all; done) | (simp_all; omega) | omega)
    · refine s_ret hX dX4_writeBill_34 rfl ⟨Nat.le_refl _, Nat.le_refl _, Nat.le_refl _, ?_⟩
      refine h g (fun s hs => co_3 (P := fun s => g s = nI (T.cs i k s)) ?_ ?_ ?_ hs) <;> (clear hX h w1 w2 w3 w4 w5 w6 w7 w8 o1 o2 o3 o4 o5 o6 o7 o8; simp only [gT.cs, pcs, upd]; first | (simp_all; done) | (simp_all; omega) | (repeat' split) <;> first | (simp_all; done) | (simp_all; omega) | omega)
set_option maxHeartbeats 4000000 in
set_option maxRecDepth 100000 in
theorem c_pay {d t f a n : Nat} {sh : List gS} {M : gM} {Q : Option Value → List gS → gM → Prop} (hT : isTown sh t) (hf : sh[f]? = some (.inr (.inl (0, n)))) (hn : n ≤ 1000) (ha : a + 3 ≤ n) (hft : f ≠ t + 6) (h : Q none sh (gsr M f (pay3 (M f) (M (t + 6)) a))) : gC mX4_pay d 0 0 [.ref t, .ref f, .int (nI a)] sh M Q := by
  obtain ⟨z0, z1, z2, z3, z4, z5, z6⟩ := hT
  refine gC_of (rt := 0) (ini := false) gm_X4_pay rfl (by decide) (Nat.le_of_ble_eq_true rfl) (fun X hX => ?_)
  refine s_iconst (q := 1) (v := 0) hX dX4_pay_0 rfl rfl ?_
  refine s_istore_n (q := 2) (lv' := [(0, _), (1, _), (2, _), (3, _)]) hX dX4_pay_1 rfl (Nat.le_of_ble_eq_true rfl) rfl ?_
  refine s_iload_n (q := 3) hX dX4_pay_2 rfl rfl ?_
  refine s_iconst (q := 4) (v := 3) hX dX4_pay_3 rfl rfl ?_
  refine s_icmp_ge_f (q := 7) (r := 27) hX dX4_pay_4 rfl rfl (by decide) ?_
  refine s_aload_n (q := 8) hX dX4_pay_7 rfl rfl ?_
  refine s_iload_n (q := 9) hX dX4_pay_8 rfl rfl ?_
  refine s_iload_n (q := 10) hX dX4_pay_9 rfl rfl ?_
  refine s_iadd (q := 11) (v := nI (a + 0)) hX dX4_pay_10 rfl (nI_add (a) (0)) ?_
  refine s_dup2 (q := 12) hX dX4_pay_11 rfl rfl rfl ?_
  refine s_iald (k := a + 0) (q := 13) hX dX4_pay_12 rfl (by assumption) rfl (by omega) (by omega) ?_
  refine s_aload_n (q := 14) hX dX4_pay_13 rfl rfl ?_
  refine s_getr (q := 17) hX dX4_pay_14 rfl gfl_4_27 (by assumption) rfl ?_
  refine s_iload_n (q := 18) hX dX4_pay_17 rfl rfl ?_
  refine s_iald (k := 0) (q := 19) hX dX4_pay_18 rfl (by assumption) rfl (by omega) (by omega) ?_
  refine s_isub (q := 20) hX dX4_pay_19 rfl rfl ?_
  refine s_iast (k := a + 0) (q := 21) hX dX4_pay_20 rfl (by assumption) rfl (by omega) (by omega) ?_
  refine s_iinc (q := 24) (v := 1) (lv' := [(0, _), (1, _), (2, _), (3, _)]) hX dX4_pay_21 rfl rfl (by decide) (Nat.le_of_ble_eq_true rfl) rfl ?_
  refine s_goto (q := 2) hX dX4_pay_24 rfl ?_
  refine s_iload_n (q := 3) hX dX4_pay_2 rfl rfl ?_
  refine s_iconst (q := 4) (v := 3) hX dX4_pay_3 rfl rfl ?_
  refine s_icmp_ge_f (q := 7) (r := 27) hX dX4_pay_4 rfl rfl (by decide) ?_
  refine s_aload_n (q := 8) hX dX4_pay_7 rfl rfl ?_
  refine s_iload_n (q := 9) hX dX4_pay_8 rfl rfl ?_
  refine s_iload_n (q := 10) hX dX4_pay_9 rfl rfl ?_
  refine s_iadd (q := 11) (v := nI (a + 1)) hX dX4_pay_10 rfl (nI_add (a) (1)) ?_
  refine s_dup2 (q := 12) hX dX4_pay_11 rfl rfl rfl ?_
  refine s_iald (k := a + 1) (q := 13) hX dX4_pay_12 rfl (by assumption) rfl (by omega) (by omega) ?_
  refine s_aload_n (q := 14) hX dX4_pay_13 rfl rfl ?_
  refine s_getr (q := 17) hX dX4_pay_14 rfl gfl_4_27 (by assumption) rfl ?_
  refine s_iload_n (q := 18) hX dX4_pay_17 rfl rfl ?_
  refine s_iald (k := 1) (q := 19) hX dX4_pay_18 rfl (by assumption) rfl (by omega) (by omega) ?_
  refine s_isub (q := 20) hX dX4_pay_19 rfl rfl ?_
  refine s_iast (k := a + 1) (q := 21) hX dX4_pay_20 rfl (by assumption) rfl (by omega) (by omega) ?_
  refine s_iinc (q := 24) (v := 2) (lv' := [(0, _), (1, _), (2, _), (3, _)]) hX dX4_pay_21 rfl rfl (by decide) (Nat.le_of_ble_eq_true rfl) rfl ?_
  refine s_goto (q := 2) hX dX4_pay_24 rfl ?_
  refine s_iload_n (q := 3) hX dX4_pay_2 rfl rfl ?_
  refine s_iconst (q := 4) (v := 3) hX dX4_pay_3 rfl rfl ?_
  refine s_icmp_ge_f (q := 7) (r := 27) hX dX4_pay_4 rfl rfl (by decide) ?_
  refine s_aload_n (q := 8) hX dX4_pay_7 rfl rfl ?_
  refine s_iload_n (q := 9) hX dX4_pay_8 rfl rfl ?_
  refine s_iload_n (q := 10) hX dX4_pay_9 rfl rfl ?_
  refine s_iadd (q := 11) (v := nI (a + 2)) hX dX4_pay_10 rfl (nI_add (a) (2)) ?_
  refine s_dup2 (q := 12) hX dX4_pay_11 rfl rfl rfl ?_
  refine s_iald (k := a + 2) (q := 13) hX dX4_pay_12 rfl (by assumption) rfl (by omega) (by omega) ?_
  refine s_aload_n (q := 14) hX dX4_pay_13 rfl rfl ?_
  refine s_getr (q := 17) hX dX4_pay_14 rfl gfl_4_27 (by assumption) rfl ?_
  refine s_iload_n (q := 18) hX dX4_pay_17 rfl rfl ?_
  refine s_iald (k := 2) (q := 19) hX dX4_pay_18 rfl (by assumption) rfl (by omega) (by omega) ?_
  refine s_isub (q := 20) hX dX4_pay_19 rfl rfl ?_
  refine s_iast (k := a + 2) (q := 21) hX dX4_pay_20 rfl (by assumption) rfl (by omega) (by omega) ?_
  refine s_iinc (q := 24) (v := 3) (lv' := [(0, _), (1, _), (2, _), (3, _)]) hX dX4_pay_21 rfl rfl (by decide) (Nat.le_of_ble_eq_true rfl) rfl ?_
  refine s_goto (q := 2) hX dX4_pay_24 rfl ?_
  refine s_iload_n (q := 3) hX dX4_pay_2 rfl rfl ?_
  refine s_iconst (q := 4) (v := 3) hX dX4_pay_3 rfl rfl ?_
  refine s_icmp_ge_t (q := 7) (r := 27) hX dX4_pay_4 rfl rfl (by decide) ?_
  refine s_ret hX dX4_pay_27 rfl ⟨Nat.le_refl _, Nat.le_refl _, Nat.le_refl _, ?_⟩
  refine gqe h ?_
  simp only [gsr_gsr, gsr_s, gsr_n _ _ (Ne.symm hft)]
  congr 1
  funext j
  simp only [upd, pay3, Nat.add_zero]
  by_cases e0 : j = a
  · subst e0; simp
  · by_cases e1 : j = a + 1
    · subst e1; simp
    · by_cases e2 : j = a + 2
      · subst e2; simp
      · simp [e0, e1, e2]
set_option maxHeartbeats 4000000 in
set_option maxRecDepth 100000 in
theorem c_tfade {d t i f a n x : Nat} {T : gT} {sh : List gS} {M : gM} {Q : Option Value → List gS → gM → Prop} (hT : isTown sh t) (hW : TWN M t T) (hok : T.ok) (hi : i < T.P) (hf : sh[f]? = some (.inr (.inl (0, n)))) (hn : n ≤ 1000) (ha : a + 3 ≤ n) (hx : M f (a + 2) = nI x) (hx9 : x < 1000) (h : Q none sh (if T.kd i = 2 ∧ 0 < x then gsr M f (upd (M f) (a + 2) (nI (x - 1))) else M)) : gC mX4_fade d 0 0 [.ref t, .int (nI i), .ref f, .int (nI a)] sh M Q := by
  obtain ⟨z0, z1, z2, z3, z4, z5, z6⟩ := hT
  obtain ⟨w1, w2, w3, w4, w5, w6, w7, w8⟩ := hW
  obtain ⟨o1, o2, o3, o4, o5, o6, o7, o8⟩ := hok
  have hkd := w4 i hi
  have bkd := o4 i hi
  refine gC_of (rt := 0) (ini := false) gm_X4_fade rfl (by decide) (Nat.le_of_ble_eq_true rfl) (fun X hX => ?_)
  refine s_aload_n (q := 1) hX dX4_fade_0 rfl rfl ?_
  refine s_getr (q := 4) hX dX4_fade_1 rfl gfl_4_9 (by assumption) rfl ?_
  refine s_iload_n (q := 5) hX dX4_fade_4 rfl rfl ?_
  refine s_iald (k := i) (q := 6) hX dX4_fade_5 rfl (by assumption) rfl (by omega) (by omega) ?_
  refine s_topi (v := nI (T.kd i)) hkd ?_
  refine s_iconst (q := 7) (v := 2) hX dX4_fade_6 rfl rfl ?_
  refine s_nicmp_ne (a := T.kd i) (b := 2) (q := 10) (r := 27) hX dX4_fade_7 rfl rfl rfl rfl (by omega) (by omega) (fun c7 => ?_) (fun c7 => ?_)
  · refine s_ret hX dX4_fade_27 rfl ⟨Nat.le_refl _, Nat.le_refl _, Nat.le_refl _, ?_⟩
    refine gqe h ?_
    first | rw [if_pos ⟨by omega, by omega⟩] | rw [if_neg (by omega)]
  · refine s_aload_n (q := 11) hX dX4_fade_10 rfl rfl ?_
    refine s_iload_n (q := 12) hX dX4_fade_11 rfl rfl ?_
    refine s_iconst (q := 13) (v := 2) hX dX4_fade_12 rfl rfl ?_
    refine s_iadd (q := 14) (v := nI (a + 2)) hX dX4_fade_13 rfl (nI_add (a) (2)) ?_
    refine s_iald (k := a + 2) (q := 15) hX dX4_fade_14 rfl (by assumption) rfl (by omega) (by omega) ?_
    refine s_topi (v := nI (x)) hx ?_
    refine s_nif_le (a := x) (b := 0) (q := 18) (r := 27) hX dX4_fade_15 rfl rfl rfl rfl (by omega) (by omega) (fun c15 => ?_) (fun c15 => ?_)
    · refine s_ret hX dX4_fade_27 rfl ⟨Nat.le_refl _, Nat.le_refl _, Nat.le_refl _, ?_⟩
      refine gqe h ?_
      first | rw [if_pos ⟨by omega, by omega⟩] | rw [if_neg (by omega)]
    · refine s_aload_n (q := 19) hX dX4_fade_18 rfl rfl ?_
      refine s_iload_n (q := 20) hX dX4_fade_19 rfl rfl ?_
      refine s_iconst (q := 21) (v := 2) hX dX4_fade_20 rfl rfl ?_
      refine s_iadd (q := 22) (v := nI (a + 2)) hX dX4_fade_21 rfl (nI_add (a) (2)) ?_
      refine s_dup2 (q := 23) hX dX4_fade_22 rfl rfl rfl ?_
      refine s_iald (k := a + 2) (q := 24) hX dX4_fade_23 rfl (by assumption) rfl (by omega) (by omega) ?_
      refine s_topi (v := nI (x)) hx ?_
      refine s_iconst (q := 25) (v := 1) hX dX4_fade_24 rfl rfl ?_
      refine s_isub (q := 26) (v := nI (x - 1)) hX dX4_fade_25 rfl (pk_sub (a := x) (b := 1) (by omega)) ?_
      refine s_iast (k := a + 2) (q := 27) hX dX4_fade_26 rfl (by assumption) rfl (by omega) (by omega) ?_
      refine s_ret hX dX4_fade_27 rfl ⟨Nat.le_refl _, Nat.le_refl _, Nat.le_refl _, ?_⟩
      refine gqe h ?_
      first | rw [if_pos ⟨by omega, by omega⟩] | rw [if_neg (by omega)]
theorem gsub_lt {a b c e : Nat} (h1 : a < 1000) (h2 : b ≤ a) (h3 : c < 1000) (h4 : e ≤ c) : nI a - nI b ≤ nI c - nI e ↔ a - b ≤ c - e := by
  rw [pk_sub h2, pk_sub h4]; exact nI_leI (by omega) (by omega)
set_option maxHeartbeats 4000000 in
set_option maxRecDepth 100000 in
theorem c_mix {d t f a n sc : Nat} {c h : Nat → Nat} {sh : List gS} {M : gM} {Q : Option Value → List gS → gM → Prop} (hT : isTown sh t) (hf : sh[f]? = some (.inr (.inl (0, n)))) (hn : n ≤ 1000) (ha : a + 3 ≤ n) (hft : f ≠ t + 6) (hsc : sc < 3) (hb : ∀ s, s < 3 → M (t + 6) s = nI (c s)) (hh : ∀ s, s < 3 → M f (a + s) = nI (h s)) (hl : ∀ s, s < 3 → h s < 1000) (hc : ∀ s, s < 3 → c s = if s = sc then h s + 1 else c s) (hle : ∀ s, s < 3 → s ≠ sc → c s ≤ h s) (hcon : ∀ g, (2 ≤ h (rich (mnc c h) h) - mnc c h (rich (mnc c h) h) → ∀ s, s < 3 → g s = nI (if s = rich (mnc c h) h then mnc c h s + 2 else mnc c h s)) → Q (some (.int (if 2 ≤ h (rich (mnc c h) h) - mnc c h (rich (mnc c h) h) then 1 else 0))) sh (gsr M (t + 6) g)) : gC mX4_mix d 0 0 [.ref t, .ref f, .int (nI a), .int (nI sc)] sh M Q := by
  obtain ⟨z0, z1, z2, z3, z4, z5, z6⟩ := hT
  have hm : ∀ s, s < 3 → mnc c h s = if s = sc then c s - 1 else c s := by
    intro s hs
    have := hc s hs
    have := hle s hs
    unfold mnc
    by_cases e : s = sc
    · rw [if_pos e] at *; rw [if_pos (by omega)]; omega
    · rw [if_neg e]; rw [if_neg (by have := hle s hs e; omega)]
  have hmle : ∀ s, s < 3 → mnc c h s ≤ h s := by
    intro s hs
    unfold mnc
    split <;> omega
  generalize hmm : mnc c h = m at *
  refine gC_of (rt := 2) (ini := false) gm_X4_mix rfl (by decide) (Nat.le_of_ble_eq_true rfl) (fun X hX => ?_)
  have hg : ∀ s, s < 3 → upd (M (t + 6)) sc (nI (c sc) - 1) s = nI (m s) := by
    intro s hs
    rw [hm s hs]
    by_cases e : s = sc
    · subst e
      have := hc s hs
      rw [if_pos rfl] at this
      rw [if_pos rfl]
      show (if s = s then _ else _) = _
      rw [if_pos rfl]
      exact pk_sub (a := c s) (b := 1) (by omega)
    · rw [if_neg e]
      show (if s = sc then _ else _) = _
      rw [if_neg e]
      exact hb s hs
  have l0 := hl 0 (by omega)
  have l1 := hl 1 (by omega)
  have l2 := hl 2 (by omega)
  have m0 := hmle 0 (by omega)
  have m1 := hmle 1 (by omega)
  have m2 := hmle 2 (by omega)
  refine s_aload_n (q := 1) hX dX4_mix_0 rfl rfl ?_
  refine s_getr (q := 4) hX dX4_mix_1 rfl gfl_4_27 (by assumption) rfl ?_
  refine s_iload_n (q := 5) hX dX4_mix_4 rfl rfl ?_
  refine s_dup2 (q := 6) hX dX4_mix_5 rfl rfl rfl ?_
  refine s_iald (k := sc) (q := 7) hX dX4_mix_6 rfl (by assumption) rfl (by omega) (by omega) ?_
  refine s_topi (v := nI (c sc)) (hb sc hsc) ?_
  refine s_iconst (q := 8) (v := 1) hX dX4_mix_7 rfl rfl ?_
  refine s_isub (q := 9) hX dX4_mix_8 rfl rfl ?_
  refine s_iast (k := sc) (q := 10) hX dX4_mix_9 rfl (by assumption) rfl (by omega) (by omega) ?_
  generalize upd (M (t + 6)) sc (nI (c sc) - 1) = g at hg ⊢
  refine s_iconst (q := 11) (v := 0) hX dX4_mix_10 rfl rfl ?_
  refine s_istore (q := 13) (lv' := [(0, _), (1, _), (2, _), (3, _), (4, _)]) hX dX4_mix_11 rfl (Nat.le_of_ble_eq_true rfl) rfl ?_
  refine s_iconst (q := 14) (v := 1) hX dX4_mix_13 rfl rfl ?_
  refine s_istore (q := 16) (lv' := [(0, _), (1, _), (2, _), (3, _), (4, _), (5, _)]) hX dX4_mix_14 rfl (Nat.le_of_ble_eq_true rfl) rfl ?_
  refine s_iload (q := 18) hX dX4_mix_16 rfl rfl ?_
  refine s_iconst (q := 19) (v := 3) hX dX4_mix_18 rfl rfl ?_
  refine s_icmp_ge_f (q := 22) (r := 63) hX dX4_mix_19 rfl rfl (by decide) ?_
  refine s_aload_n (q := 23) hX dX4_mix_22 rfl rfl ?_
  refine s_iload_n (q := 24) hX dX4_mix_23 rfl rfl ?_
  refine s_iload (q := 26) hX dX4_mix_24 rfl rfl ?_
  refine s_iadd (q := 27) (v := nI (a + 1)) hX dX4_mix_26 rfl (nI_add (a) (1)) ?_
  refine s_iald (k := a + 1) (q := 28) hX dX4_mix_27 rfl (by assumption) rfl (by omega) (by omega) ?_
  refine s_topi (v := nI (h 1)) (by rw [gsr_n _ _ hft]; exact hh 1 (by omega)) ?_
  refine s_aload_n (q := 29) hX dX4_mix_28 rfl rfl ?_
  refine s_getr (q := 32) hX dX4_mix_29 rfl gfl_4_27 (by assumption) rfl ?_
  refine s_iload (q := 34) hX dX4_mix_32 rfl rfl ?_
  refine s_iald (k := 1) (q := 35) hX dX4_mix_34 rfl (by assumption) rfl (by omega) (by omega) ?_
  refine s_topi (v := nI (m 1)) (by rw [gsr_s]; exact hg 1 (by omega)) ?_
  refine s_isub (q := 36) (v := nI (h 1 - m 1)) hX dX4_mix_35 rfl (pk_sub (by omega)) ?_
  refine s_aload_n (q := 37) hX dX4_mix_36 rfl rfl ?_
  refine s_iload_n (q := 38) hX dX4_mix_37 rfl rfl ?_
  refine s_iload (q := 40) hX dX4_mix_38 rfl rfl ?_
  refine s_iadd (q := 41) (v := nI (a + 0)) hX dX4_mix_40 rfl (nI_add (a) (0)) ?_
  refine s_iald (k := a + 0) (q := 42) hX dX4_mix_41 rfl (by assumption) rfl (by omega) (by omega) ?_
  refine s_topi (v := nI (h 0)) (by rw [gsr_n _ _ hft]; exact hh 0 (by omega)) ?_
  refine s_aload_n (q := 43) hX dX4_mix_42 rfl rfl ?_
  refine s_getr (q := 46) hX dX4_mix_43 rfl gfl_4_27 (by assumption) rfl ?_
  refine s_iload (q := 48) hX dX4_mix_46 rfl rfl ?_
  refine s_iald (k := 0) (q := 49) hX dX4_mix_48 rfl (by assumption) rfl (by omega) (by omega) ?_
  refine s_topi (v := nI (m 0)) (by rw [gsr_s]; exact hg 0 (by omega)) ?_
  refine s_isub (q := 50) (v := nI (h 0 - m 0)) hX dX4_mix_49 rfl (pk_sub (by omega)) ?_
  refine s_nicmp_le (a := h 1 - m 1) (b := h 0 - m 0) (q := 53) (r := 57) hX dX4_mix_50 rfl rfl rfl rfl (by omega) (by omega) (fun c50 => ?_) (fun c50 => ?_)
  · refine s_iinc (q := 60) (v := 2) (lv' := [(0, _), (1, _), (2, _), (3, _), (4, _), (5, _)]) hX dX4_mix_57 rfl rfl (by decide) (Nat.le_of_ble_eq_true rfl) rfl ?_
    refine s_goto (q := 16) hX dX4_mix_60 rfl ?_
    refine s_iload (q := 18) hX dX4_mix_16 rfl rfl ?_
    refine s_iconst (q := 19) (v := 3) hX dX4_mix_18 rfl rfl ?_
    refine s_icmp_ge_f (q := 22) (r := 63) hX dX4_mix_19 rfl rfl (by decide) ?_
    refine s_aload_n (q := 23) hX dX4_mix_22 rfl rfl ?_
    refine s_iload_n (q := 24) hX dX4_mix_23 rfl rfl ?_
    refine s_iload (q := 26) hX dX4_mix_24 rfl rfl ?_
    refine s_iadd (q := 27) (v := nI (a + 2)) hX dX4_mix_26 rfl (nI_add (a) (2)) ?_
    refine s_iald (k := a + 2) (q := 28) hX dX4_mix_27 rfl (by assumption) rfl (by omega) (by omega) ?_
    refine s_topi (v := nI (h 2)) (by rw [gsr_n _ _ hft]; exact hh 2 (by omega)) ?_
    refine s_aload_n (q := 29) hX dX4_mix_28 rfl rfl ?_
    refine s_getr (q := 32) hX dX4_mix_29 rfl gfl_4_27 (by assumption) rfl ?_
    refine s_iload (q := 34) hX dX4_mix_32 rfl rfl ?_
    refine s_iald (k := 2) (q := 35) hX dX4_mix_34 rfl (by assumption) rfl (by omega) (by omega) ?_
    refine s_topi (v := nI (m 2)) (by rw [gsr_s]; exact hg 2 (by omega)) ?_
    refine s_isub (q := 36) (v := nI (h 2 - m 2)) hX dX4_mix_35 rfl (pk_sub (by omega)) ?_
    refine s_aload_n (q := 37) hX dX4_mix_36 rfl rfl ?_
    refine s_iload_n (q := 38) hX dX4_mix_37 rfl rfl ?_
    refine s_iload (q := 40) hX dX4_mix_38 rfl rfl ?_
    refine s_iadd (q := 41) (v := nI (a + 0)) hX dX4_mix_40 rfl (nI_add (a) (0)) ?_
    refine s_iald (k := a + 0) (q := 42) hX dX4_mix_41 rfl (by assumption) rfl (by omega) (by omega) ?_
    refine s_topi (v := nI (h 0)) (by rw [gsr_n _ _ hft]; exact hh 0 (by omega)) ?_
    refine s_aload_n (q := 43) hX dX4_mix_42 rfl rfl ?_
    refine s_getr (q := 46) hX dX4_mix_43 rfl gfl_4_27 (by assumption) rfl ?_
    refine s_iload (q := 48) hX dX4_mix_46 rfl rfl ?_
    refine s_iald (k := 0) (q := 49) hX dX4_mix_48 rfl (by assumption) rfl (by omega) (by omega) ?_
    refine s_topi (v := nI (m 0)) (by rw [gsr_s]; exact hg 0 (by omega)) ?_
    refine s_isub (q := 50) (v := nI (h 0 - m 0)) hX dX4_mix_49 rfl (pk_sub (by omega)) ?_
    refine s_nicmp_le (a := h 2 - m 2) (b := h 0 - m 0) (q := 53) (r := 57) hX dX4_mix_50 rfl rfl rfl rfl (by omega) (by omega) (fun c50_1 => ?_) (fun c50_1 => ?_)
    · refine s_iinc (q := 60) (v := 3) (lv' := [(0, _), (1, _), (2, _), (3, _), (4, _), (5, _)]) hX dX4_mix_57 rfl rfl (by decide) (Nat.le_of_ble_eq_true rfl) rfl ?_
      refine s_goto (q := 16) hX dX4_mix_60 rfl ?_
      refine s_iload (q := 18) hX dX4_mix_16 rfl rfl ?_
      refine s_iconst (q := 19) (v := 3) hX dX4_mix_18 rfl rfl ?_
      refine s_icmp_ge_t (q := 22) (r := 63) hX dX4_mix_19 rfl rfl (by decide) ?_
      refine s_aload_n (q := 64) hX dX4_mix_63 rfl rfl ?_
      refine s_iload_n (q := 65) hX dX4_mix_64 rfl rfl ?_
      refine s_iload (q := 67) hX dX4_mix_65 rfl rfl ?_
      refine s_iadd (q := 68) (v := nI (a + 0)) hX dX4_mix_67 rfl (nI_add (a) (0)) ?_
      refine s_iald (k := a + 0) (q := 69) hX dX4_mix_68 rfl (by assumption) rfl (by omega) (by omega) ?_
      refine s_topi (v := nI (h 0)) (by rw [gsr_n _ _ hft]; exact hh 0 (by omega)) ?_
      refine s_aload_n (q := 70) hX dX4_mix_69 rfl rfl ?_
      refine s_getr (q := 73) hX dX4_mix_70 rfl gfl_4_27 (by assumption) rfl ?_
      refine s_iload (q := 75) hX dX4_mix_73 rfl rfl ?_
      refine s_iald (k := 0) (q := 76) hX dX4_mix_75 rfl (by assumption) rfl (by omega) (by omega) ?_
      refine s_topi (v := nI (m 0)) (by rw [gsr_s]; exact hg 0 (by omega)) ?_
      refine s_isub (q := 77) (v := nI (h 0 - m 0)) hX dX4_mix_76 rfl (pk_sub (by omega)) ?_
      refine s_iconst (q := 78) (v := 2) hX dX4_mix_77 rfl rfl ?_
      refine s_nicmp_ge (a := h 0 - m 0) (b := 2) (q := 81) (r := 83) hX dX4_mix_78 rfl rfl rfl rfl (by omega) (by omega) (fun c78 => ?_) (fun c78 => ?_)
      · refine s_aload_n (q := 84) hX dX4_mix_83 rfl rfl ?_
        refine s_getr (q := 87) hX dX4_mix_84 rfl gfl_4_27 (by assumption) rfl ?_
        refine s_iload (q := 89) hX dX4_mix_87 rfl rfl ?_
        refine s_dup2 (q := 90) hX dX4_mix_89 rfl rfl rfl ?_
        refine s_iald (k := 0) (q := 91) hX dX4_mix_90 rfl (by assumption) rfl (by omega) (by omega) ?_
        refine s_topi (v := nI (m 0)) (by rw [gsr_s]; exact hg 0 (by omega)) ?_
        refine s_iconst (q := 92) (v := 2) hX dX4_mix_91 rfl rfl ?_
        refine s_iadd (q := 93) (v := nI (m 0 + 2)) hX dX4_mix_92 rfl (nI_add (m 0) (2)) ?_
        refine s_iast (k := 0) (q := 94) hX dX4_mix_93 rfl (by assumption) rfl (by omega) (by omega) ?_
        refine s_iconst (q := 95) (v := 1) hX dX4_mix_94 rfl rfl ?_
        refine s_iret hX dX4_mix_95 (Or.inr ⟨rfl, Or.inr rfl⟩) ⟨Nat.le_refl _, Nat.le_refl _, Nat.le_refl _, ?_⟩
        have hr : rich m h = 0 := by unfold rich; (repeat' split) <;> omega
        rw [gsr_gsr, gsr_s]
        refine gqv (hcon _ (fun z s hs => ?_)) ?_ rfl
        · rw [hr]
          show (if s = 0 then _ else _) = _
          by_cases e : s = 0
          · subst e; rw [if_pos rfl, if_pos rfl]
          · rw [if_neg e, if_neg e]; exact hg s hs
        · rw [hr, if_pos (by omega)]
      · refine s_iconst (q := 82) (v := 0) hX dX4_mix_81 rfl rfl ?_
        refine s_iret hX dX4_mix_82 (Or.inr ⟨rfl, Or.inl rfl⟩) ⟨Nat.le_refl _, Nat.le_refl _, Nat.le_refl _, ?_⟩
        have hr : rich m h = 0 := by unfold rich; (repeat' split) <;> omega
        refine gqv (hcon g (fun z => ?_)) ?_ rfl
        · rw [hr] at z; omega
        · rw [hr, if_neg (by omega)]
    · refine s_iload (q := 55) hX dX4_mix_53 rfl rfl ?_
      refine s_istore (q := 57) (lv' := [(0, _), (1, _), (2, _), (3, _), (4, _), (5, _)]) hX dX4_mix_55 rfl (Nat.le_of_ble_eq_true rfl) rfl ?_
      refine s_iinc (q := 60) (v := 3) (lv' := [(0, _), (1, _), (2, _), (3, _), (4, _), (5, _)]) hX dX4_mix_57 rfl rfl (by decide) (Nat.le_of_ble_eq_true rfl) rfl ?_
      refine s_goto (q := 16) hX dX4_mix_60 rfl ?_
      refine s_iload (q := 18) hX dX4_mix_16 rfl rfl ?_
      refine s_iconst (q := 19) (v := 3) hX dX4_mix_18 rfl rfl ?_
      refine s_icmp_ge_t (q := 22) (r := 63) hX dX4_mix_19 rfl rfl (by decide) ?_
      refine s_aload_n (q := 64) hX dX4_mix_63 rfl rfl ?_
      refine s_iload_n (q := 65) hX dX4_mix_64 rfl rfl ?_
      refine s_iload (q := 67) hX dX4_mix_65 rfl rfl ?_
      refine s_iadd (q := 68) (v := nI (a + 2)) hX dX4_mix_67 rfl (nI_add (a) (2)) ?_
      refine s_iald (k := a + 2) (q := 69) hX dX4_mix_68 rfl (by assumption) rfl (by omega) (by omega) ?_
      refine s_topi (v := nI (h 2)) (by rw [gsr_n _ _ hft]; exact hh 2 (by omega)) ?_
      refine s_aload_n (q := 70) hX dX4_mix_69 rfl rfl ?_
      refine s_getr (q := 73) hX dX4_mix_70 rfl gfl_4_27 (by assumption) rfl ?_
      refine s_iload (q := 75) hX dX4_mix_73 rfl rfl ?_
      refine s_iald (k := 2) (q := 76) hX dX4_mix_75 rfl (by assumption) rfl (by omega) (by omega) ?_
      refine s_topi (v := nI (m 2)) (by rw [gsr_s]; exact hg 2 (by omega)) ?_
      refine s_isub (q := 77) (v := nI (h 2 - m 2)) hX dX4_mix_76 rfl (pk_sub (by omega)) ?_
      refine s_iconst (q := 78) (v := 2) hX dX4_mix_77 rfl rfl ?_
      refine s_nicmp_ge (a := h 2 - m 2) (b := 2) (q := 81) (r := 83) hX dX4_mix_78 rfl rfl rfl rfl (by omega) (by omega) (fun c78_1 => ?_) (fun c78_1 => ?_)
      · refine s_aload_n (q := 84) hX dX4_mix_83 rfl rfl ?_
        refine s_getr (q := 87) hX dX4_mix_84 rfl gfl_4_27 (by assumption) rfl ?_
        refine s_iload (q := 89) hX dX4_mix_87 rfl rfl ?_
        refine s_dup2 (q := 90) hX dX4_mix_89 rfl rfl rfl ?_
        refine s_iald (k := 2) (q := 91) hX dX4_mix_90 rfl (by assumption) rfl (by omega) (by omega) ?_
        refine s_topi (v := nI (m 2)) (by rw [gsr_s]; exact hg 2 (by omega)) ?_
        refine s_iconst (q := 92) (v := 2) hX dX4_mix_91 rfl rfl ?_
        refine s_iadd (q := 93) (v := nI (m 2 + 2)) hX dX4_mix_92 rfl (nI_add (m 2) (2)) ?_
        refine s_iast (k := 2) (q := 94) hX dX4_mix_93 rfl (by assumption) rfl (by omega) (by omega) ?_
        refine s_iconst (q := 95) (v := 1) hX dX4_mix_94 rfl rfl ?_
        refine s_iret hX dX4_mix_95 (Or.inr ⟨rfl, Or.inr rfl⟩) ⟨Nat.le_refl _, Nat.le_refl _, Nat.le_refl _, ?_⟩
        have hr : rich m h = 2 := by unfold rich; (repeat' split) <;> omega
        rw [gsr_gsr, gsr_s]
        refine gqv (hcon _ (fun z s hs => ?_)) ?_ rfl
        · rw [hr]
          show (if s = 2 then _ else _) = _
          by_cases e : s = 2
          · subst e; rw [if_pos rfl, if_pos rfl]
          · rw [if_neg e, if_neg e]; exact hg s hs
        · rw [hr, if_pos (by omega)]
      · refine s_iconst (q := 82) (v := 0) hX dX4_mix_81 rfl rfl ?_
        refine s_iret hX dX4_mix_82 (Or.inr ⟨rfl, Or.inl rfl⟩) ⟨Nat.le_refl _, Nat.le_refl _, Nat.le_refl _, ?_⟩
        have hr : rich m h = 2 := by unfold rich; (repeat' split) <;> omega
        refine gqv (hcon g (fun z => ?_)) ?_ rfl
        · rw [hr] at z; omega
        · rw [hr, if_neg (by omega)]
  · refine s_iload (q := 55) hX dX4_mix_53 rfl rfl ?_
    refine s_istore (q := 57) (lv' := [(0, _), (1, _), (2, _), (3, _), (4, _), (5, _)]) hX dX4_mix_55 rfl (Nat.le_of_ble_eq_true rfl) rfl ?_
    refine s_iinc (q := 60) (v := 2) (lv' := [(0, _), (1, _), (2, _), (3, _), (4, _), (5, _)]) hX dX4_mix_57 rfl rfl (by decide) (Nat.le_of_ble_eq_true rfl) rfl ?_
    refine s_goto (q := 16) hX dX4_mix_60 rfl ?_
    refine s_iload (q := 18) hX dX4_mix_16 rfl rfl ?_
    refine s_iconst (q := 19) (v := 3) hX dX4_mix_18 rfl rfl ?_
    refine s_icmp_ge_f (q := 22) (r := 63) hX dX4_mix_19 rfl rfl (by decide) ?_
    refine s_aload_n (q := 23) hX dX4_mix_22 rfl rfl ?_
    refine s_iload_n (q := 24) hX dX4_mix_23 rfl rfl ?_
    refine s_iload (q := 26) hX dX4_mix_24 rfl rfl ?_
    refine s_iadd (q := 27) (v := nI (a + 2)) hX dX4_mix_26 rfl (nI_add (a) (2)) ?_
    refine s_iald (k := a + 2) (q := 28) hX dX4_mix_27 rfl (by assumption) rfl (by omega) (by omega) ?_
    refine s_topi (v := nI (h 2)) (by rw [gsr_n _ _ hft]; exact hh 2 (by omega)) ?_
    refine s_aload_n (q := 29) hX dX4_mix_28 rfl rfl ?_
    refine s_getr (q := 32) hX dX4_mix_29 rfl gfl_4_27 (by assumption) rfl ?_
    refine s_iload (q := 34) hX dX4_mix_32 rfl rfl ?_
    refine s_iald (k := 2) (q := 35) hX dX4_mix_34 rfl (by assumption) rfl (by omega) (by omega) ?_
    refine s_topi (v := nI (m 2)) (by rw [gsr_s]; exact hg 2 (by omega)) ?_
    refine s_isub (q := 36) (v := nI (h 2 - m 2)) hX dX4_mix_35 rfl (pk_sub (by omega)) ?_
    refine s_aload_n (q := 37) hX dX4_mix_36 rfl rfl ?_
    refine s_iload_n (q := 38) hX dX4_mix_37 rfl rfl ?_
    refine s_iload (q := 40) hX dX4_mix_38 rfl rfl ?_
    refine s_iadd (q := 41) (v := nI (a + 1)) hX dX4_mix_40 rfl (nI_add (a) (1)) ?_
    refine s_iald (k := a + 1) (q := 42) hX dX4_mix_41 rfl (by assumption) rfl (by omega) (by omega) ?_
    refine s_topi (v := nI (h 1)) (by rw [gsr_n _ _ hft]; exact hh 1 (by omega)) ?_
    refine s_aload_n (q := 43) hX dX4_mix_42 rfl rfl ?_
    refine s_getr (q := 46) hX dX4_mix_43 rfl gfl_4_27 (by assumption) rfl ?_
    refine s_iload (q := 48) hX dX4_mix_46 rfl rfl ?_
    refine s_iald (k := 1) (q := 49) hX dX4_mix_48 rfl (by assumption) rfl (by omega) (by omega) ?_
    refine s_topi (v := nI (m 1)) (by rw [gsr_s]; exact hg 1 (by omega)) ?_
    refine s_isub (q := 50) (v := nI (h 1 - m 1)) hX dX4_mix_49 rfl (pk_sub (by omega)) ?_
    refine s_nicmp_le (a := h 2 - m 2) (b := h 1 - m 1) (q := 53) (r := 57) hX dX4_mix_50 rfl rfl rfl rfl (by omega) (by omega) (fun c50_2 => ?_) (fun c50_2 => ?_)
    · refine s_iinc (q := 60) (v := 3) (lv' := [(0, _), (1, _), (2, _), (3, _), (4, _), (5, _)]) hX dX4_mix_57 rfl rfl (by decide) (Nat.le_of_ble_eq_true rfl) rfl ?_
      refine s_goto (q := 16) hX dX4_mix_60 rfl ?_
      refine s_iload (q := 18) hX dX4_mix_16 rfl rfl ?_
      refine s_iconst (q := 19) (v := 3) hX dX4_mix_18 rfl rfl ?_
      refine s_icmp_ge_t (q := 22) (r := 63) hX dX4_mix_19 rfl rfl (by decide) ?_
      refine s_aload_n (q := 64) hX dX4_mix_63 rfl rfl ?_
      refine s_iload_n (q := 65) hX dX4_mix_64 rfl rfl ?_
      refine s_iload (q := 67) hX dX4_mix_65 rfl rfl ?_
      refine s_iadd (q := 68) (v := nI (a + 1)) hX dX4_mix_67 rfl (nI_add (a) (1)) ?_
      refine s_iald (k := a + 1) (q := 69) hX dX4_mix_68 rfl (by assumption) rfl (by omega) (by omega) ?_
      refine s_topi (v := nI (h 1)) (by rw [gsr_n _ _ hft]; exact hh 1 (by omega)) ?_
      refine s_aload_n (q := 70) hX dX4_mix_69 rfl rfl ?_
      refine s_getr (q := 73) hX dX4_mix_70 rfl gfl_4_27 (by assumption) rfl ?_
      refine s_iload (q := 75) hX dX4_mix_73 rfl rfl ?_
      refine s_iald (k := 1) (q := 76) hX dX4_mix_75 rfl (by assumption) rfl (by omega) (by omega) ?_
      refine s_topi (v := nI (m 1)) (by rw [gsr_s]; exact hg 1 (by omega)) ?_
      refine s_isub (q := 77) (v := nI (h 1 - m 1)) hX dX4_mix_76 rfl (pk_sub (by omega)) ?_
      refine s_iconst (q := 78) (v := 2) hX dX4_mix_77 rfl rfl ?_
      refine s_nicmp_ge (a := h 1 - m 1) (b := 2) (q := 81) (r := 83) hX dX4_mix_78 rfl rfl rfl rfl (by omega) (by omega) (fun c78_2 => ?_) (fun c78_2 => ?_)
      · refine s_aload_n (q := 84) hX dX4_mix_83 rfl rfl ?_
        refine s_getr (q := 87) hX dX4_mix_84 rfl gfl_4_27 (by assumption) rfl ?_
        refine s_iload (q := 89) hX dX4_mix_87 rfl rfl ?_
        refine s_dup2 (q := 90) hX dX4_mix_89 rfl rfl rfl ?_
        refine s_iald (k := 1) (q := 91) hX dX4_mix_90 rfl (by assumption) rfl (by omega) (by omega) ?_
        refine s_topi (v := nI (m 1)) (by rw [gsr_s]; exact hg 1 (by omega)) ?_
        refine s_iconst (q := 92) (v := 2) hX dX4_mix_91 rfl rfl ?_
        refine s_iadd (q := 93) (v := nI (m 1 + 2)) hX dX4_mix_92 rfl (nI_add (m 1) (2)) ?_
        refine s_iast (k := 1) (q := 94) hX dX4_mix_93 rfl (by assumption) rfl (by omega) (by omega) ?_
        refine s_iconst (q := 95) (v := 1) hX dX4_mix_94 rfl rfl ?_
        refine s_iret hX dX4_mix_95 (Or.inr ⟨rfl, Or.inr rfl⟩) ⟨Nat.le_refl _, Nat.le_refl _, Nat.le_refl _, ?_⟩
        have hr : rich m h = 1 := by unfold rich; (repeat' split) <;> omega
        rw [gsr_gsr, gsr_s]
        refine gqv (hcon _ (fun z s hs => ?_)) ?_ rfl
        · rw [hr]
          show (if s = 1 then _ else _) = _
          by_cases e : s = 1
          · subst e; rw [if_pos rfl, if_pos rfl]
          · rw [if_neg e, if_neg e]; exact hg s hs
        · rw [hr, if_pos (by omega)]
      · refine s_iconst (q := 82) (v := 0) hX dX4_mix_81 rfl rfl ?_
        refine s_iret hX dX4_mix_82 (Or.inr ⟨rfl, Or.inl rfl⟩) ⟨Nat.le_refl _, Nat.le_refl _, Nat.le_refl _, ?_⟩
        have hr : rich m h = 1 := by unfold rich; (repeat' split) <;> omega
        refine gqv (hcon g (fun z => ?_)) ?_ rfl
        · rw [hr] at z; omega
        · rw [hr, if_neg (by omega)]
    · refine s_iload (q := 55) hX dX4_mix_53 rfl rfl ?_
      refine s_istore (q := 57) (lv' := [(0, _), (1, _), (2, _), (3, _), (4, _), (5, _)]) hX dX4_mix_55 rfl (Nat.le_of_ble_eq_true rfl) rfl ?_
      refine s_iinc (q := 60) (v := 3) (lv' := [(0, _), (1, _), (2, _), (3, _), (4, _), (5, _)]) hX dX4_mix_57 rfl rfl (by decide) (Nat.le_of_ble_eq_true rfl) rfl ?_
      refine s_goto (q := 16) hX dX4_mix_60 rfl ?_
      refine s_iload (q := 18) hX dX4_mix_16 rfl rfl ?_
      refine s_iconst (q := 19) (v := 3) hX dX4_mix_18 rfl rfl ?_
      refine s_icmp_ge_t (q := 22) (r := 63) hX dX4_mix_19 rfl rfl (by decide) ?_
      refine s_aload_n (q := 64) hX dX4_mix_63 rfl rfl ?_
      refine s_iload_n (q := 65) hX dX4_mix_64 rfl rfl ?_
      refine s_iload (q := 67) hX dX4_mix_65 rfl rfl ?_
      refine s_iadd (q := 68) (v := nI (a + 2)) hX dX4_mix_67 rfl (nI_add (a) (2)) ?_
      refine s_iald (k := a + 2) (q := 69) hX dX4_mix_68 rfl (by assumption) rfl (by omega) (by omega) ?_
      refine s_topi (v := nI (h 2)) (by rw [gsr_n _ _ hft]; exact hh 2 (by omega)) ?_
      refine s_aload_n (q := 70) hX dX4_mix_69 rfl rfl ?_
      refine s_getr (q := 73) hX dX4_mix_70 rfl gfl_4_27 (by assumption) rfl ?_
      refine s_iload (q := 75) hX dX4_mix_73 rfl rfl ?_
      refine s_iald (k := 2) (q := 76) hX dX4_mix_75 rfl (by assumption) rfl (by omega) (by omega) ?_
      refine s_topi (v := nI (m 2)) (by rw [gsr_s]; exact hg 2 (by omega)) ?_
      refine s_isub (q := 77) (v := nI (h 2 - m 2)) hX dX4_mix_76 rfl (pk_sub (by omega)) ?_
      refine s_iconst (q := 78) (v := 2) hX dX4_mix_77 rfl rfl ?_
      refine s_nicmp_ge (a := h 2 - m 2) (b := 2) (q := 81) (r := 83) hX dX4_mix_78 rfl rfl rfl rfl (by omega) (by omega) (fun c78_3 => ?_) (fun c78_3 => ?_)
      · refine s_aload_n (q := 84) hX dX4_mix_83 rfl rfl ?_
        refine s_getr (q := 87) hX dX4_mix_84 rfl gfl_4_27 (by assumption) rfl ?_
        refine s_iload (q := 89) hX dX4_mix_87 rfl rfl ?_
        refine s_dup2 (q := 90) hX dX4_mix_89 rfl rfl rfl ?_
        refine s_iald (k := 2) (q := 91) hX dX4_mix_90 rfl (by assumption) rfl (by omega) (by omega) ?_
        refine s_topi (v := nI (m 2)) (by rw [gsr_s]; exact hg 2 (by omega)) ?_
        refine s_iconst (q := 92) (v := 2) hX dX4_mix_91 rfl rfl ?_
        refine s_iadd (q := 93) (v := nI (m 2 + 2)) hX dX4_mix_92 rfl (nI_add (m 2) (2)) ?_
        refine s_iast (k := 2) (q := 94) hX dX4_mix_93 rfl (by assumption) rfl (by omega) (by omega) ?_
        refine s_iconst (q := 95) (v := 1) hX dX4_mix_94 rfl rfl ?_
        refine s_iret hX dX4_mix_95 (Or.inr ⟨rfl, Or.inr rfl⟩) ⟨Nat.le_refl _, Nat.le_refl _, Nat.le_refl _, ?_⟩
        have hr : rich m h = 2 := by unfold rich; (repeat' split) <;> omega
        rw [gsr_gsr, gsr_s]
        refine gqv (hcon _ (fun z s hs => ?_)) ?_ rfl
        · rw [hr]
          show (if s = 2 then _ else _) = _
          by_cases e : s = 2
          · subst e; rw [if_pos rfl, if_pos rfl]
          · rw [if_neg e, if_neg e]; exact hg s hs
        · rw [hr, if_pos (by omega)]
      · refine s_iconst (q := 82) (v := 0) hX dX4_mix_81 rfl rfl ?_
        refine s_iret hX dX4_mix_82 (Or.inr ⟨rfl, Or.inl rfl⟩) ⟨Nat.le_refl _, Nat.le_refl _, Nat.le_refl _, ?_⟩
        have hr : rich m h = 2 := by unfold rich; (repeat' split) <;> omega
        refine gqv (hcon g (fun z => ?_)) ?_ rfl
        · rw [hr] at z; omega
        · rw [hr, if_neg (by omega)]
