/-! TOWN: bills -/
set_option maxHeartbeats 4000000 in
set_option maxRecDepth 100000 in
theorem c_billSum {d t : Nat} {sh : List gS} {M : gM} {Q : Option Value → List gS → gM → Prop} (hT : isTown sh t) (h : Q (some (.int (M (t + 6) 0 + M (t + 6) 1 + M (t + 6) 2))) sh M) : gC mX4_billSum d 0 0 [.ref t] sh M Q := by
  obtain ⟨z0, z1, z2, z3, z4, z5, z6⟩ := hT
  refine gC_of (rt := 1) (ini := false) gm_X4_billSum rfl (by decide) (Nat.le_of_ble_eq_true rfl) (fun X hX => ?_)
  refine s_aload_n (q := 1) hX dX4_billSum_0 rfl rfl ?_
  refine s_getr (q := 4) hX dX4_billSum_1 rfl gfl_4_27 (by assumption) rfl ?_
  refine s_iconst (q := 5) (v := 0) hX dX4_billSum_4 rfl rfl ?_
  refine s_iald (k := 0) (q := 6) hX dX4_billSum_5 rfl (by assumption) rfl (by omega) (by omega) ?_
  refine s_aload_n (q := 7) hX dX4_billSum_6 rfl rfl ?_
  refine s_getr (q := 10) hX dX4_billSum_7 rfl gfl_4_27 (by assumption) rfl ?_
  refine s_iconst (q := 11) (v := 1) hX dX4_billSum_10 rfl rfl ?_
  refine s_iald (k := 1) (q := 12) hX dX4_billSum_11 rfl (by assumption) rfl (by omega) (by omega) ?_
  refine s_iadd (q := 13) hX dX4_billSum_12 rfl rfl ?_
  refine s_aload_n (q := 14) hX dX4_billSum_13 rfl rfl ?_
  refine s_getr (q := 17) hX dX4_billSum_14 rfl gfl_4_27 (by assumption) rfl ?_
  refine s_iconst (q := 18) (v := 2) hX dX4_billSum_17 rfl rfl ?_
  refine s_iald (k := 2) (q := 19) hX dX4_billSum_18 rfl (by assumption) rfl (by omega) (by omega) ?_
  refine s_iadd (q := 20) hX dX4_billSum_19 rfl rfl ?_
  refine s_iret hX dX4_billSum_20 (Or.inl rfl) ⟨Nat.le_refl _, Nat.le_refl _, Nat.le_refl _, ?_⟩
  exact h
set_option maxHeartbeats 4000000 in
set_option maxRecDepth 100000 in
theorem c_writeBill {d t i k : Nat} {T : gT} {sh : List gS} {M : gM} {Q : Option Value → List gS → gM → Prop} (hd : 1 ≤ d) (hT : isTown sh t) (hW : TWN M t T) (hok : T.ok) (hi : i < T.P) (hk : k < T.D) (h : ∀ g, (∀ s, s < 3 → g s = nI (T.cs i k s)) → Q none sh (gsr M (t + 6) g)) : gC mX4_writeBill d 0 0 [.ref t, .int (nI i), .int (nI k)] sh M Q := by
  have hT0 := hT
  obtain ⟨z0, z1, z2, z3, z4, z5, z6⟩ := hT
  obtain ⟨w1, w2, w3, w4, w5, w6, w7, w8⟩ := hW
  obtain ⟨o1, o2, o3, o4, o5, o6, o7, o8⟩ := hok
  have hc0 := w6 (3 * k + 0) (by omega)
  have hc1 := w6 (3 * k + 1) (by omega)
  have hc2 := w6 (3 * k + 2) (by omega)
  have b0 := o6 (3 * k + 0) (by omega)
  have b1 := o6 (3 * k + 1) (by omega)
  have b2 := o6 (3 * k + 2) (by omega)
  have hkd := w4 i hi
  have bkd := o4 i hi
  refine gC_of (rt := 0) (ini := false) gm_X4_writeBill rfl (by decide) (Nat.le_of_ble_eq_true rfl) (fun X hX => ?_)
  refine s_aload_n (q := 1) hX dX4_writeBill_0 rfl rfl ?_
  refine s_getr (q := 4) hX dX4_writeBill_1 rfl gfl_4_18 (by assumption) rfl ?_
  refine s_iload_n (q := 5) hX dX4_writeBill_4 rfl rfl ?_
  refine s_iconst (q := 6) (v := 3) hX dX4_writeBill_5 rfl rfl ?_
  refine s_imul (q := 7) (v := nI ((k) * 3)) hX dX4_writeBill_6 rfl (pk_mul (k) (3)) ?_
  refine s_aload_n (q := 8) hX dX4_writeBill_7 rfl rfl ?_
  refine s_getr (q := 11) hX dX4_writeBill_8 rfl gfl_4_27 (by assumption) rfl ?_
  refine s_iconst (q := 12) (v := 0) hX dX4_writeBill_11 rfl rfl ?_
  refine s_iconst (q := 13) (v := 3) hX dX4_writeBill_12 rfl rfl ?_
  refine s_cpy (k0 := (k) * 3) (k1 := 0) (n := 3) (q := 16) hX dX4_writeBill_13 rfl glk_4_57 (by omega) (Nat.le_of_ble_eq_true rfl) (by assumption) (by assumption) rfl rfl rfl (by omega) (by omega) (by omega) (by omega) ?_
  generalize hg : va_cpy (M (t + 3)) (M (t + 6)) (k * 3) 0 3 = g
  have g0 : g 0 = nI (T.co (3 * k + 0)) := by rw [← hg, pk_cpy_in (by omega) (by omega), ← hc0]; congr 1; omega
  have g1 : g 1 = nI (T.co (3 * k + 1)) := by rw [← hg, pk_cpy_in (by omega) (by omega), ← hc1]; congr 1; omega
  have g2 : g 2 = nI (T.co (3 * k + 2)) := by rw [← hg, pk_cpy_in (by omega) (by omega), ← hc2]; congr 1; omega
  refine s_aload_n (q := 17) hX dX4_writeBill_16 rfl rfl ?_
  refine s_getr (q := 20) hX dX4_writeBill_17 rfl gfl_4_9 (by assumption) rfl ?_
  refine s_iload_n (q := 21) hX dX4_writeBill_20 rfl rfl ?_
  refine s_iald (k := i) (q := 22) hX dX4_writeBill_21 rfl (by assumption) rfl (by omega) (by omega) ?_
  refine s_topi (v := nI (T.kd i)) (by rw [gsr_n _ _ (by omega)]; exact hkd) ?_
  refine s_iconst (q := 23) (v := 3) hX dX4_writeBill_22 rfl rfl ?_
  refine s_nicmp_ne (a := T.kd i) (b := 3) (q := 26) (r := 34) hX dX4_writeBill_23 rfl rfl rfl rfl (by omega) (by omega) (fun c23 => ?_) (fun c23 => ?_)
  · refine s_ret hX dX4_writeBill_34 rfl ⟨Nat.le_refl _, Nat.le_refl _, Nat.le_refl _, ?_⟩
    refine h g (fun s hs => co_3 (P := fun s => g s = nI (T.cs i k s)) ?_ ?_ ?_ hs) <;> (clear hX h w1 w2 w3 w4 w5 w6 w7 w8 o1 o2 o3 o4 o5 o6 o7 o8; simp only [gT.cs, pcs, upd]; first | (simp_all; done) | (simp_all; omega) | (repeat' split) <;> first | (simp_all; done) | (simp_all; omega) | omega)
  · refine s_aload_n (q := 27) hX dX4_writeBill_26 rfl rfl ?_
    refine s_invv0_1 (q := 30) hX dX4_writeBill_27 rfl glk_4_63 (by assumption) (Nat.le_of_ble_eq_true rfl) ⟨Nat.le_refl _, Nat.le_refl _⟩ (by omega) (c_billSum hT0 ?_) 
    refine ⟨_, rfl, ?_⟩
    refine s_topi (v := nI (T.co (3 * k + 0) + T.co (3 * k + 1) + T.co (3 * k + 2))) (by rw [gsr_s, g0, g1, g2, nI_add, nI_add]) ?_
    refine s_iconst (q := 31) (v := 1) hX dX4_writeBill_30 rfl rfl ?_
    refine s_nicmp_gt (a := T.co (3 * k + 0) + T.co (3 * k + 1) + T.co (3 * k + 2)) (b := 1) (q := 34) (r := 35) hX dX4_writeBill_31 rfl rfl rfl rfl (by omega) (by omega) (fun c31 => ?_) (fun c31 => ?_)
    · refine s_iconst (q := 36) (v := 0) hX dX4_writeBill_35 rfl rfl ?_
      refine s_istore_n (q := 37) (lv' := [(0, _), (1, _), (2, _), (3, _)]) hX dX4_writeBill_36 rfl (Nat.le_of_ble_eq_true rfl) rfl ?_
      refine s_iload_n (q := 38) hX dX4_writeBill_37 rfl rfl ?_
      refine s_iconst (q := 39) (v := 3) hX dX4_writeBill_38 rfl rfl ?_
      refine s_icmp_ge_f (q := 42) (r := 68) hX dX4_writeBill_39 rfl rfl (by decide) ?_
      refine s_aload_n (q := 43) hX dX4_writeBill_42 rfl rfl ?_
      refine s_getr (q := 46) hX dX4_writeBill_43 rfl gfl_4_27 (by assumption) rfl ?_
      refine s_iload_n (q := 47) hX dX4_writeBill_46 rfl rfl ?_
      refine s_iald (k := 0) (q := 48) hX dX4_writeBill_47 rfl (by assumption) rfl (by omega) (by omega) ?_
      refine s_topi (v := nI (T.co (3 * k + 0))) (by rw [gsr_s]; exact g0) ?_
      refine s_nif_le (a := T.co (3 * k + 0)) (b := 0) (q := 51) (r := 62) hX dX4_writeBill_48 rfl rfl rfl rfl (by omega) (by omega) (fun c48 => ?_) (fun c48 => ?_)
      · refine s_iinc (q := 65) (v := 1) (lv' := [(0, _), (1, _), (2, _), (3, _)]) hX dX4_writeBill_62 rfl rfl (by decide) (Nat.le_of_ble_eq_true rfl) rfl ?_
        refine s_goto (q := 37) hX dX4_writeBill_65 rfl ?_
        refine s_iload_n (q := 38) hX dX4_writeBill_37 rfl rfl ?_
        refine s_iconst (q := 39) (v := 3) hX dX4_writeBill_38 rfl rfl ?_
        refine s_icmp_ge_f (q := 42) (r := 68) hX dX4_writeBill_39 rfl rfl (by decide) ?_
        refine s_aload_n (q := 43) hX dX4_writeBill_42 rfl rfl ?_
        refine s_getr (q := 46) hX dX4_writeBill_43 rfl gfl_4_27 (by assumption) rfl ?_
        refine s_iload_n (q := 47) hX dX4_writeBill_46 rfl rfl ?_
        refine s_iald (k := 1) (q := 48) hX dX4_writeBill_47 rfl (by assumption) rfl (by omega) (by omega) ?_
        refine s_topi (v := nI (T.co (3 * k + 1))) (by rw [gsr_s]; exact g1) ?_
        refine s_nif_le (a := T.co (3 * k + 1)) (b := 0) (q := 51) (r := 62) hX dX4_writeBill_48 rfl rfl rfl rfl (by omega) (by omega) (fun c48_1 => ?_) (fun c48_1 => ?_)
        · refine s_iinc (q := 65) (v := 2) (lv' := [(0, _), (1, _), (2, _), (3, _)]) hX dX4_writeBill_62 rfl rfl (by decide) (Nat.le_of_ble_eq_true rfl) rfl ?_
          refine s_goto (q := 37) hX dX4_writeBill_65 rfl ?_
          refine s_iload_n (q := 38) hX dX4_writeBill_37 rfl rfl ?_
          refine s_iconst (q := 39) (v := 3) hX dX4_writeBill_38 rfl rfl ?_
          refine s_icmp_ge_f (q := 42) (r := 68) hX dX4_writeBill_39 rfl rfl (by decide) ?_
          refine s_aload_n (q := 43) hX dX4_writeBill_42 rfl rfl ?_
          refine s_getr (q := 46) hX dX4_writeBill_43 rfl gfl_4_27 (by assumption) rfl ?_
          refine s_iload_n (q := 47) hX dX4_writeBill_46 rfl rfl ?_
          refine s_iald (k := 2) (q := 48) hX dX4_writeBill_47 rfl (by assumption) rfl (by omega) (by omega) ?_
          refine s_topi (v := nI (T.co (3 * k + 2))) (by rw [gsr_s]; exact g2) ?_
          refine s_nif_le (a := T.co (3 * k + 2)) (b := 0) (q := 51) (r := 62) hX dX4_writeBill_48 rfl rfl rfl rfl (by omega) (by omega) (fun c48_2 => ?_) (fun c48_2 => ?_)
          · refine s_iinc (q := 65) (v := 3) (lv' := [(0, _), (1, _), (2, _), (3, _)]) hX dX4_writeBill_62 rfl rfl (by decide) (Nat.le_of_ble_eq_true rfl) rfl ?_
            refine s_goto (q := 37) hX dX4_writeBill_65 rfl ?_
            refine s_iload_n (q := 38) hX dX4_writeBill_37 rfl rfl ?_
            refine s_iconst (q := 39) (v := 3) hX dX4_writeBill_38 rfl rfl ?_
            refine s_icmp_ge_t (q := 42) (r := 68) hX dX4_writeBill_39 rfl rfl (by decide) ?_
            refine s_ret hX dX4_writeBill_68 rfl ⟨Nat.le_refl _, Nat.le_refl _, Nat.le_refl _, ?_⟩
            refine h g (fun s hs => co_3 (P := fun s => g s = nI (T.cs i k s)) ?_ ?_ ?_ hs) <;> (clear hX h w1 w2 w3 w4 w5 w6 w7 w8 o1 o2 o3 o4 o5 o6 o7 o8; simp only [gT.cs, pcs, upd]; first | (simp_all; done) | (simp_all; omega) | (repeat' split) <;> first | (simp_all; done) | (simp_all; omega) | omega)
          · refine s_aload_n (q := 52) hX dX4_writeBill_51 rfl rfl ?_
            refine s_getr (q := 55) hX dX4_writeBill_52 rfl gfl_4_27 (by assumption) rfl ?_
            refine s_iload_n (q := 56) hX dX4_writeBill_55 rfl rfl ?_
            refine s_dup2 (q := 57) hX dX4_writeBill_56 rfl rfl rfl ?_
            refine s_iald (k := 2) (q := 58) hX dX4_writeBill_57 rfl (by assumption) rfl (by omega) (by omega) ?_
            refine s_topi (v := nI (T.co (3 * k + 2))) (by rw [gsr_s]; exact g2) ?_
            refine s_iconst (q := 59) (v := 1) hX dX4_writeBill_58 rfl rfl ?_
            refine s_isub (q := 60) (v := nI (T.co (3 * k + 2) - 1)) hX dX4_writeBill_59 rfl (pk_sub (a := T.co (3 * k + 2)) (b := 1) (by omega)) ?_
            refine s_iast (k := 2) (q := 61) hX dX4_writeBill_60 rfl (by assumption) rfl (by omega) (by omega) ?_
            refine s_ret hX dX4_writeBill_61 rfl ⟨Nat.le_refl _, Nat.le_refl _, Nat.le_refl _, ?_⟩
            rw [gsr_gsr, gsr_s]
            refine h _ (fun s hs => co_3 (P := fun s => upd g _ _ s = nI (T.cs i k s)) ?_ ?_ ?_ hs) <;> (clear hX h w1 w2 w3 w4 w5 w6 w7 w8 o1 o2 o3 o4 o5 o6 o7 o8; simp only [gT.cs, pcs, upd]; first | (simp_all; done) | (simp_all; omega) | (repeat' split) <;> first | (simp_all; done) | (simp_all; omega) | omega)
        · refine s_aload_n (q := 52) hX dX4_writeBill_51 rfl rfl ?_
          refine s_getr (q := 55) hX dX4_writeBill_52 rfl gfl_4_27 (by assumption) rfl ?_
          refine s_iload_n (q := 56) hX dX4_writeBill_55 rfl rfl ?_
          refine s_dup2 (q := 57) hX dX4_writeBill_56 rfl rfl rfl ?_
          refine s_iald (k := 1) (q := 58) hX dX4_writeBill_57 rfl (by assumption) rfl (by omega) (by omega) ?_
          refine s_topi (v := nI (T.co (3 * k + 1))) (by rw [gsr_s]; exact g1) ?_
          refine s_iconst (q := 59) (v := 1) hX dX4_writeBill_58 rfl rfl ?_
          refine s_isub (q := 60) (v := nI (T.co (3 * k + 1) - 1)) hX dX4_writeBill_59 rfl (pk_sub (a := T.co (3 * k + 1)) (b := 1) (by omega)) ?_
          refine s_iast (k := 1) (q := 61) hX dX4_writeBill_60 rfl (by assumption) rfl (by omega) (by omega) ?_
          refine s_ret hX dX4_writeBill_61 rfl ⟨Nat.le_refl _, Nat.le_refl _, Nat.le_refl _, ?_⟩
          rw [gsr_gsr, gsr_s]
          refine h _ (fun s hs => co_3 (P := fun s => upd g _ _ s = nI (T.cs i k s)) ?_ ?_ ?_ hs) <;> (clear hX h w1 w2 w3 w4 w5 w6 w7 w8 o1 o2 o3 o4 o5 o6 o7 o8; simp only [gT.cs, pcs, upd]; first | (simp_all; done) | (simp_all; omega) | (repeat' split) <;> first | (simp_all; done) | (simp_all; omega) | omega)
      · refine s_aload_n (q := 52) hX dX4_writeBill_51 rfl rfl ?_
        refine s_getr (q := 55) hX dX4_writeBill_52 rfl gfl_4_27 (by assumption) rfl ?_
        refine s_iload_n (q := 56) hX dX4_writeBill_55 rfl rfl ?_
        refine s_dup2 (q := 57) hX dX4_writeBill_56 rfl rfl rfl ?_
        refine s_iald (k := 0) (q := 58) hX dX4_writeBill_57 rfl (by assumption) rfl (by omega) (by omega) ?_
        refine s_topi (v := nI (T.co (3 * k + 0))) (by rw [gsr_s]; exact g0) ?_
        refine s_iconst (q := 59) (v := 1) hX dX4_writeBill_58 rfl rfl ?_
        refine s_isub (q := 60) (v := nI (T.co (3 * k + 0) - 1)) hX dX4_writeBill_59 rfl (pk_sub (a := T.co (3 * k + 0)) (b := 1) (by omega)) ?_
        refine s_iast (k := 0) (q := 61) hX dX4_writeBill_60 rfl (by assumption) rfl (by omega) (by omega) ?_
        refine s_ret hX dX4_writeBill_61 rfl ⟨Nat.le_refl _, Nat.le_refl _, Nat.le_refl _, ?_⟩
        rw [gsr_gsr, gsr_s]
        refine h _ (fun s hs => co_3 (P := fun s => upd g _ _ s = nI (T.cs i k s)) ?_ ?_ ?_ hs) <;> (clear hX h w1 w2 w3 w4 w5 w6 w7 w8 o1 o2 o3 o4 o5 o6 o7 o8; simp only [gT.cs, pcs, upd]; first | (simp_all; done) | (simp_all; omega) | (repeat' split) <;> first | (simp_all; done) | (simp_all; omega) | omega)
    · refine s_ret hX dX4_writeBill_34 rfl ⟨Nat.le_refl _, Nat.le_refl _, Nat.le_refl _, ?_⟩
      refine h g (fun s hs => co_3 (P := fun s => g s = nI (T.cs i k s)) ?_ ?_ ?_ hs) <;> (clear hX h w1 w2 w3 w4 w5 w6 w7 w8 o1 o2 o3 o4 o5 o6 o7 o8; simp only [gT.cs, pcs, upd]; first | (simp_all; done) | (simp_all; omega) | (repeat' split) <;> first | (simp_all; done) | (simp_all; omega) | omega)
