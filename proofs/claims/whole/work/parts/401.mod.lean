set_option maxHeartbeats 4000000 in
set_option maxRecDepth 100000 in
theorem m_plainCost {d i k : Nat} {T : gT} {sh : List gS} {M : gM} {Q : Option Value → List gS → gM → Prop} (hC : isMod sh) (hW : TWM M T) (g1 : T.ok) (hi : i < T.P) (hk : k < T.D) (hcon : ∀ g, (∀ s, s < 3 → g s = nI (T.cs i k s)) → Q none sh (gsr M 94 g)) : gC mX7_plainCost d 0 0 [.ref 83, .int (nI i), .int (nI k)] sh M Q := by
  have hC0 := hC
  obtain ⟨y0, y1, y2, y3, y4, y5, y6, y7, y8, y9, y10, y11, y12, y13, y14, y15⟩ := hC
  have g0 := g1
  obtain ⟨o1, o2, o3, o4, o5, o6, o7, o8⟩ := g0
  clear g1
  have hc0 := hW.2.2.2.2.2.1 (3 * k + 0) (by omega)
  have hc1 := hW.2.2.2.2.2.1 (3 * k + 1) (by omega)
  have hc2 := hW.2.2.2.2.2.1 (3 * k + 2) (by omega)
  have b0 := o6 (3 * k + 0) (by omega)
  have b1 := o6 (3 * k + 1) (by omega)
  have b2 := o6 (3 * k + 2) (by omega)
  have hkd := hW.2.2.2.1 i hi
  have bkd := o4 i hi
  refine gC_of (rt := 0) (ini := false) gm_X7_plainCost rfl (by decide) (Nat.le_of_ble_eq_true rfl) (fun X hX => ?_)
  refine s_iconst (q := 1) (v := 0) hX dX7_plainCost_0 rfl rfl ?_
  refine s_istore_n (q := 2) (lv' := [(0, _), (1, _), (2, _), (3, _)]) hX dX7_plainCost_1 rfl (Nat.le_of_ble_eq_true rfl) rfl ?_
  refine s_iconst (q := 3) (v := 0) hX dX7_plainCost_2 rfl rfl ?_
  refine s_istore (q := 5) (lv' := [(0, _), (1, _), (2, _), (3, _), (4, _)]) hX dX7_plainCost_3 rfl (Nat.le_of_ble_eq_true rfl) rfl ?_
  refine s_iload (q := 7) hX dX7_plainCost_5 rfl rfl ?_
  refine s_iconst (q := 8) (v := 3) hX dX7_plainCost_7 rfl rfl ?_
  refine s_icmp_ge_f (q := 11) (r := 45) hX dX7_plainCost_8 rfl rfl (by decide) ?_
  refine s_aload_n (q := 12) hX dX7_plainCost_11 rfl rfl ?_
  refine s_getr (q := 15) hX dX7_plainCost_12 rfl gfl_7_41 (by assumption) rfl ?_
  refine s_iload (q := 17) hX dX7_plainCost_15 rfl rfl ?_
  refine s_aload_n (q := 18) hX dX7_plainCost_17 rfl rfl ?_
  refine s_getr (q := 21) hX dX7_plainCost_18 rfl gfl_7_26 (by assumption) rfl ?_
  refine s_iconst (q := 22) (v := 3) hX dX7_plainCost_21 rfl rfl ?_
  refine s_iload_n (q := 23) hX dX7_plainCost_22 rfl rfl ?_
  refine s_imul (q := 24) (v := nI (3 * k)) hX dX7_plainCost_23 rfl (pk_mul (3) (k)) ?_
  refine s_iload (q := 26) hX dX7_plainCost_24 rfl rfl ?_
  refine s_iadd (q := 27) (v := nI (3 * k + 0)) hX dX7_plainCost_26 rfl (nI_add (3 * k) (0)) ?_
  refine s_iald (k := 3 * k + 0) (q := 28) hX dX7_plainCost_27 rfl (by assumption) rfl (by omega) (by omega) ?_
  refine s_topi (v := nI (T.co (3 * k + 0))) (by first | exact hc0 | (rw [gsr_n _ _ (by decide)]; exact hc0) | (rw [gsr_n _ _ (by decide), gsr_n _ _ (by decide)]; exact hc0)) ?_
  refine s_iast (k := 0) (q := 29) hX dX7_plainCost_28 rfl (by assumption) rfl (by omega) (by omega) ?_
  refine s_iload_n (q := 30) hX dX7_plainCost_29 rfl rfl ?_
  refine s_aload_n (q := 31) hX dX7_plainCost_30 rfl rfl ?_
  refine s_getr (q := 34) hX dX7_plainCost_31 rfl gfl_7_41 (by assumption) rfl ?_
  refine s_iload (q := 36) hX dX7_plainCost_34 rfl rfl ?_
  refine s_iald (k := 0) (q := 37) hX dX7_plainCost_36 rfl (by assumption) rfl (by omega) (by omega) ?_
  refine s_topi (v := nI (T.co (3 * k + 0))) (by rw [gsr_s, pk_us]) ?_
  refine s_iadd (q := 38) (v := nI (0 + (T.co (3 * k + 0)))) hX dX7_plainCost_37 rfl (nI_add (0) (T.co (3 * k + 0))) ?_
  refine s_istore_n (q := 39) (lv' := [(0, _), (1, _), (2, _), (3, _), (4, _)]) hX dX7_plainCost_38 rfl (Nat.le_of_ble_eq_true rfl) rfl ?_
  refine s_iinc (q := 42) (v := 1) (lv' := [(0, _), (1, _), (2, _), (3, _), (4, _)]) hX dX7_plainCost_39 rfl rfl (by decide) (Nat.le_of_ble_eq_true rfl) rfl ?_
  refine s_goto (q := 5) hX dX7_plainCost_42 rfl ?_
  refine s_iload (q := 7) hX dX7_plainCost_5 rfl rfl ?_
  refine s_iconst (q := 8) (v := 3) hX dX7_plainCost_7 rfl rfl ?_
  refine s_icmp_ge_f (q := 11) (r := 45) hX dX7_plainCost_8 rfl rfl (by decide) ?_
  refine s_aload_n (q := 12) hX dX7_plainCost_11 rfl rfl ?_
  refine s_getr (q := 15) hX dX7_plainCost_12 rfl gfl_7_41 (by assumption) rfl ?_
  refine s_iload (q := 17) hX dX7_plainCost_15 rfl rfl ?_
  refine s_aload_n (q := 18) hX dX7_plainCost_17 rfl rfl ?_
  refine s_getr (q := 21) hX dX7_plainCost_18 rfl gfl_7_26 (by assumption) rfl ?_
  refine s_iconst (q := 22) (v := 3) hX dX7_plainCost_21 rfl rfl ?_
  refine s_iload_n (q := 23) hX dX7_plainCost_22 rfl rfl ?_
  refine s_imul (q := 24) (v := nI (3 * k)) hX dX7_plainCost_23 rfl (pk_mul (3) (k)) ?_
  refine s_iload (q := 26) hX dX7_plainCost_24 rfl rfl ?_
  refine s_iadd (q := 27) (v := nI (3 * k + 1)) hX dX7_plainCost_26 rfl (nI_add (3 * k) (1)) ?_
  refine s_iald (k := 3 * k + 1) (q := 28) hX dX7_plainCost_27 rfl (by assumption) rfl (by omega) (by omega) ?_
  refine s_topi (v := nI (T.co (3 * k + 1))) (by first | exact hc1 | (rw [gsr_n _ _ (by decide)]; exact hc1) | (rw [gsr_n _ _ (by decide), gsr_n _ _ (by decide)]; exact hc1)) ?_
  refine s_iast (k := 1) (q := 29) hX dX7_plainCost_28 rfl (by assumption) rfl (by omega) (by omega) ?_
  refine s_iload_n (q := 30) hX dX7_plainCost_29 rfl rfl ?_
  refine s_aload_n (q := 31) hX dX7_plainCost_30 rfl rfl ?_
  refine s_getr (q := 34) hX dX7_plainCost_31 rfl gfl_7_41 (by assumption) rfl ?_
  refine s_iload (q := 36) hX dX7_plainCost_34 rfl rfl ?_
  refine s_iald (k := 1) (q := 37) hX dX7_plainCost_36 rfl (by assumption) rfl (by omega) (by omega) ?_
  refine s_topi (v := nI (T.co (3 * k + 1))) (by rw [gsr_s, pk_us]) ?_
  refine s_iadd (q := 38) (v := nI (0 + (T.co (3 * k + 0)) + (T.co (3 * k + 1)))) hX dX7_plainCost_37 rfl (nI_add (0 + (T.co (3 * k + 0))) (T.co (3 * k + 1))) ?_
  refine s_istore_n (q := 39) (lv' := [(0, _), (1, _), (2, _), (3, _), (4, _)]) hX dX7_plainCost_38 rfl (Nat.le_of_ble_eq_true rfl) rfl ?_
  refine s_iinc (q := 42) (v := 2) (lv' := [(0, _), (1, _), (2, _), (3, _), (4, _)]) hX dX7_plainCost_39 rfl rfl (by decide) (Nat.le_of_ble_eq_true rfl) rfl ?_
  refine s_goto (q := 5) hX dX7_plainCost_42 rfl ?_
  refine s_iload (q := 7) hX dX7_plainCost_5 rfl rfl ?_
  refine s_iconst (q := 8) (v := 3) hX dX7_plainCost_7 rfl rfl ?_
  refine s_icmp_ge_f (q := 11) (r := 45) hX dX7_plainCost_8 rfl rfl (by decide) ?_
  refine s_aload_n (q := 12) hX dX7_plainCost_11 rfl rfl ?_
  refine s_getr (q := 15) hX dX7_plainCost_12 rfl gfl_7_41 (by assumption) rfl ?_
  refine s_iload (q := 17) hX dX7_plainCost_15 rfl rfl ?_
  refine s_aload_n (q := 18) hX dX7_plainCost_17 rfl rfl ?_
  refine s_getr (q := 21) hX dX7_plainCost_18 rfl gfl_7_26 (by assumption) rfl ?_
  refine s_iconst (q := 22) (v := 3) hX dX7_plainCost_21 rfl rfl ?_
  refine s_iload_n (q := 23) hX dX7_plainCost_22 rfl rfl ?_
  refine s_imul (q := 24) (v := nI (3 * k)) hX dX7_plainCost_23 rfl (pk_mul (3) (k)) ?_
  refine s_iload (q := 26) hX dX7_plainCost_24 rfl rfl ?_
  refine s_iadd (q := 27) (v := nI (3 * k + 2)) hX dX7_plainCost_26 rfl (nI_add (3 * k) (2)) ?_
  refine s_iald (k := 3 * k + 2) (q := 28) hX dX7_plainCost_27 rfl (by assumption) rfl (by omega) (by omega) ?_
  refine s_topi (v := nI (T.co (3 * k + 2))) (by first | exact hc2 | (rw [gsr_n _ _ (by decide)]; exact hc2) | (rw [gsr_n _ _ (by decide), gsr_n _ _ (by decide)]; exact hc2)) ?_
  refine s_iast (k := 2) (q := 29) hX dX7_plainCost_28 rfl (by assumption) rfl (by omega) (by omega) ?_
  refine s_iload_n (q := 30) hX dX7_plainCost_29 rfl rfl ?_
  refine s_aload_n (q := 31) hX dX7_plainCost_30 rfl rfl ?_
  refine s_getr (q := 34) hX dX7_plainCost_31 rfl gfl_7_41 (by assumption) rfl ?_
  refine s_iload (q := 36) hX dX7_plainCost_34 rfl rfl ?_
  refine s_iald (k := 2) (q := 37) hX dX7_plainCost_36 rfl (by assumption) rfl (by omega) (by omega) ?_
  refine s_topi (v := nI (T.co (3 * k + 2))) (by rw [gsr_s, pk_us]) ?_
  refine s_iadd (q := 38) (v := nI (0 + (T.co (3 * k + 0)) + (T.co (3 * k + 1)) + (T.co (3 * k + 2)))) hX dX7_plainCost_37 rfl (nI_add (0 + (T.co (3 * k + 0)) + (T.co (3 * k + 1))) (T.co (3 * k + 2))) ?_
  refine s_istore_n (q := 39) (lv' := [(0, _), (1, _), (2, _), (3, _), (4, _)]) hX dX7_plainCost_38 rfl (Nat.le_of_ble_eq_true rfl) rfl ?_
  refine s_iinc (q := 42) (v := 3) (lv' := [(0, _), (1, _), (2, _), (3, _), (4, _)]) hX dX7_plainCost_39 rfl rfl (by decide) (Nat.le_of_ble_eq_true rfl) rfl ?_
  refine s_goto (q := 5) hX dX7_plainCost_42 rfl ?_
  refine s_iload (q := 7) hX dX7_plainCost_5 rfl rfl ?_
  refine s_iconst (q := 8) (v := 3) hX dX7_plainCost_7 rfl rfl ?_
  refine s_icmp_ge_t (q := 11) (r := 45) hX dX7_plainCost_8 rfl rfl (by decide) ?_
  simp only [gsr_gsr, gsr_s]
  generalize hg : upd (upd (upd (M 94) 0 (nI (T.co (3 * k + 0)))) 1 (nI (T.co (3 * k + 1)))) 2 (nI (T.co (3 * k + 2))) = g
  have q0 : g 0 = nI (T.co (3 * k + 0)) := by rw [← hg]; rfl
  have q1 : g 1 = nI (T.co (3 * k + 1)) := by rw [← hg]; rfl
  have q2 : g 2 = nI (T.co (3 * k + 2)) := by rw [← hg]; rfl
  refine s_aload_n (q := 46) hX dX7_plainCost_45 rfl rfl ?_
  refine s_getr (q := 49) hX dX7_plainCost_46 rfl gfl_7_17 (by assumption) rfl ?_
  refine s_iload_n (q := 50) hX dX7_plainCost_49 rfl rfl ?_
  refine s_iald (k := i) (q := 51) hX dX7_plainCost_50 rfl (by assumption) rfl (by omega) (by omega) ?_
  refine s_topi (v := nI (T.kd i)) (by rw [gsr_n _ _ (by decide)]; exact hkd) ?_
  refine s_iconst (q := 52) (v := 3) hX dX7_plainCost_51 rfl rfl ?_
  refine s_nicmp_ne (a := T.kd i) (b := 3) (q := 55) (r := 64) hX dX7_plainCost_52 rfl rfl rfl rfl (by omega) (by omega) (fun c52 => ?_) (fun c52 => ?_)
  · refine s_iconst (q := 65) (v := 0) hX dX7_plainCost_64 rfl rfl ?_
    refine s_istore (q := 67) (lv' := [(0, _), (1, _), (2, _), (3, _), (4, _)]) hX dX7_plainCost_65 rfl (Nat.le_of_ble_eq_true rfl) rfl ?_
    refine s_iconst (q := 68) (v := 0) hX dX7_plainCost_67 rfl rfl ?_
    refine s_istore (q := 70) (lv' := [(0, _), (1, _), (2, _), (3, _), (4, _), (5, _)]) hX dX7_plainCost_68 rfl (Nat.le_of_ble_eq_true rfl) rfl ?_
    refine s_iload (q := 72) hX dX7_plainCost_70 rfl rfl ?_
    refine s_iconst (q := 73) (v := 3) hX dX7_plainCost_72 rfl rfl ?_
    refine s_icmp_ge_f (q := 76) (r := 111) hX dX7_plainCost_73 rfl rfl (by decide) ?_
    refine s_iload (q := 78) hX dX7_plainCost_76 rfl rfl ?_
    refine s_if_eq_t (q := 81) (r := 111) hX dX7_plainCost_78 rfl rfl (by decide) ?_
    refine s_ret hX dX7_plainCost_111 rfl ⟨Nat.le_refl _, Nat.le_refl _, Nat.le_refl _, ?_⟩
    refine hcon g (fun s hs => co_3 (P := fun s => g s = nI (T.cs i k s)) ?_ ?_ ?_ hs) <;> (clear hX hcon hW o1 o2 o3 o4 o5 o6 o7 o8; simp only [gT.cs, pcs, upd]; first | (simp_all; done) | (simp_all; omega) | (repeat' split) <;> first | (simp_all; done) | (simp_all; omega) | omega)
  · refine s_iload_n (q := 56) hX dX7_plainCost_55 rfl rfl ?_
    refine s_iconst (q := 57) (v := 1) hX dX7_plainCost_56 rfl rfl ?_
    refine s_nicmp_le (a := 0 + (T.co (3 * k + 0)) + (T.co (3 * k + 1)) + (T.co (3 * k + 2))) (b := 1) (q := 60) (r := 64) hX dX7_plainCost_57 rfl rfl rfl rfl (by omega) (by omega) (fun c57 => ?_) (fun c57 => ?_)
    · refine s_iconst (q := 65) (v := 0) hX dX7_plainCost_64 rfl rfl ?_
      refine s_istore (q := 67) (lv' := [(0, _), (1, _), (2, _), (3, _), (4, _)]) hX dX7_plainCost_65 rfl (Nat.le_of_ble_eq_true rfl) rfl ?_
      refine s_iconst (q := 68) (v := 0) hX dX7_plainCost_67 rfl rfl ?_
      refine s_istore (q := 70) (lv' := [(0, _), (1, _), (2, _), (3, _), (4, _), (5, _)]) hX dX7_plainCost_68 rfl (Nat.le_of_ble_eq_true rfl) rfl ?_
      refine s_iload (q := 72) hX dX7_plainCost_70 rfl rfl ?_
      refine s_iconst (q := 73) (v := 3) hX dX7_plainCost_72 rfl rfl ?_
      refine s_icmp_ge_f (q := 76) (r := 111) hX dX7_plainCost_73 rfl rfl (by decide) ?_
      refine s_iload (q := 78) hX dX7_plainCost_76 rfl rfl ?_
      refine s_if_eq_t (q := 81) (r := 111) hX dX7_plainCost_78 rfl rfl (by decide) ?_
      refine s_ret hX dX7_plainCost_111 rfl ⟨Nat.le_refl _, Nat.le_refl _, Nat.le_refl _, ?_⟩
      refine hcon g (fun s hs => co_3 (P := fun s => g s = nI (T.cs i k s)) ?_ ?_ ?_ hs) <;> (clear hX hcon hW o1 o2 o3 o4 o5 o6 o7 o8; simp only [gT.cs, pcs, upd]; first | (simp_all; done) | (simp_all; omega) | (repeat' split) <;> first | (simp_all; done) | (simp_all; omega) | omega)
    · refine s_iconst (q := 61) (v := 1) hX dX7_plainCost_60 rfl rfl ?_
      refine s_goto (q := 65) hX dX7_plainCost_61 rfl ?_
      refine s_istore (q := 67) (lv' := [(0, _), (1, _), (2, _), (3, _), (4, _)]) hX dX7_plainCost_65 rfl (Nat.le_of_ble_eq_true rfl) rfl ?_
      refine s_iconst (q := 68) (v := 0) hX dX7_plainCost_67 rfl rfl ?_
      refine s_istore (q := 70) (lv' := [(0, _), (1, _), (2, _), (3, _), (4, _), (5, _)]) hX dX7_plainCost_68 rfl (Nat.le_of_ble_eq_true rfl) rfl ?_
      refine s_iload (q := 72) hX dX7_plainCost_70 rfl rfl ?_
      refine s_iconst (q := 73) (v := 3) hX dX7_plainCost_72 rfl rfl ?_
      refine s_icmp_ge_f (q := 76) (r := 111) hX dX7_plainCost_73 rfl rfl (by decide) ?_
      refine s_iload (q := 78) hX dX7_plainCost_76 rfl rfl ?_
      refine s_if_eq_f (q := 81) (r := 111) hX dX7_plainCost_78 rfl rfl (by decide) ?_
      refine s_aload_n (q := 82) hX dX7_plainCost_81 rfl rfl ?_
      refine s_getr (q := 85) hX dX7_plainCost_82 rfl gfl_7_41 (by assumption) rfl ?_
      refine s_iload (q := 87) hX dX7_plainCost_85 rfl rfl ?_
      refine s_iald (k := 0) (q := 88) hX dX7_plainCost_87 rfl (by assumption) rfl (by omega) (by omega) ?_
      refine s_topi (v := nI (T.co (3 * k + 0))) (by rw [gsr_s]; exact q0) ?_
      refine s_nif_le (a := T.co (3 * k + 0)) (b := 0) (q := 91) (r := 105) hX dX7_plainCost_88 rfl rfl rfl rfl (by omega) (by omega) (fun c88 => ?_) (fun c88 => ?_)
      · refine s_iinc (q := 108) (v := 1) (lv' := [(0, _), (1, _), (2, _), (3, _), (4, _), (5, _)]) hX dX7_plainCost_105 rfl rfl (by decide) (Nat.le_of_ble_eq_true rfl) rfl ?_
        refine s_goto (q := 70) hX dX7_plainCost_108 rfl ?_
        refine s_iload (q := 72) hX dX7_plainCost_70 rfl rfl ?_
        refine s_iconst (q := 73) (v := 3) hX dX7_plainCost_72 rfl rfl ?_
        refine s_icmp_ge_f (q := 76) (r := 111) hX dX7_plainCost_73 rfl rfl (by decide) ?_
        refine s_iload (q := 78) hX dX7_plainCost_76 rfl rfl ?_
        refine s_if_eq_f (q := 81) (r := 111) hX dX7_plainCost_78 rfl rfl (by decide) ?_
        refine s_aload_n (q := 82) hX dX7_plainCost_81 rfl rfl ?_
        refine s_getr (q := 85) hX dX7_plainCost_82 rfl gfl_7_41 (by assumption) rfl ?_
        refine s_iload (q := 87) hX dX7_plainCost_85 rfl rfl ?_
        refine s_iald (k := 1) (q := 88) hX dX7_plainCost_87 rfl (by assumption) rfl (by omega) (by omega) ?_
        refine s_topi (v := nI (T.co (3 * k + 1))) (by rw [gsr_s]; exact q1) ?_
        refine s_nif_le (a := T.co (3 * k + 1)) (b := 0) (q := 91) (r := 105) hX dX7_plainCost_88 rfl rfl rfl rfl (by omega) (by omega) (fun c88_1 => ?_) (fun c88_1 => ?_)
        · refine s_iinc (q := 108) (v := 2) (lv' := [(0, _), (1, _), (2, _), (3, _), (4, _), (5, _)]) hX dX7_plainCost_105 rfl rfl (by decide) (Nat.le_of_ble_eq_true rfl) rfl ?_
          refine s_goto (q := 70) hX dX7_plainCost_108 rfl ?_
          refine s_iload (q := 72) hX dX7_plainCost_70 rfl rfl ?_
          refine s_iconst (q := 73) (v := 3) hX dX7_plainCost_72 rfl rfl ?_
          refine s_icmp_ge_f (q := 76) (r := 111) hX dX7_plainCost_73 rfl rfl (by decide) ?_
          refine s_iload (q := 78) hX dX7_plainCost_76 rfl rfl ?_
          refine s_if_eq_f (q := 81) (r := 111) hX dX7_plainCost_78 rfl rfl (by decide) ?_
          refine s_aload_n (q := 82) hX dX7_plainCost_81 rfl rfl ?_
          refine s_getr (q := 85) hX dX7_plainCost_82 rfl gfl_7_41 (by assumption) rfl ?_
          refine s_iload (q := 87) hX dX7_plainCost_85 rfl rfl ?_
          refine s_iald (k := 2) (q := 88) hX dX7_plainCost_87 rfl (by assumption) rfl (by omega) (by omega) ?_
          refine s_topi (v := nI (T.co (3 * k + 2))) (by rw [gsr_s]; exact q2) ?_
          refine s_nif_le (a := T.co (3 * k + 2)) (b := 0) (q := 91) (r := 105) hX dX7_plainCost_88 rfl rfl rfl rfl (by omega) (by omega) (fun c88_2 => ?_) (fun c88_2 => ?_)
          · refine s_iinc (q := 108) (v := 3) (lv' := [(0, _), (1, _), (2, _), (3, _), (4, _), (5, _)]) hX dX7_plainCost_105 rfl rfl (by decide) (Nat.le_of_ble_eq_true rfl) rfl ?_
            refine s_goto (q := 70) hX dX7_plainCost_108 rfl ?_
            refine s_iload (q := 72) hX dX7_plainCost_70 rfl rfl ?_
            refine s_iconst (q := 73) (v := 3) hX dX7_plainCost_72 rfl rfl ?_
            refine s_icmp_ge_t (q := 76) (r := 111) hX dX7_plainCost_73 rfl rfl (by decide) ?_
            refine s_ret hX dX7_plainCost_111 rfl ⟨Nat.le_refl _, Nat.le_refl _, Nat.le_refl _, ?_⟩
            refine hcon g (fun s hs => co_3 (P := fun s => g s = nI (T.cs i k s)) ?_ ?_ ?_ hs) <;> (clear hX hcon hW o1 o2 o3 o4 o5 o6 o7 o8; simp only [gT.cs, pcs, upd]; first | (simp_all; done) | (simp_all; omega) | (repeat' split) <;> first | (simp_all; done) | (simp_all; omega) | omega)
          · refine s_aload_n (q := 92) hX dX7_plainCost_91 rfl rfl ?_
            refine s_getr (q := 95) hX dX7_plainCost_92 rfl gfl_7_41 (by assumption) rfl ?_
            refine s_iload (q := 97) hX dX7_plainCost_95 rfl rfl ?_
            refine s_dup2 (q := 98) hX dX7_plainCost_97 rfl rfl rfl ?_
            refine s_iald (k := 2) (q := 99) hX dX7_plainCost_98 rfl (by assumption) rfl (by omega) (by omega) ?_
            refine s_topi (v := nI (T.co (3 * k + 2))) (by rw [gsr_s]; exact q2) ?_
            refine s_iconst (q := 100) (v := 1) hX dX7_plainCost_99 rfl rfl ?_
            refine s_isub (q := 101) (v := nI (T.co (3 * k + 2) - 1)) hX dX7_plainCost_100 rfl (pk_sub (a := T.co (3 * k + 2)) (b := 1) (by omega)) ?_
            refine s_iast (k := 2) (q := 102) hX dX7_plainCost_101 rfl (by assumption) rfl (by omega) (by omega) ?_
            refine s_iconst (q := 103) (v := 0) hX dX7_plainCost_102 rfl rfl ?_
            refine s_istore (q := 105) (lv' := [(0, _), (1, _), (2, _), (3, _), (4, _), (5, _)]) hX dX7_plainCost_103 rfl (Nat.le_of_ble_eq_true rfl) rfl ?_
            refine s_iinc (q := 108) (v := 3) (lv' := [(0, _), (1, _), (2, _), (3, _), (4, _), (5, _)]) hX dX7_plainCost_105 rfl rfl (by decide) (Nat.le_of_ble_eq_true rfl) rfl ?_
            refine s_goto (q := 70) hX dX7_plainCost_108 rfl ?_
            refine s_iload (q := 72) hX dX7_plainCost_70 rfl rfl ?_
            refine s_iconst (q := 73) (v := 3) hX dX7_plainCost_72 rfl rfl ?_
            refine s_icmp_ge_t (q := 76) (r := 111) hX dX7_plainCost_73 rfl rfl (by decide) ?_
            refine s_ret hX dX7_plainCost_111 rfl ⟨Nat.le_refl _, Nat.le_refl _, Nat.le_refl _, ?_⟩
            rw [gsr_gsr, gsr_s]
            refine hcon _ (fun s hs => co_3 (P := fun s => upd g _ _ s = nI (T.cs i k s)) ?_ ?_ ?_ hs) <;> (clear hX hcon hW o1 o2 o3 o4 o5 o6 o7 o8; simp only [gT.cs, pcs, upd]; first | (simp_all; done) | (simp_all; omega) | (repeat' split) <;> first | (simp_all; done) | (simp_all; omega) | omega)
        · refine s_aload_n (q := 92) hX dX7_plainCost_91 rfl rfl ?_
          refine s_getr (q := 95) hX dX7_plainCost_92 rfl gfl_7_41 (by assumption) rfl ?_
          refine s_iload (q := 97) hX dX7_plainCost_95 rfl rfl ?_
          refine s_dup2 (q := 98) hX dX7_plainCost_97 rfl rfl rfl ?_
          refine s_iald (k := 1) (q := 99) hX dX7_plainCost_98 rfl (by assumption) rfl (by omega) (by omega) ?_
          refine s_topi (v := nI (T.co (3 * k + 1))) (by rw [gsr_s]; exact q1) ?_
          refine s_iconst (q := 100) (v := 1) hX dX7_plainCost_99 rfl rfl ?_
          refine s_isub (q := 101) (v := nI (T.co (3 * k + 1) - 1)) hX dX7_plainCost_100 rfl (pk_sub (a := T.co (3 * k + 1)) (b := 1) (by omega)) ?_
          refine s_iast (k := 1) (q := 102) hX dX7_plainCost_101 rfl (by assumption) rfl (by omega) (by omega) ?_
          refine s_iconst (q := 103) (v := 0) hX dX7_plainCost_102 rfl rfl ?_
          refine s_istore (q := 105) (lv' := [(0, _), (1, _), (2, _), (3, _), (4, _), (5, _)]) hX dX7_plainCost_103 rfl (Nat.le_of_ble_eq_true rfl) rfl ?_
          refine s_iinc (q := 108) (v := 2) (lv' := [(0, _), (1, _), (2, _), (3, _), (4, _), (5, _)]) hX dX7_plainCost_105 rfl rfl (by decide) (Nat.le_of_ble_eq_true rfl) rfl ?_
          refine s_goto (q := 70) hX dX7_plainCost_108 rfl ?_
          refine s_iload (q := 72) hX dX7_plainCost_70 rfl rfl ?_
          refine s_iconst (q := 73) (v := 3) hX dX7_plainCost_72 rfl rfl ?_
          refine s_icmp_ge_f (q := 76) (r := 111) hX dX7_plainCost_73 rfl rfl (by decide) ?_
          refine s_iload (q := 78) hX dX7_plainCost_76 rfl rfl ?_
          refine s_if_eq_t (q := 81) (r := 111) hX dX7_plainCost_78 rfl rfl (by decide) ?_
          refine s_ret hX dX7_plainCost_111 rfl ⟨Nat.le_refl _, Nat.le_refl _, Nat.le_refl _, ?_⟩
          rw [gsr_gsr, gsr_s]
          refine hcon _ (fun s hs => co_3 (P := fun s => upd g _ _ s = nI (T.cs i k s)) ?_ ?_ ?_ hs) <;> (clear hX hcon hW o1 o2 o3 o4 o5 o6 o7 o8; simp only [gT.cs, pcs, upd]; first | (simp_all; done) | (simp_all; omega) | (repeat' split) <;> first | (simp_all; done) | (simp_all; omega) | omega)
      · refine s_aload_n (q := 92) hX dX7_plainCost_91 rfl rfl ?_
        refine s_getr (q := 95) hX dX7_plainCost_92 rfl gfl_7_41 (by assumption) rfl ?_
        refine s_iload (q := 97) hX dX7_plainCost_95 rfl rfl ?_
        refine s_dup2 (q := 98) hX dX7_plainCost_97 rfl rfl rfl ?_
        refine s_iald (k := 0) (q := 99) hX dX7_plainCost_98 rfl (by assumption) rfl (by omega) (by omega) ?_
        refine s_topi (v := nI (T.co (3 * k + 0))) (by rw [gsr_s]; exact q0) ?_
        refine s_iconst (q := 100) (v := 1) hX dX7_plainCost_99 rfl rfl ?_
        refine s_isub (q := 101) (v := nI (T.co (3 * k + 0) - 1)) hX dX7_plainCost_100 rfl (pk_sub (a := T.co (3 * k + 0)) (b := 1) (by omega)) ?_
        refine s_iast (k := 0) (q := 102) hX dX7_plainCost_101 rfl (by assumption) rfl (by omega) (by omega) ?_
        refine s_iconst (q := 103) (v := 0) hX dX7_plainCost_102 rfl rfl ?_
        refine s_istore (q := 105) (lv' := [(0, _), (1, _), (2, _), (3, _), (4, _), (5, _)]) hX dX7_plainCost_103 rfl (Nat.le_of_ble_eq_true rfl) rfl ?_
        refine s_iinc (q := 108) (v := 1) (lv' := [(0, _), (1, _), (2, _), (3, _), (4, _), (5, _)]) hX dX7_plainCost_105 rfl rfl (by decide) (Nat.le_of_ble_eq_true rfl) rfl ?_
        refine s_goto (q := 70) hX dX7_plainCost_108 rfl ?_
        refine s_iload (q := 72) hX dX7_plainCost_70 rfl rfl ?_
        refine s_iconst (q := 73) (v := 3) hX dX7_plainCost_72 rfl rfl ?_
        refine s_icmp_ge_f (q := 76) (r := 111) hX dX7_plainCost_73 rfl rfl (by decide) ?_
        refine s_iload (q := 78) hX dX7_plainCost_76 rfl rfl ?_
        refine s_if_eq_t (q := 81) (r := 111) hX dX7_plainCost_78 rfl rfl (by decide) ?_
        refine s_ret hX dX7_plainCost_111 rfl ⟨Nat.le_refl _, Nat.le_refl _, Nat.le_refl _, ?_⟩
        rw [gsr_gsr, gsr_s]
        refine hcon _ (fun s hs => co_3 (P := fun s => upd g _ _ s = nI (T.cs i k s)) ?_ ?_ ?_ hs) <;> (clear hX hcon hW o1 o2 o3 o4 o5 o6 o7 o8; simp only [gT.cs, pcs, upd]; first | (simp_all; done) | (simp_all; omega) | (repeat' split) <;> first | (simp_all; done) | (simp_all; omega) | omega)
set_option maxHeartbeats 4000000 in
set_option maxRecDepth 100000 in
theorem m_lacks {d a i : Nat} {c h : Nat → Nat} {sh : List gS} {M : gM} {Q : Option Value → List gS → gM → Prop} (hC : isMod sh) (hi : i < 6) (ha : a + 31 ≤ 372) (hb : ∀ s, s < 3 → M 94 s = nI (c s)) (hh : ∀ s, s < 3 → M 93 (a + 1 + (3 * i + s)) = nI (h s)) (hcs : ∀ s, s < 3 → c s ≤ 4) (hl : ∀ s, s < 3 → h s ≤ 99) (hcon : Q (some (.int (nI (lck c h 3)))) sh M) : gC mX7_lacks d 0 0 [.ref 83, .int (nI a), .int (nI i)] sh M Q := by
  have hC0 := hC
  obtain ⟨y0, y1, y2, y3, y4, y5, y6, y7, y8, y9, y10, y11, y12, y13, y14, y15⟩ := hC
  refine gC_of (rt := 1) (ini := false) gm_X7_lacks rfl (by decide) (Nat.le_of_ble_eq_true rfl) (fun X hX => ?_)
  have lk : ∀ s, s ≤ 3 → lck c h s ≤ 4 * s := by
    intro s
    induction s with
    | zero => intro _; exact Nat.le_refl 0
    | succ s ih =>
      intro hs
      have := ih (by omega)
      have := hcs s (by omega)
      show lck c h s + (c s - h s) ≤ _
      omega
  have L : ∀ (m s : Nat), s + m = 3 → X 5 [(0, .ref 83), (1, .int (nI a)), (2, .int (nI i)), (3, .int (nI (lck c h s))), (4, .int (nI s))] [] sh M 0 0 := by
    intro m
    induction m with
    | zero =>
      intro s hs
      have e : s = 3 := by omega
      subst e
      refine s_iload (q := 7) hX dX7_lacks_5 rfl rfl ?_
      refine s_iconst (q := 8) (v := 3) hX dX7_lacks_7 rfl rfl ?_
      refine s_icmp_ge_t (q := 11) (r := 56) hX dX7_lacks_8 rfl rfl (by decide) ?_
      refine s_iload_n (q := 57) hX dX7_lacks_56 rfl rfl ?_
      refine s_iret hX dX7_lacks_57 (Or.inl rfl) ⟨Nat.le_refl _, Nat.le_refl _, Nat.le_refl _, ?_⟩
      exact hcon
    | succ m ih =>
      intro s hs
      have lks := lk s (by omega)
      have hc4 := hcs s (by omega)
      have hl4 := hl s (by omega)
      refine s_iload (q := 7) hX dX7_lacks_5 rfl rfl ?_
      refine s_iconst (q := 8) (v := 3) hX dX7_lacks_7 rfl rfl ?_
      refine s_icmp_ge_f (q := 11) (r := 56) hX dX7_lacks_8 rfl rfl (Int32.not_le.mpr (nI_lt (b := 3) (by omega) (by omega))) ?_
      refine s_aload_n (q := 12) hX dX7_lacks_11 rfl rfl ?_
      refine s_getr (q := 15) hX dX7_lacks_12 rfl gfl_7_41 (by assumption) rfl ?_
      refine s_iload (q := 17) hX dX7_lacks_15 rfl rfl ?_
      refine s_iald (k := s) (q := 18) hX dX7_lacks_17 rfl (by assumption) rfl (by omega) (by omega) ?_
      refine s_topi (v := nI (c s)) (hb s (by omega)) ?_
      refine s_aload_n (q := 19) hX dX7_lacks_18 rfl rfl ?_
      refine s_getr (q := 22) hX dX7_lacks_19 rfl gfl_7_38 (by assumption) rfl ?_
      refine s_iload_n (q := 23) hX dX7_lacks_22 rfl rfl ?_
      refine s_iconst (q := 24) (v := 1) hX dX7_lacks_23 rfl rfl ?_
      refine s_iadd (q := 25) (v := nI (a + 1)) hX dX7_lacks_24 rfl (nI_add (a) (1)) ?_
      refine s_iconst (q := 26) (v := 3) hX dX7_lacks_25 rfl rfl ?_
      refine s_iload_n (q := 27) hX dX7_lacks_26 rfl rfl ?_
      refine s_imul (q := 28) (v := nI (3 * i)) hX dX7_lacks_27 rfl (pk_mul (3) (i)) ?_
      refine s_iadd (q := 29) (v := nI (a + 1 + (3 * i))) hX dX7_lacks_28 rfl (nI_add (a + 1) (3 * i)) ?_
      refine s_iload (q := 31) hX dX7_lacks_29 rfl rfl ?_
      refine s_iadd (q := 32) (v := nI (a + 1 + (3 * i) + s)) hX dX7_lacks_31 rfl (nI_add (a + 1 + (3 * i)) (s)) ?_
      refine s_iald (k := a + 1 + (3 * i + s)) (q := 33) hX dX7_lacks_32 rfl (by assumption) (congrArg nI (by omega)) (by omega) (by omega) ?_
      refine s_topi (v := nI (h s)) (hh s (by omega)) ?_
      refine s_isub (q := 34) hX dX7_lacks_33 rfl rfl ?_
      refine s_istore (q := 36) (lv' := [(0, _), (1, _), (2, _), (3, _), (4, _), (5, _)]) hX dX7_lacks_34 rfl (Nat.le_of_ble_eq_true rfl) rfl ?_
      refine s_iload_n (q := 37) hX dX7_lacks_36 rfl rfl ?_
      refine s_iload (q := 39) hX dX7_lacks_37 rfl rfl ?_
      refine s_if_le (q := 42) (r := 47) hX dX7_lacks_39 rfl rfl (fun c39 => ?_) (fun c39 => ?_)
      · refine s_iconst (q := 48) (v := 0) hX dX7_lacks_47 rfl rfl ?_
        refine s_iadd (q := 49) (v := nI (lck c h s + 0)) hX dX7_lacks_48 rfl (nI_add (lck c h s) (0)) ?_
        refine s_istore_n (q := 50) (lv' := [(0, _), (1, _), (2, _), (3, _), (4, _), (5, _)]) hX dX7_lacks_49 rfl (Nat.le_of_ble_eq_true rfl) rfl ?_
        refine s_iinc (q := 53) (v := nI (s + 1)) (lv' := [(0, _), (1, _), (2, _), (3, _), (4, _), (5, _)]) hX dX7_lacks_50 rfl rfl (nI_add (s) 1) (Nat.le_of_ble_eq_true rfl) rfl ?_
        refine s_goto (q := 5) hX dX7_lacks_53 rfl ?_
        have hle : c s ≤ h s := (gsub0 (by omega) (by omega)).mp c39
        have e : lck c h (s + 1) = lck c h s + 0 := by show lck c h s + (c s - h s) = _; omega
        have hi2 := ih (s + 1) (by omega)
        rw [e] at hi2
        exact s_dl hX hi2
      · have hlt : h s < c s := Nat.not_le.mp (fun z => c39 ((gsub0 (by omega) (by omega)).mpr z))
        rw [pk_sub (show h s ≤ c s by omega)]
        refine s_iload (q := 44) hX dX7_lacks_42 rfl rfl ?_
        refine s_goto (q := 48) hX dX7_lacks_44 rfl ?_
        refine s_iadd (q := 49) (v := nI (lck c h s + (c s - h s))) hX dX7_lacks_48 rfl (nI_add (lck c h s) (c s - h s)) ?_
        refine s_istore_n (q := 50) (lv' := [(0, _), (1, _), (2, _), (3, _), (4, _), (5, _)]) hX dX7_lacks_49 rfl (Nat.le_of_ble_eq_true rfl) rfl ?_
        refine s_iinc (q := 53) (v := nI (s + 1)) (lv' := [(0, _), (1, _), (2, _), (3, _), (4, _), (5, _)]) hX dX7_lacks_50 rfl rfl (nI_add (s) 1) (Nat.le_of_ble_eq_true rfl) rfl ?_
        refine s_goto (q := 5) hX dX7_lacks_53 rfl ?_
        exact s_dl hX (ih (s + 1) (by omega))
  refine s_iconst (q := 1) (v := 0) hX dX7_lacks_0 rfl rfl ?_
  refine s_istore_n (q := 2) (lv' := [(0, _), (1, _), (2, _), (3, _)]) hX dX7_lacks_1 rfl (Nat.le_of_ble_eq_true rfl) rfl ?_
  refine s_iconst (q := 3) (v := 0) hX dX7_lacks_2 rfl rfl ?_
  refine s_istore (q := 5) (lv' := [(0, _), (1, _), (2, _), (3, _), (4, _)]) hX dX7_lacks_3 rfl (Nat.le_of_ble_eq_true rfl) rfl ?_
  exact L 3 0 rfl
set_option maxHeartbeats 4000000 in
set_option maxRecDepth 100000 in
theorem m_canDo {d a : Nat} {T : gT} {U : gU} {i k : Nat} {sh : List gS} {M : gM} {Q : Option Value → List gS → gM → Prop} (hd : 1 ≤ d) (hC : isMod sh) (hW : TWM M T) (g1 : T.ok) (hU : STM M a T.P U) (hUk : U.ok T.P) (ha : a + 31 ≤ 372) (hi : i < T.P) (hk : k < T.D) (hcon : ∀ g, (T.can i k (U.tr i) = true → ∀ s, s < 3 → g s = nI (T.pay i k (U.tr i) s)) → Q (some (.int (if T.can i k (U.tr i) = true then 1 else 0))) sh (gsr M 94 g)) : gC mX7_canDo d 0 0 [.ref 83, .int (nI a), .int (nI i), .int (nI k)] sh M Q := by
  have hC0 := hC
  obtain ⟨y0, y1, y2, y3, y4, y5, y6, y7, y8, y9, y10, y11, y12, y13, y14, y15⟩ := hC
  have g0 := g1
  obtain ⟨o1, o2, o3, o4, o5, o6, o7, o8⟩ := g0
  have hkd := hW.2.2.2.1 i hi
  have bkd := o4 i hi
  have hcs : ∀ s, s < 3 → T.cs i k s ≤ 4 := fun s hs => Nat.le_trans pcs_le (o6 (3 * k + s) (by omega))
  have hl : ∀ s, s < 3 → U.tr i s ≤ 99 := fun s hs => hUk.1 (3 * i + s) (by omega)
  have hh : ∀ s, s < 3 → M 93 (a + 1 + (3 * i + s)) = nI (U.tr i s) := fun s hs => hU.2.1 (3 * i + s) (by omega)
  unfold gT.can gT.pay at hcon
  obtain ⟨c, hce⟩ : ∃ c, c = T.cs i k := ⟨_, rfl⟩
  obtain ⟨h, hhe⟩ : ∃ h, h = U.tr i := ⟨_, rfl⟩
  rw [← hce] at hcs hcon
  rw [← hhe] at hcon hl hh
  have hmle : ∀ s, s < 3 → mnc c h s ≤ h s := by
    intro s hs
    unfold mnc
    split <;> omega
  obtain ⟨m, hme⟩ : ∃ m, m = mnc c h := ⟨_, rfl⟩
  refine gC_of (rt := 2) (ini := false) gm_X7_canDo rfl (by decide) (Nat.le_of_ble_eq_true rfl) (fun X hX => ?_)
  have B : ∀ g, (∀ s, s < 3 → g s = nI (m s)) → lck c h 3 = 1 → T.kd i = 4 → X 115 [(0, .ref 83), (1, .int (nI a)), (2, .int (nI i)), (3, .int (nI k)), (4, .int (nI (lck c h 3))), (5, .int (nI (a + 1 + 3 * i))), (6, .int 0), (7, .int 3)] [] sh (gsr M 94 g) 0 0 := by
    intro g hg h1 h4
    have l0 := hl 0 (by omega)
    have l1 := hl 1 (by omega)
    have l2 := hl 2 (by omega)
    rw [← hme] at hmle
    have m0 := hmle 0 (by omega)
    have m1 := hmle 1 (by omega)
    have m2 := hmle 2 (by omega)
    refine s_iconst (q := 116) (v := 1) hX dX7_canDo_115 rfl rfl ?_
    refine s_istore (q := 118) (lv' := [(0, _), (1, _), (2, _), (3, _), (4, _), (5, _), (6, _), (7, _)]) hX dX7_canDo_116 rfl (Nat.le_of_ble_eq_true rfl) rfl ?_
    refine s_iload (q := 120) hX dX7_canDo_118 rfl rfl ?_
    refine s_iconst (q := 121) (v := 3) hX dX7_canDo_120 rfl rfl ?_
    refine s_icmp_ge_f (q := 124) (r := 178) hX dX7_canDo_121 rfl rfl (by decide) ?_
    refine s_aload_n (q := 125) hX dX7_canDo_124 rfl rfl ?_
    refine s_getr (q := 128) hX dX7_canDo_125 rfl gfl_7_38 (by assumption) rfl ?_
    refine s_iload (q := 130) hX dX7_canDo_128 rfl rfl ?_
    refine s_iload (q := 132) hX dX7_canDo_130 rfl rfl ?_
    refine s_iadd (q := 133) (v := nI (a + 1 + 3 * i + 1)) hX dX7_canDo_132 rfl (nI_add (a + 1 + 3 * i) (1)) ?_
    refine s_iald (k := a + 1 + 3 * i + 1) (q := 134) hX dX7_canDo_133 rfl (by assumption) rfl (by omega) (by omega) ?_
    refine s_topi (v := nI (h 1)) (by rw [gsr_n _ _ (by decide), show a + 1 + 3 * i + 1 = a + 1 + (3 * i + 1) by omega]; exact hh 1 (by omega)) ?_
    refine s_aload_n (q := 135) hX dX7_canDo_134 rfl rfl ?_
    refine s_getr (q := 138) hX dX7_canDo_135 rfl gfl_7_41 (by assumption) rfl ?_
    refine s_iload (q := 140) hX dX7_canDo_138 rfl rfl ?_
    refine s_iald (k := 1) (q := 141) hX dX7_canDo_140 rfl (by assumption) rfl (by omega) (by omega) ?_
    refine s_topi (v := nI (m 1)) (by rw [gsr_s]; exact hg 1 (by omega)) ?_
    refine s_isub (q := 142) (v := nI (h 1 - m 1)) hX dX7_canDo_141 rfl (pk_sub (by omega)) ?_
    refine s_aload_n (q := 143) hX dX7_canDo_142 rfl rfl ?_
    refine s_getr (q := 146) hX dX7_canDo_143 rfl gfl_7_38 (by assumption) rfl ?_
    refine s_iload (q := 148) hX dX7_canDo_146 rfl rfl ?_
    refine s_iload (q := 150) hX dX7_canDo_148 rfl rfl ?_
    refine s_iadd (q := 151) (v := nI (a + 1 + 3 * i + 0)) hX dX7_canDo_150 rfl (nI_add (a + 1 + 3 * i) (0)) ?_
    refine s_iald (k := a + 1 + 3 * i + 0) (q := 152) hX dX7_canDo_151 rfl (by assumption) rfl (by omega) (by omega) ?_
    refine s_topi (v := nI (h 0)) (by rw [gsr_n _ _ (by decide), show a + 1 + 3 * i + 0 = a + 1 + (3 * i + 0) by omega]; exact hh 0 (by omega)) ?_
    refine s_aload_n (q := 153) hX dX7_canDo_152 rfl rfl ?_
    refine s_getr (q := 156) hX dX7_canDo_153 rfl gfl_7_41 (by assumption) rfl ?_
    refine s_iload (q := 158) hX dX7_canDo_156 rfl rfl ?_
    refine s_iald (k := 0) (q := 159) hX dX7_canDo_158 rfl (by assumption) rfl (by omega) (by omega) ?_
    refine s_topi (v := nI (m 0)) (by rw [gsr_s]; exact hg 0 (by omega)) ?_
    refine s_isub (q := 160) (v := nI (h 0 - m 0)) hX dX7_canDo_159 rfl (pk_sub (by omega)) ?_
    refine s_nicmp_le (a := h 1 - m 1) (b := h 0 - m 0) (q := 163) (r := 168) hX dX7_canDo_160 rfl rfl rfl rfl (by omega) (by omega) (fun c160 => ?_) (fun c160 => ?_)
    · refine s_iload (q := 170) hX dX7_canDo_168 rfl rfl ?_
      refine s_istore (q := 172) (lv' := [(0, _), (1, _), (2, _), (3, _), (4, _), (5, _), (6, _), (7, _)]) hX dX7_canDo_170 rfl (Nat.le_of_ble_eq_true rfl) rfl ?_
      refine s_iinc (q := 175) (v := 2) (lv' := [(0, _), (1, _), (2, _), (3, _), (4, _), (5, _), (6, _), (7, _)]) hX dX7_canDo_172 rfl rfl (by decide) (Nat.le_of_ble_eq_true rfl) rfl ?_
      refine s_goto (q := 118) hX dX7_canDo_175 rfl ?_
      refine s_iload (q := 120) hX dX7_canDo_118 rfl rfl ?_
      refine s_iconst (q := 121) (v := 3) hX dX7_canDo_120 rfl rfl ?_
      refine s_icmp_ge_f (q := 124) (r := 178) hX dX7_canDo_121 rfl rfl (by decide) ?_
      refine s_aload_n (q := 125) hX dX7_canDo_124 rfl rfl ?_
      refine s_getr (q := 128) hX dX7_canDo_125 rfl gfl_7_38 (by assumption) rfl ?_
      refine s_iload (q := 130) hX dX7_canDo_128 rfl rfl ?_
      refine s_iload (q := 132) hX dX7_canDo_130 rfl rfl ?_
      refine s_iadd (q := 133) (v := nI (a + 1 + 3 * i + 2)) hX dX7_canDo_132 rfl (nI_add (a + 1 + 3 * i) (2)) ?_
      refine s_iald (k := a + 1 + 3 * i + 2) (q := 134) hX dX7_canDo_133 rfl (by assumption) rfl (by omega) (by omega) ?_
      refine s_topi (v := nI (h 2)) (by rw [gsr_n _ _ (by decide), show a + 1 + 3 * i + 2 = a + 1 + (3 * i + 2) by omega]; exact hh 2 (by omega)) ?_
      refine s_aload_n (q := 135) hX dX7_canDo_134 rfl rfl ?_
      refine s_getr (q := 138) hX dX7_canDo_135 rfl gfl_7_41 (by assumption) rfl ?_
      refine s_iload (q := 140) hX dX7_canDo_138 rfl rfl ?_
      refine s_iald (k := 2) (q := 141) hX dX7_canDo_140 rfl (by assumption) rfl (by omega) (by omega) ?_
      refine s_topi (v := nI (m 2)) (by rw [gsr_s]; exact hg 2 (by omega)) ?_
      refine s_isub (q := 142) (v := nI (h 2 - m 2)) hX dX7_canDo_141 rfl (pk_sub (by omega)) ?_
      refine s_aload_n (q := 143) hX dX7_canDo_142 rfl rfl ?_
      refine s_getr (q := 146) hX dX7_canDo_143 rfl gfl_7_38 (by assumption) rfl ?_
      refine s_iload (q := 148) hX dX7_canDo_146 rfl rfl ?_
      refine s_iload (q := 150) hX dX7_canDo_148 rfl rfl ?_
      refine s_iadd (q := 151) (v := nI (a + 1 + 3 * i + 0)) hX dX7_canDo_150 rfl (nI_add (a + 1 + 3 * i) (0)) ?_
      refine s_iald (k := a + 1 + 3 * i + 0) (q := 152) hX dX7_canDo_151 rfl (by assumption) rfl (by omega) (by omega) ?_
      refine s_topi (v := nI (h 0)) (by rw [gsr_n _ _ (by decide), show a + 1 + 3 * i + 0 = a + 1 + (3 * i + 0) by omega]; exact hh 0 (by omega)) ?_
      refine s_aload_n (q := 153) hX dX7_canDo_152 rfl rfl ?_
      refine s_getr (q := 156) hX dX7_canDo_153 rfl gfl_7_41 (by assumption) rfl ?_
      refine s_iload (q := 158) hX dX7_canDo_156 rfl rfl ?_
      refine s_iald (k := 0) (q := 159) hX dX7_canDo_158 rfl (by assumption) rfl (by omega) (by omega) ?_
      refine s_topi (v := nI (m 0)) (by rw [gsr_s]; exact hg 0 (by omega)) ?_
      refine s_isub (q := 160) (v := nI (h 0 - m 0)) hX dX7_canDo_159 rfl (pk_sub (by omega)) ?_
      refine s_nicmp_le (a := h 2 - m 2) (b := h 0 - m 0) (q := 163) (r := 168) hX dX7_canDo_160 rfl rfl rfl rfl (by omega) (by omega) (fun c160_1 => ?_) (fun c160_1 => ?_)
      · refine s_iload (q := 170) hX dX7_canDo_168 rfl rfl ?_
        refine s_istore (q := 172) (lv' := [(0, _), (1, _), (2, _), (3, _), (4, _), (5, _), (6, _), (7, _)]) hX dX7_canDo_170 rfl (Nat.le_of_ble_eq_true rfl) rfl ?_
        refine s_iinc (q := 175) (v := 3) (lv' := [(0, _), (1, _), (2, _), (3, _), (4, _), (5, _), (6, _), (7, _)]) hX dX7_canDo_172 rfl rfl (by decide) (Nat.le_of_ble_eq_true rfl) rfl ?_
        refine s_goto (q := 118) hX dX7_canDo_175 rfl ?_
        refine s_iload (q := 120) hX dX7_canDo_118 rfl rfl ?_
        refine s_iconst (q := 121) (v := 3) hX dX7_canDo_120 rfl rfl ?_
        refine s_icmp_ge_t (q := 124) (r := 178) hX dX7_canDo_121 rfl rfl (by decide) ?_
        refine s_aload_n (q := 179) hX dX7_canDo_178 rfl rfl ?_
        refine s_getr (q := 182) hX dX7_canDo_179 rfl gfl_7_38 (by assumption) rfl ?_
        refine s_iload (q := 184) hX dX7_canDo_182 rfl rfl ?_
        refine s_iload (q := 186) hX dX7_canDo_184 rfl rfl ?_
        refine s_iadd (q := 187) (v := nI (a + 1 + 3 * i + 0)) hX dX7_canDo_186 rfl (nI_add (a + 1 + 3 * i) (0)) ?_
        refine s_iald (k := a + 1 + 3 * i + 0) (q := 188) hX dX7_canDo_187 rfl (by assumption) rfl (by omega) (by omega) ?_
        refine s_topi (v := nI (h 0)) (by rw [gsr_n _ _ (by decide), show a + 1 + 3 * i + 0 = a + 1 + (3 * i + 0) by omega]; exact hh 0 (by omega)) ?_
        refine s_aload_n (q := 189) hX dX7_canDo_188 rfl rfl ?_
        refine s_getr (q := 192) hX dX7_canDo_189 rfl gfl_7_41 (by assumption) rfl ?_
        refine s_iload (q := 194) hX dX7_canDo_192 rfl rfl ?_
        refine s_iald (k := 0) (q := 195) hX dX7_canDo_194 rfl (by assumption) rfl (by omega) (by omega) ?_
        refine s_topi (v := nI (m 0)) (by rw [gsr_s]; exact hg 0 (by omega)) ?_
        refine s_isub (q := 196) (v := nI (h 0 - m 0)) hX dX7_canDo_195 rfl (pk_sub (by omega)) ?_
        refine s_iconst (q := 197) (v := 2) hX dX7_canDo_196 rfl rfl ?_
        refine s_nicmp_lt (a := h 0 - m 0) (b := 2) (q := 200) (r := 204) hX dX7_canDo_197 rfl rfl rfl rfl (by omega) (by omega) (fun c197 => ?_) (fun c197 => ?_)
        · refine s_iconst (q := 205) (v := 0) hX dX7_canDo_204 rfl rfl ?_
          refine s_istore (q := 207) (lv' := [(0, _), (1, _), (2, _), (3, _), (4, _), (5, _), (6, _), (7, _)]) hX dX7_canDo_205 rfl (Nat.le_of_ble_eq_true rfl) rfl ?_
          refine s_aload_n (q := 208) hX dX7_canDo_207 rfl rfl ?_
          refine s_getr (q := 211) hX dX7_canDo_208 rfl gfl_7_41 (by assumption) rfl ?_
          refine s_iload (q := 213) hX dX7_canDo_211 rfl rfl ?_
          refine s_dup2 (q := 214) hX dX7_canDo_213 rfl rfl rfl ?_
          refine s_iald (k := 0) (q := 215) hX dX7_canDo_214 rfl (by assumption) rfl (by omega) (by omega) ?_
          refine s_topi (v := nI (m 0)) (by rw [gsr_s]; exact hg 0 (by omega)) ?_
          refine s_iconst (q := 216) (v := 2) hX dX7_canDo_215 rfl rfl ?_
          refine s_iadd (q := 217) (v := nI (m 0 + 2)) hX dX7_canDo_216 rfl (nI_add (m 0) (2)) ?_
          refine s_iast (k := 0) (q := 218) hX dX7_canDo_217 rfl (by assumption) rfl (by omega) (by omega) ?_
          refine s_iload (q := 220) hX dX7_canDo_218 rfl rfl ?_
          refine s_iret hX dX7_canDo_220 (Or.inr ⟨rfl, Or.inl rfl⟩) ⟨Nat.le_refl _, Nat.le_refl _, Nat.le_refl _, ?_⟩
          have hr : rich m h = 0 := by unfold rich; (repeat' split) <;> omega
          rw [gsr_gsr, gsr_s]
          have hr2 : rich (mnc c h) h = 0 := by rw [← hme]; exact hr
          have hc : ¬ canC (T.kd i) c h = true := by
            intro z
            simp only [canC, Bool.or_eq_true, Bool.and_eq_true, decide_eq_true_eq, ← hme, hr] at z
            omega
          exact gqv (hcon _ (fun z => absurd z hc)) (by rw [if_neg hc]) rfl
        · refine s_iconst (q := 201) (v := 1) hX dX7_canDo_200 rfl rfl ?_
          refine s_goto (q := 205) hX dX7_canDo_201 rfl ?_
          refine s_istore (q := 207) (lv' := [(0, _), (1, _), (2, _), (3, _), (4, _), (5, _), (6, _), (7, _)]) hX dX7_canDo_205 rfl (Nat.le_of_ble_eq_true rfl) rfl ?_
          refine s_aload_n (q := 208) hX dX7_canDo_207 rfl rfl ?_
          refine s_getr (q := 211) hX dX7_canDo_208 rfl gfl_7_41 (by assumption) rfl ?_
          refine s_iload (q := 213) hX dX7_canDo_211 rfl rfl ?_
          refine s_dup2 (q := 214) hX dX7_canDo_213 rfl rfl rfl ?_
          refine s_iald (k := 0) (q := 215) hX dX7_canDo_214 rfl (by assumption) rfl (by omega) (by omega) ?_
          refine s_topi (v := nI (m 0)) (by rw [gsr_s]; exact hg 0 (by omega)) ?_
          refine s_iconst (q := 216) (v := 2) hX dX7_canDo_215 rfl rfl ?_
          refine s_iadd (q := 217) (v := nI (m 0 + 2)) hX dX7_canDo_216 rfl (nI_add (m 0) (2)) ?_
          refine s_iast (k := 0) (q := 218) hX dX7_canDo_217 rfl (by assumption) rfl (by omega) (by omega) ?_
          refine s_iload (q := 220) hX dX7_canDo_218 rfl rfl ?_
          refine s_iret hX dX7_canDo_220 (Or.inr ⟨rfl, Or.inr rfl⟩) ⟨Nat.le_refl _, Nat.le_refl _, Nat.le_refl _, ?_⟩
          have hr : rich m h = 0 := by unfold rich; (repeat' split) <;> omega
          rw [gsr_gsr, gsr_s]
          have hr2 : rich (mnc c h) h = 0 := by rw [← hme]; exact hr
          have hc : canC (T.kd i) c h = true := by simp [canC, h1, h4, ← hme, hr]; omega
          refine gqv (hcon _ (fun _ s hs => ?_)) (by rw [if_pos hc]) rfl
          unfold payC
          rw [if_neg (by omega), hr2, ← hme]
          show (if s = 0 then _ else _) = _
          by_cases e : s = 0
          · subst e; rw [if_pos rfl, if_pos rfl]
          · rw [if_neg e, if_neg e]; exact hg s hs
      · refine s_iload (q := 165) hX dX7_canDo_163 rfl rfl ?_
        refine s_goto (q := 170) hX dX7_canDo_165 rfl ?_
        refine s_istore (q := 172) (lv' := [(0, _), (1, _), (2, _), (3, _), (4, _), (5, _), (6, _), (7, _)]) hX dX7_canDo_170 rfl (Nat.le_of_ble_eq_true rfl) rfl ?_
        refine s_iinc (q := 175) (v := 3) (lv' := [(0, _), (1, _), (2, _), (3, _), (4, _), (5, _), (6, _), (7, _)]) hX dX7_canDo_172 rfl rfl (by decide) (Nat.le_of_ble_eq_true rfl) rfl ?_
        refine s_goto (q := 118) hX dX7_canDo_175 rfl ?_
        refine s_iload (q := 120) hX dX7_canDo_118 rfl rfl ?_
        refine s_iconst (q := 121) (v := 3) hX dX7_canDo_120 rfl rfl ?_
        refine s_icmp_ge_t (q := 124) (r := 178) hX dX7_canDo_121 rfl rfl (by decide) ?_
        refine s_aload_n (q := 179) hX dX7_canDo_178 rfl rfl ?_
        refine s_getr (q := 182) hX dX7_canDo_179 rfl gfl_7_38 (by assumption) rfl ?_
        refine s_iload (q := 184) hX dX7_canDo_182 rfl rfl ?_
        refine s_iload (q := 186) hX dX7_canDo_184 rfl rfl ?_
        refine s_iadd (q := 187) (v := nI (a + 1 + 3 * i + 2)) hX dX7_canDo_186 rfl (nI_add (a + 1 + 3 * i) (2)) ?_
        refine s_iald (k := a + 1 + 3 * i + 2) (q := 188) hX dX7_canDo_187 rfl (by assumption) rfl (by omega) (by omega) ?_
        refine s_topi (v := nI (h 2)) (by rw [gsr_n _ _ (by decide), show a + 1 + 3 * i + 2 = a + 1 + (3 * i + 2) by omega]; exact hh 2 (by omega)) ?_
        refine s_aload_n (q := 189) hX dX7_canDo_188 rfl rfl ?_
        refine s_getr (q := 192) hX dX7_canDo_189 rfl gfl_7_41 (by assumption) rfl ?_
        refine s_iload (q := 194) hX dX7_canDo_192 rfl rfl ?_
        refine s_iald (k := 2) (q := 195) hX dX7_canDo_194 rfl (by assumption) rfl (by omega) (by omega) ?_
        refine s_topi (v := nI (m 2)) (by rw [gsr_s]; exact hg 2 (by omega)) ?_
        refine s_isub (q := 196) (v := nI (h 2 - m 2)) hX dX7_canDo_195 rfl (pk_sub (by omega)) ?_
        refine s_iconst (q := 197) (v := 2) hX dX7_canDo_196 rfl rfl ?_
        refine s_nicmp_lt (a := h 2 - m 2) (b := 2) (q := 200) (r := 204) hX dX7_canDo_197 rfl rfl rfl rfl (by omega) (by omega) (fun c197_1 => ?_) (fun c197_1 => ?_)
        · refine s_iconst (q := 205) (v := 0) hX dX7_canDo_204 rfl rfl ?_
          refine s_istore (q := 207) (lv' := [(0, _), (1, _), (2, _), (3, _), (4, _), (5, _), (6, _), (7, _)]) hX dX7_canDo_205 rfl (Nat.le_of_ble_eq_true rfl) rfl ?_
          refine s_aload_n (q := 208) hX dX7_canDo_207 rfl rfl ?_
          refine s_getr (q := 211) hX dX7_canDo_208 rfl gfl_7_41 (by assumption) rfl ?_
          refine s_iload (q := 213) hX dX7_canDo_211 rfl rfl ?_
          refine s_dup2 (q := 214) hX dX7_canDo_213 rfl rfl rfl ?_
          refine s_iald (k := 2) (q := 215) hX dX7_canDo_214 rfl (by assumption) rfl (by omega) (by omega) ?_
          refine s_topi (v := nI (m 2)) (by rw [gsr_s]; exact hg 2 (by omega)) ?_
          refine s_iconst (q := 216) (v := 2) hX dX7_canDo_215 rfl rfl ?_
          refine s_iadd (q := 217) (v := nI (m 2 + 2)) hX dX7_canDo_216 rfl (nI_add (m 2) (2)) ?_
          refine s_iast (k := 2) (q := 218) hX dX7_canDo_217 rfl (by assumption) rfl (by omega) (by omega) ?_
          refine s_iload (q := 220) hX dX7_canDo_218 rfl rfl ?_
          refine s_iret hX dX7_canDo_220 (Or.inr ⟨rfl, Or.inl rfl⟩) ⟨Nat.le_refl _, Nat.le_refl _, Nat.le_refl _, ?_⟩
          have hr : rich m h = 2 := by unfold rich; (repeat' split) <;> omega
          rw [gsr_gsr, gsr_s]
          have hr2 : rich (mnc c h) h = 2 := by rw [← hme]; exact hr
          have hc : ¬ canC (T.kd i) c h = true := by
            intro z
            simp only [canC, Bool.or_eq_true, Bool.and_eq_true, decide_eq_true_eq, ← hme, hr] at z
            omega
          exact gqv (hcon _ (fun z => absurd z hc)) (by rw [if_neg hc]) rfl
        · refine s_iconst (q := 201) (v := 1) hX dX7_canDo_200 rfl rfl ?_
          refine s_goto (q := 205) hX dX7_canDo_201 rfl ?_
          refine s_istore (q := 207) (lv' := [(0, _), (1, _), (2, _), (3, _), (4, _), (5, _), (6, _), (7, _)]) hX dX7_canDo_205 rfl (Nat.le_of_ble_eq_true rfl) rfl ?_
          refine s_aload_n (q := 208) hX dX7_canDo_207 rfl rfl ?_
          refine s_getr (q := 211) hX dX7_canDo_208 rfl gfl_7_41 (by assumption) rfl ?_
          refine s_iload (q := 213) hX dX7_canDo_211 rfl rfl ?_
          refine s_dup2 (q := 214) hX dX7_canDo_213 rfl rfl rfl ?_
          refine s_iald (k := 2) (q := 215) hX dX7_canDo_214 rfl (by assumption) rfl (by omega) (by omega) ?_
          refine s_topi (v := nI (m 2)) (by rw [gsr_s]; exact hg 2 (by omega)) ?_
          refine s_iconst (q := 216) (v := 2) hX dX7_canDo_215 rfl rfl ?_
          refine s_iadd (q := 217) (v := nI (m 2 + 2)) hX dX7_canDo_216 rfl (nI_add (m 2) (2)) ?_
          refine s_iast (k := 2) (q := 218) hX dX7_canDo_217 rfl (by assumption) rfl (by omega) (by omega) ?_
          refine s_iload (q := 220) hX dX7_canDo_218 rfl rfl ?_
          refine s_iret hX dX7_canDo_220 (Or.inr ⟨rfl, Or.inr rfl⟩) ⟨Nat.le_refl _, Nat.le_refl _, Nat.le_refl _, ?_⟩
          have hr : rich m h = 2 := by unfold rich; (repeat' split) <;> omega
          rw [gsr_gsr, gsr_s]
          have hr2 : rich (mnc c h) h = 2 := by rw [← hme]; exact hr
          have hc : canC (T.kd i) c h = true := by simp [canC, h1, h4, ← hme, hr]; omega
          refine gqv (hcon _ (fun _ s hs => ?_)) (by rw [if_pos hc]) rfl
          unfold payC
          rw [if_neg (by omega), hr2, ← hme]
          show (if s = 2 then _ else _) = _
          by_cases e : s = 2
          · subst e; rw [if_pos rfl, if_pos rfl]
          · rw [if_neg e, if_neg e]; exact hg s hs
    · refine s_iload (q := 165) hX dX7_canDo_163 rfl rfl ?_
      refine s_goto (q := 170) hX dX7_canDo_165 rfl ?_
      refine s_istore (q := 172) (lv' := [(0, _), (1, _), (2, _), (3, _), (4, _), (5, _), (6, _), (7, _)]) hX dX7_canDo_170 rfl (Nat.le_of_ble_eq_true rfl) rfl ?_
      refine s_iinc (q := 175) (v := 2) (lv' := [(0, _), (1, _), (2, _), (3, _), (4, _), (5, _), (6, _), (7, _)]) hX dX7_canDo_172 rfl rfl (by decide) (Nat.le_of_ble_eq_true rfl) rfl ?_
      refine s_goto (q := 118) hX dX7_canDo_175 rfl ?_
      refine s_iload (q := 120) hX dX7_canDo_118 rfl rfl ?_
      refine s_iconst (q := 121) (v := 3) hX dX7_canDo_120 rfl rfl ?_
      refine s_icmp_ge_f (q := 124) (r := 178) hX dX7_canDo_121 rfl rfl (by decide) ?_
      refine s_aload_n (q := 125) hX dX7_canDo_124 rfl rfl ?_
      refine s_getr (q := 128) hX dX7_canDo_125 rfl gfl_7_38 (by assumption) rfl ?_
      refine s_iload (q := 130) hX dX7_canDo_128 rfl rfl ?_
      refine s_iload (q := 132) hX dX7_canDo_130 rfl rfl ?_
      refine s_iadd (q := 133) (v := nI (a + 1 + 3 * i + 2)) hX dX7_canDo_132 rfl (nI_add (a + 1 + 3 * i) (2)) ?_
      refine s_iald (k := a + 1 + 3 * i + 2) (q := 134) hX dX7_canDo_133 rfl (by assumption) rfl (by omega) (by omega) ?_
      refine s_topi (v := nI (h 2)) (by rw [gsr_n _ _ (by decide), show a + 1 + 3 * i + 2 = a + 1 + (3 * i + 2) by omega]; exact hh 2 (by omega)) ?_
      refine s_aload_n (q := 135) hX dX7_canDo_134 rfl rfl ?_
      refine s_getr (q := 138) hX dX7_canDo_135 rfl gfl_7_41 (by assumption) rfl ?_
      refine s_iload (q := 140) hX dX7_canDo_138 rfl rfl ?_
      refine s_iald (k := 2) (q := 141) hX dX7_canDo_140 rfl (by assumption) rfl (by omega) (by omega) ?_
      refine s_topi (v := nI (m 2)) (by rw [gsr_s]; exact hg 2 (by omega)) ?_
      refine s_isub (q := 142) (v := nI (h 2 - m 2)) hX dX7_canDo_141 rfl (pk_sub (by omega)) ?_
      refine s_aload_n (q := 143) hX dX7_canDo_142 rfl rfl ?_
      refine s_getr (q := 146) hX dX7_canDo_143 rfl gfl_7_38 (by assumption) rfl ?_
      refine s_iload (q := 148) hX dX7_canDo_146 rfl rfl ?_
      refine s_iload (q := 150) hX dX7_canDo_148 rfl rfl ?_
      refine s_iadd (q := 151) (v := nI (a + 1 + 3 * i + 1)) hX dX7_canDo_150 rfl (nI_add (a + 1 + 3 * i) (1)) ?_
      refine s_iald (k := a + 1 + 3 * i + 1) (q := 152) hX dX7_canDo_151 rfl (by assumption) rfl (by omega) (by omega) ?_
      refine s_topi (v := nI (h 1)) (by rw [gsr_n _ _ (by decide), show a + 1 + 3 * i + 1 = a + 1 + (3 * i + 1) by omega]; exact hh 1 (by omega)) ?_
      refine s_aload_n (q := 153) hX dX7_canDo_152 rfl rfl ?_
      refine s_getr (q := 156) hX dX7_canDo_153 rfl gfl_7_41 (by assumption) rfl ?_
      refine s_iload (q := 158) hX dX7_canDo_156 rfl rfl ?_
      refine s_iald (k := 1) (q := 159) hX dX7_canDo_158 rfl (by assumption) rfl (by omega) (by omega) ?_
      refine s_topi (v := nI (m 1)) (by rw [gsr_s]; exact hg 1 (by omega)) ?_
      refine s_isub (q := 160) (v := nI (h 1 - m 1)) hX dX7_canDo_159 rfl (pk_sub (by omega)) ?_
      refine s_nicmp_le (a := h 2 - m 2) (b := h 1 - m 1) (q := 163) (r := 168) hX dX7_canDo_160 rfl rfl rfl rfl (by omega) (by omega) (fun c160_2 => ?_) (fun c160_2 => ?_)
      · refine s_iload (q := 170) hX dX7_canDo_168 rfl rfl ?_
        refine s_istore (q := 172) (lv' := [(0, _), (1, _), (2, _), (3, _), (4, _), (5, _), (6, _), (7, _)]) hX dX7_canDo_170 rfl (Nat.le_of_ble_eq_true rfl) rfl ?_
        refine s_iinc (q := 175) (v := 3) (lv' := [(0, _), (1, _), (2, _), (3, _), (4, _), (5, _), (6, _), (7, _)]) hX dX7_canDo_172 rfl rfl (by decide) (Nat.le_of_ble_eq_true rfl) rfl ?_
        refine s_goto (q := 118) hX dX7_canDo_175 rfl ?_
        refine s_iload (q := 120) hX dX7_canDo_118 rfl rfl ?_
        refine s_iconst (q := 121) (v := 3) hX dX7_canDo_120 rfl rfl ?_
        refine s_icmp_ge_t (q := 124) (r := 178) hX dX7_canDo_121 rfl rfl (by decide) ?_
        refine s_aload_n (q := 179) hX dX7_canDo_178 rfl rfl ?_
        refine s_getr (q := 182) hX dX7_canDo_179 rfl gfl_7_38 (by assumption) rfl ?_
        refine s_iload (q := 184) hX dX7_canDo_182 rfl rfl ?_
        refine s_iload (q := 186) hX dX7_canDo_184 rfl rfl ?_
        refine s_iadd (q := 187) (v := nI (a + 1 + 3 * i + 1)) hX dX7_canDo_186 rfl (nI_add (a + 1 + 3 * i) (1)) ?_
        refine s_iald (k := a + 1 + 3 * i + 1) (q := 188) hX dX7_canDo_187 rfl (by assumption) rfl (by omega) (by omega) ?_
        refine s_topi (v := nI (h 1)) (by rw [gsr_n _ _ (by decide), show a + 1 + 3 * i + 1 = a + 1 + (3 * i + 1) by omega]; exact hh 1 (by omega)) ?_
        refine s_aload_n (q := 189) hX dX7_canDo_188 rfl rfl ?_
        refine s_getr (q := 192) hX dX7_canDo_189 rfl gfl_7_41 (by assumption) rfl ?_
        refine s_iload (q := 194) hX dX7_canDo_192 rfl rfl ?_
        refine s_iald (k := 1) (q := 195) hX dX7_canDo_194 rfl (by assumption) rfl (by omega) (by omega) ?_
        refine s_topi (v := nI (m 1)) (by rw [gsr_s]; exact hg 1 (by omega)) ?_
        refine s_isub (q := 196) (v := nI (h 1 - m 1)) hX dX7_canDo_195 rfl (pk_sub (by omega)) ?_
        refine s_iconst (q := 197) (v := 2) hX dX7_canDo_196 rfl rfl ?_
        refine s_nicmp_lt (a := h 1 - m 1) (b := 2) (q := 200) (r := 204) hX dX7_canDo_197 rfl rfl rfl rfl (by omega) (by omega) (fun c197_2 => ?_) (fun c197_2 => ?_)
        · refine s_iconst (q := 205) (v := 0) hX dX7_canDo_204 rfl rfl ?_
          refine s_istore (q := 207) (lv' := [(0, _), (1, _), (2, _), (3, _), (4, _), (5, _), (6, _), (7, _)]) hX dX7_canDo_205 rfl (Nat.le_of_ble_eq_true rfl) rfl ?_
          refine s_aload_n (q := 208) hX dX7_canDo_207 rfl rfl ?_
          refine s_getr (q := 211) hX dX7_canDo_208 rfl gfl_7_41 (by assumption) rfl ?_
          refine s_iload (q := 213) hX dX7_canDo_211 rfl rfl ?_
          refine s_dup2 (q := 214) hX dX7_canDo_213 rfl rfl rfl ?_
          refine s_iald (k := 1) (q := 215) hX dX7_canDo_214 rfl (by assumption) rfl (by omega) (by omega) ?_
          refine s_topi (v := nI (m 1)) (by rw [gsr_s]; exact hg 1 (by omega)) ?_
          refine s_iconst (q := 216) (v := 2) hX dX7_canDo_215 rfl rfl ?_
          refine s_iadd (q := 217) (v := nI (m 1 + 2)) hX dX7_canDo_216 rfl (nI_add (m 1) (2)) ?_
          refine s_iast (k := 1) (q := 218) hX dX7_canDo_217 rfl (by assumption) rfl (by omega) (by omega) ?_
          refine s_iload (q := 220) hX dX7_canDo_218 rfl rfl ?_
          refine s_iret hX dX7_canDo_220 (Or.inr ⟨rfl, Or.inl rfl⟩) ⟨Nat.le_refl _, Nat.le_refl _, Nat.le_refl _, ?_⟩
          have hr : rich m h = 1 := by unfold rich; (repeat' split) <;> omega
          rw [gsr_gsr, gsr_s]
          have hr2 : rich (mnc c h) h = 1 := by rw [← hme]; exact hr
          have hc : ¬ canC (T.kd i) c h = true := by
            intro z
            simp only [canC, Bool.or_eq_true, Bool.and_eq_true, decide_eq_true_eq, ← hme, hr] at z
            omega
          exact gqv (hcon _ (fun z => absurd z hc)) (by rw [if_neg hc]) rfl
        · refine s_iconst (q := 201) (v := 1) hX dX7_canDo_200 rfl rfl ?_
          refine s_goto (q := 205) hX dX7_canDo_201 rfl ?_
          refine s_istore (q := 207) (lv' := [(0, _), (1, _), (2, _), (3, _), (4, _), (5, _), (6, _), (7, _)]) hX dX7_canDo_205 rfl (Nat.le_of_ble_eq_true rfl) rfl ?_
          refine s_aload_n (q := 208) hX dX7_canDo_207 rfl rfl ?_
          refine s_getr (q := 211) hX dX7_canDo_208 rfl gfl_7_41 (by assumption) rfl ?_
          refine s_iload (q := 213) hX dX7_canDo_211 rfl rfl ?_
          refine s_dup2 (q := 214) hX dX7_canDo_213 rfl rfl rfl ?_
          refine s_iald (k := 1) (q := 215) hX dX7_canDo_214 rfl (by assumption) rfl (by omega) (by omega) ?_
          refine s_topi (v := nI (m 1)) (by rw [gsr_s]; exact hg 1 (by omega)) ?_
          refine s_iconst (q := 216) (v := 2) hX dX7_canDo_215 rfl rfl ?_
          refine s_iadd (q := 217) (v := nI (m 1 + 2)) hX dX7_canDo_216 rfl (nI_add (m 1) (2)) ?_
          refine s_iast (k := 1) (q := 218) hX dX7_canDo_217 rfl (by assumption) rfl (by omega) (by omega) ?_
          refine s_iload (q := 220) hX dX7_canDo_218 rfl rfl ?_
          refine s_iret hX dX7_canDo_220 (Or.inr ⟨rfl, Or.inr rfl⟩) ⟨Nat.le_refl _, Nat.le_refl _, Nat.le_refl _, ?_⟩
          have hr : rich m h = 1 := by unfold rich; (repeat' split) <;> omega
          rw [gsr_gsr, gsr_s]
          have hr2 : rich (mnc c h) h = 1 := by rw [← hme]; exact hr
          have hc : canC (T.kd i) c h = true := by simp [canC, h1, h4, ← hme, hr]; omega
          refine gqv (hcon _ (fun _ s hs => ?_)) (by rw [if_pos hc]) rfl
          unfold payC
          rw [if_neg (by omega), hr2, ← hme]
          show (if s = 1 then _ else _) = _
          by_cases e : s = 1
          · subst e; rw [if_pos rfl, if_pos rfl]
          · rw [if_neg e, if_neg e]; exact hg s hs
      · refine s_iload (q := 165) hX dX7_canDo_163 rfl rfl ?_
        refine s_goto (q := 170) hX dX7_canDo_165 rfl ?_
        refine s_istore (q := 172) (lv' := [(0, _), (1, _), (2, _), (3, _), (4, _), (5, _), (6, _), (7, _)]) hX dX7_canDo_170 rfl (Nat.le_of_ble_eq_true rfl) rfl ?_
        refine s_iinc (q := 175) (v := 3) (lv' := [(0, _), (1, _), (2, _), (3, _), (4, _), (5, _), (6, _), (7, _)]) hX dX7_canDo_172 rfl rfl (by decide) (Nat.le_of_ble_eq_true rfl) rfl ?_
        refine s_goto (q := 118) hX dX7_canDo_175 rfl ?_
        refine s_iload (q := 120) hX dX7_canDo_118 rfl rfl ?_
        refine s_iconst (q := 121) (v := 3) hX dX7_canDo_120 rfl rfl ?_
        refine s_icmp_ge_t (q := 124) (r := 178) hX dX7_canDo_121 rfl rfl (by decide) ?_
        refine s_aload_n (q := 179) hX dX7_canDo_178 rfl rfl ?_
        refine s_getr (q := 182) hX dX7_canDo_179 rfl gfl_7_38 (by assumption) rfl ?_
        refine s_iload (q := 184) hX dX7_canDo_182 rfl rfl ?_
        refine s_iload (q := 186) hX dX7_canDo_184 rfl rfl ?_
        refine s_iadd (q := 187) (v := nI (a + 1 + 3 * i + 2)) hX dX7_canDo_186 rfl (nI_add (a + 1 + 3 * i) (2)) ?_
        refine s_iald (k := a + 1 + 3 * i + 2) (q := 188) hX dX7_canDo_187 rfl (by assumption) rfl (by omega) (by omega) ?_
        refine s_topi (v := nI (h 2)) (by rw [gsr_n _ _ (by decide), show a + 1 + 3 * i + 2 = a + 1 + (3 * i + 2) by omega]; exact hh 2 (by omega)) ?_
        refine s_aload_n (q := 189) hX dX7_canDo_188 rfl rfl ?_
        refine s_getr (q := 192) hX dX7_canDo_189 rfl gfl_7_41 (by assumption) rfl ?_
        refine s_iload (q := 194) hX dX7_canDo_192 rfl rfl ?_
        refine s_iald (k := 2) (q := 195) hX dX7_canDo_194 rfl (by assumption) rfl (by omega) (by omega) ?_
        refine s_topi (v := nI (m 2)) (by rw [gsr_s]; exact hg 2 (by omega)) ?_
        refine s_isub (q := 196) (v := nI (h 2 - m 2)) hX dX7_canDo_195 rfl (pk_sub (by omega)) ?_
        refine s_iconst (q := 197) (v := 2) hX dX7_canDo_196 rfl rfl ?_
        refine s_nicmp_lt (a := h 2 - m 2) (b := 2) (q := 200) (r := 204) hX dX7_canDo_197 rfl rfl rfl rfl (by omega) (by omega) (fun c197_3 => ?_) (fun c197_3 => ?_)
        · refine s_iconst (q := 205) (v := 0) hX dX7_canDo_204 rfl rfl ?_
          refine s_istore (q := 207) (lv' := [(0, _), (1, _), (2, _), (3, _), (4, _), (5, _), (6, _), (7, _)]) hX dX7_canDo_205 rfl (Nat.le_of_ble_eq_true rfl) rfl ?_
          refine s_aload_n (q := 208) hX dX7_canDo_207 rfl rfl ?_
          refine s_getr (q := 211) hX dX7_canDo_208 rfl gfl_7_41 (by assumption) rfl ?_
          refine s_iload (q := 213) hX dX7_canDo_211 rfl rfl ?_
          refine s_dup2 (q := 214) hX dX7_canDo_213 rfl rfl rfl ?_
          refine s_iald (k := 2) (q := 215) hX dX7_canDo_214 rfl (by assumption) rfl (by omega) (by omega) ?_
          refine s_topi (v := nI (m 2)) (by rw [gsr_s]; exact hg 2 (by omega)) ?_
          refine s_iconst (q := 216) (v := 2) hX dX7_canDo_215 rfl rfl ?_
          refine s_iadd (q := 217) (v := nI (m 2 + 2)) hX dX7_canDo_216 rfl (nI_add (m 2) (2)) ?_
          refine s_iast (k := 2) (q := 218) hX dX7_canDo_217 rfl (by assumption) rfl (by omega) (by omega) ?_
          refine s_iload (q := 220) hX dX7_canDo_218 rfl rfl ?_
          refine s_iret hX dX7_canDo_220 (Or.inr ⟨rfl, Or.inl rfl⟩) ⟨Nat.le_refl _, Nat.le_refl _, Nat.le_refl _, ?_⟩
          have hr : rich m h = 2 := by unfold rich; (repeat' split) <;> omega
          rw [gsr_gsr, gsr_s]
          have hr2 : rich (mnc c h) h = 2 := by rw [← hme]; exact hr
          have hc : ¬ canC (T.kd i) c h = true := by
            intro z
            simp only [canC, Bool.or_eq_true, Bool.and_eq_true, decide_eq_true_eq, ← hme, hr] at z
            omega
          exact gqv (hcon _ (fun z => absurd z hc)) (by rw [if_neg hc]) rfl
        · refine s_iconst (q := 201) (v := 1) hX dX7_canDo_200 rfl rfl ?_
          refine s_goto (q := 205) hX dX7_canDo_201 rfl ?_
          refine s_istore (q := 207) (lv' := [(0, _), (1, _), (2, _), (3, _), (4, _), (5, _), (6, _), (7, _)]) hX dX7_canDo_205 rfl (Nat.le_of_ble_eq_true rfl) rfl ?_
          refine s_aload_n (q := 208) hX dX7_canDo_207 rfl rfl ?_
          refine s_getr (q := 211) hX dX7_canDo_208 rfl gfl_7_41 (by assumption) rfl ?_
          refine s_iload (q := 213) hX dX7_canDo_211 rfl rfl ?_
          refine s_dup2 (q := 214) hX dX7_canDo_213 rfl rfl rfl ?_
          refine s_iald (k := 2) (q := 215) hX dX7_canDo_214 rfl (by assumption) rfl (by omega) (by omega) ?_
          refine s_topi (v := nI (m 2)) (by rw [gsr_s]; exact hg 2 (by omega)) ?_
          refine s_iconst (q := 216) (v := 2) hX dX7_canDo_215 rfl rfl ?_
          refine s_iadd (q := 217) (v := nI (m 2 + 2)) hX dX7_canDo_216 rfl (nI_add (m 2) (2)) ?_
          refine s_iast (k := 2) (q := 218) hX dX7_canDo_217 rfl (by assumption) rfl (by omega) (by omega) ?_
          refine s_iload (q := 220) hX dX7_canDo_218 rfl rfl ?_
          refine s_iret hX dX7_canDo_220 (Or.inr ⟨rfl, Or.inr rfl⟩) ⟨Nat.le_refl _, Nat.le_refl _, Nat.le_refl _, ?_⟩
          have hr : rich m h = 2 := by unfold rich; (repeat' split) <;> omega
          rw [gsr_gsr, gsr_s]
          have hr2 : rich (mnc c h) h = 2 := by rw [← hme]; exact hr
          have hc : canC (T.kd i) c h = true := by simp [canC, h1, h4, ← hme, hr]; omega
          refine gqv (hcon _ (fun _ s hs => ?_)) (by rw [if_pos hc]) rfl
          unfold payC
          rw [if_neg (by omega), hr2, ← hme]
          show (if s = 2 then _ else _) = _
          by_cases e : s = 2
          · subst e; rw [if_pos rfl, if_pos rfl]
          · rw [if_neg e, if_neg e]; exact hg s hs
  have A : ∀ g, (∀ s, s < 3 → g s = nI (c s)) → lck c h 3 = 1 → T.kd i = 4 → X 56 [(0, .ref 83), (1, .int (nI a)), (2, .int (nI i)), (3, .int (nI k)), (4, .int (nI (lck c h 3))), (5, .int (nI (a + 1 + 3 * i))), (6, .int 0), (7, .int 0)] [] sh (gsr M 94 g) 0 0 := by
    intro g hg h1 h4
    have L : ∀ (n s : Nat) (g : Nat → Int32), s + n = 3 → (∀ r, r < 3 → g r = nI (if r < s then m r else c r)) → X 56 [(0, .ref 83), (1, .int (nI a)), (2, .int (nI i)), (3, .int (nI k)), (4, .int (nI (lck c h 3))), (5, .int (nI (a + 1 + 3 * i))), (6, .int 0), (7, .int (nI s))] [] sh (gsr M 94 g) 0 0 := by
      intro n
      induction n with
      | zero =>
        intro s g hs hg
        have e : s = 3 := by omega
        subst e
        refine s_iload (q := 58) hX dX7_canDo_56 rfl rfl ?_
        refine s_iconst (q := 59) (v := 3) hX dX7_canDo_58 rfl rfl ?_
        refine s_icmp_ge_t (q := 62) (r := 115) hX dX7_canDo_59 rfl rfl (by decide) ?_
        exact B g (fun s hs => by rw [hg s hs, if_pos hs]) h1 h4
      | succ n ih =>
        intro s g hs hg
        have gs : g s = nI (c s) := by rw [hg s (by omega), if_neg (by omega)]
        have hc4 := hcs s (by omega)
        have hl4 := hl s (by omega)
        have hms : m s = if h s < c s then h s else c s := by rw [hme]; rfl
        refine s_iload (q := 58) hX dX7_canDo_56 rfl rfl ?_
        refine s_iconst (q := 59) (v := 3) hX dX7_canDo_58 rfl rfl ?_
        refine s_icmp_ge_f (q := 62) (r := 115) hX dX7_canDo_59 rfl rfl (Int32.not_le.mpr (nI_lt (b := 3) (by omega) (by omega))) ?_
        refine s_aload_n (q := 63) hX dX7_canDo_62 rfl rfl ?_
        refine s_getr (q := 66) hX dX7_canDo_63 rfl gfl_7_41 (by assumption) rfl ?_
        refine s_iload (q := 68) hX dX7_canDo_66 rfl rfl ?_
        refine s_aload_n (q := 69) hX dX7_canDo_68 rfl rfl ?_
        refine s_getr (q := 72) hX dX7_canDo_69 rfl gfl_7_41 (by assumption) rfl ?_
        refine s_iload (q := 74) hX dX7_canDo_72 rfl rfl ?_
        refine s_iald (k := s) (q := 75) hX dX7_canDo_74 rfl (by assumption) rfl (by omega) (by omega) ?_
        refine s_topi (v := nI (c s)) (by rw [gsr_s]; exact gs) ?_
        refine s_aload_n (q := 76) hX dX7_canDo_75 rfl rfl ?_
        refine s_getr (q := 79) hX dX7_canDo_76 rfl gfl_7_38 (by assumption) rfl ?_
        refine s_iload (q := 81) hX dX7_canDo_79 rfl rfl ?_
        refine s_iload (q := 83) hX dX7_canDo_81 rfl rfl ?_
        refine s_iadd (q := 84) (v := nI (a + 1 + 3 * i + s)) hX dX7_canDo_83 rfl (nI_add (a + 1 + 3 * i) (s)) ?_
        refine s_iald (k := a + 1 + 3 * i + s) (q := 85) hX dX7_canDo_84 rfl (by assumption) rfl (by omega) (by omega) ?_
        refine s_topi (v := nI (h s)) (by rw [gsr_n _ _ (by decide), show a + 1 + 3 * i + s = a + 1 + (3 * i + s) by omega]; exact hh s (by omega)) ?_
        refine s_nicmp_le (a := c s) (b := h s) (q := 88) (r := 101) hX dX7_canDo_85 rfl rfl rfl rfl (by omega) (by omega) (fun c85 => ?_) (fun c85 => ?_)
        · refine s_aload_n (q := 102) hX dX7_canDo_101 rfl rfl ?_
          refine s_getr (q := 105) hX dX7_canDo_102 rfl gfl_7_41 (by assumption) rfl ?_
          refine s_iload (q := 107) hX dX7_canDo_105 rfl rfl ?_
          refine s_iald (k := s) (q := 108) hX dX7_canDo_107 rfl (by assumption) rfl (by omega) (by omega) ?_
          refine s_topi (v := nI (c s)) (by rw [gsr_s]; exact gs) ?_
          refine s_iast (k := s) (q := 109) hX dX7_canDo_108 rfl (by assumption) rfl (by omega) (by omega) ?_
          refine s_iinc (q := 112) (v := nI (s + 1)) (lv' := [(0, _), (1, _), (2, _), (3, _), (4, _), (5, _), (6, _), (7, _)]) hX dX7_canDo_109 rfl rfl (nI_add (s) 1) (Nat.le_of_ble_eq_true rfl) rfl ?_
          refine s_goto (q := 56) hX dX7_canDo_112 rfl ?_
          rw [gsr_gsr, gsr_s]
          refine ih (s + 1) _ (by omega) (fun r hr => ?_)
          by_cases e : r = s
          · subst e
            rw [pk_us, if_pos (by omega), hms]
            first
              | rw [if_pos (by omega)]
              | rw [if_neg (by omega)]
          · rw [pk_un e, hg r hr]
            by_cases e2 : r < s
            · rw [if_pos e2, if_pos (by omega)]
            · rw [if_neg e2, if_neg (by omega)]
        · refine s_aload_n (q := 89) hX dX7_canDo_88 rfl rfl ?_
          refine s_getr (q := 92) hX dX7_canDo_89 rfl gfl_7_38 (by assumption) rfl ?_
          refine s_iload (q := 94) hX dX7_canDo_92 rfl rfl ?_
          refine s_iload (q := 96) hX dX7_canDo_94 rfl rfl ?_
          refine s_iadd (q := 97) (v := nI (a + 1 + 3 * i + s)) hX dX7_canDo_96 rfl (nI_add (a + 1 + 3 * i) (s)) ?_
          refine s_iald (k := a + 1 + 3 * i + s) (q := 98) hX dX7_canDo_97 rfl (by assumption) rfl (by omega) (by omega) ?_
          refine s_topi (v := nI (h s)) (by rw [gsr_n _ _ (by decide), show a + 1 + 3 * i + s = a + 1 + (3 * i + s) by omega]; exact hh s (by omega)) ?_
          refine s_goto (q := 108) hX dX7_canDo_98 rfl ?_
          refine s_iast (k := s) (q := 109) hX dX7_canDo_108 rfl (by assumption) rfl (by omega) (by omega) ?_
          refine s_iinc (q := 112) (v := nI (s + 1)) (lv' := [(0, _), (1, _), (2, _), (3, _), (4, _), (5, _), (6, _), (7, _)]) hX dX7_canDo_109 rfl rfl (nI_add (s) 1) (Nat.le_of_ble_eq_true rfl) rfl ?_
          refine s_goto (q := 56) hX dX7_canDo_112 rfl ?_
          rw [gsr_gsr, gsr_s]
          refine ih (s + 1) _ (by omega) (fun r hr => ?_)
          by_cases e : r = s
          · subst e
            rw [pk_us, if_pos (by omega), hms]
            first
              | rw [if_pos (by omega)]
              | rw [if_neg (by omega)]
          · rw [pk_un e, hg r hr]
            by_cases e2 : r < s
            · rw [if_pos e2, if_pos (by omega)]
            · rw [if_neg e2, if_neg (by omega)]
    exact L 3 0 g rfl (fun r hr => by rw [if_neg (by omega)]; exact hg r hr)
  refine s_aload_n (q := 1) hX dX7_canDo_0 rfl rfl ?_
  refine s_iload_n (q := 2) hX dX7_canDo_1 rfl rfl ?_
  refine s_iload_n (q := 3) hX dX7_canDo_2 rfl rfl ?_
  refine s_invv2_0 (q := 6) hX dX7_canDo_3 rfl glk_7_115 (by assumption) (Nat.le_of_ble_eq_true rfl) ⟨Nat.le_refl _, Nat.le_refl _⟩ (by omega) (m_plainCost (d := 0) hC0 hW g1 hi hk (fun g hg => ?_)) 
  rw [← hce] at hg
  refine ⟨rfl, ?_⟩
  refine s_aload_n (q := 7) hX dX7_canDo_6 rfl rfl ?_
  refine s_iload_n (q := 8) hX dX7_canDo_7 rfl rfl ?_
  refine s_iload_n (q := 9) hX dX7_canDo_8 rfl rfl ?_
  refine s_invv2_1 (q := 12) hX dX7_canDo_9 rfl glk_7_119 (by assumption) (Nat.le_of_ble_eq_true rfl) ⟨Nat.le_refl _, Nat.le_refl _⟩ (by omega) (m_lacks (d := 0) (c := c) (h := h) hC0 (by omega) ha (fun s hs => by rw [gsr_s]; exact hg s hs) (fun s hs => by rw [gsr_n _ _ (by decide)]; exact hh s hs) hcs hl ?_) 
  refine ⟨_, rfl, ?_⟩
  refine s_istore (q := 14) (lv' := [(0, _), (1, _), (2, _), (3, _), (4, _)]) hX dX7_canDo_12 rfl (Nat.le_of_ble_eq_true rfl) rfl ?_
  have lk3 : lck c h 3 ≤ 12 := by
    have h0 := hcs 0 (by omega)
    have h1 := hcs 1 (by omega)
    have h2 := hcs 2 (by omega)
    show 0 + (c 0 - h 0) + (c 1 - h 1) + (c 2 - h 2) ≤ 12
    omega
  refine s_iload (q := 16) hX dX7_canDo_14 rfl rfl ?_
  refine s_iconst (q := 17) (v := 1) hX dX7_canDo_16 rfl rfl ?_
  refine s_nicmp_ne (a := lck c h 3) (b := 1) (q := 20) (r := 30) hX dX7_canDo_17 rfl rfl rfl rfl (by omega) (by omega) (fun c17 => ?_) (fun c17 => ?_)
  · refine s_iload (q := 32) hX dX7_canDo_30 rfl rfl ?_
    refine s_nif_ne (a := lck c h 3) (b := 0) (q := 35) (r := 39) hX dX7_canDo_32 rfl rfl rfl rfl (by omega) (by omega) (fun c32 => ?_) (fun c32 => ?_)
    · refine s_iconst (q := 40) (v := 0) hX dX7_canDo_39 rfl rfl ?_
      refine s_iret hX dX7_canDo_40 (Or.inr ⟨rfl, Or.inl rfl⟩) ⟨Nat.le_refl _, Nat.le_refl _, Nat.le_refl _, ?_⟩
      have hc : ¬ canC (T.kd i) c h = true := by
        intro z
        simp only [canC, Bool.or_eq_true, Bool.and_eq_true, decide_eq_true_eq] at z
        omega
      exact gqv (hcon g (fun z => absurd z hc)) (by rw [if_neg hc]) rfl
    · refine s_iconst (q := 36) (v := 1) hX dX7_canDo_35 rfl rfl ?_
      refine s_goto (q := 40) hX dX7_canDo_36 rfl ?_
      refine s_iret hX dX7_canDo_40 (Or.inr ⟨rfl, Or.inr rfl⟩) ⟨Nat.le_refl _, Nat.le_refl _, Nat.le_refl _, ?_⟩
      have h0 : lck c h 3 = 0 := by omega
      refine gqv (hcon g (fun _ s hs => ?_)) ?_ rfl
      · unfold payC; rw [if_pos h0]; exact hg s hs
      · have : canC (T.kd i) c h = true := by simp [canC, h0]
        rw [if_pos this]
  · refine s_aload_n (q := 21) hX dX7_canDo_20 rfl rfl ?_
    refine s_getr (q := 24) hX dX7_canDo_21 rfl gfl_7_17 (by assumption) rfl ?_
    refine s_iload_n (q := 25) hX dX7_canDo_24 rfl rfl ?_
    refine s_iald (k := i) (q := 26) hX dX7_canDo_25 rfl (by assumption) rfl (by omega) (by omega) ?_
    refine s_topi (v := nI (T.kd i)) (by rw [gsr_n _ _ (by decide)]; exact hkd) ?_
    refine s_iconst (q := 27) (v := 4) hX dX7_canDo_26 rfl rfl ?_
    refine s_nicmp_eq (a := T.kd i) (b := 4) (q := 30) (r := 41) hX dX7_canDo_27 rfl rfl rfl rfl (by omega) (by omega) (fun c27 => ?_) (fun c27 => ?_)
    · refine s_iload_n (q := 42) hX dX7_canDo_41 rfl rfl ?_
      refine s_iconst (q := 43) (v := 1) hX dX7_canDo_42 rfl rfl ?_
      refine s_iadd (q := 44) (v := nI (a + 1)) hX dX7_canDo_43 rfl (nI_add (a) (1)) ?_
      refine s_iconst (q := 45) (v := 3) hX dX7_canDo_44 rfl rfl ?_
      refine s_iload_n (q := 46) hX dX7_canDo_45 rfl rfl ?_
      refine s_imul (q := 47) (v := nI (3 * i)) hX dX7_canDo_46 rfl (pk_mul (3) (i)) ?_
      refine s_iadd (q := 48) (v := nI (a + 1 + (3 * i))) hX dX7_canDo_47 rfl (nI_add (a + 1) (3 * i)) ?_
      refine s_istore (q := 50) (lv' := [(0, _), (1, _), (2, _), (3, _), (4, _), (5, _)]) hX dX7_canDo_48 rfl (Nat.le_of_ble_eq_true rfl) rfl ?_
      refine s_iconst (q := 51) (v := 0) hX dX7_canDo_50 rfl rfl ?_
      refine s_istore (q := 53) (lv' := [(0, _), (1, _), (2, _), (3, _), (4, _), (5, _), (6, _)]) hX dX7_canDo_51 rfl (Nat.le_of_ble_eq_true rfl) rfl ?_
      refine s_iconst (q := 54) (v := 0) hX dX7_canDo_53 rfl rfl ?_
      refine s_istore (q := 56) (lv' := [(0, _), (1, _), (2, _), (3, _), (4, _), (5, _), (6, _), (7, _)]) hX dX7_canDo_54 rfl (Nat.le_of_ble_eq_true rfl) rfl ?_
      exact A g hg (by omega) (by omega)
    · refine s_iload (q := 32) hX dX7_canDo_30 rfl rfl ?_
      refine s_nif_ne (a := lck c h 3) (b := 0) (q := 35) (r := 39) hX dX7_canDo_32 rfl rfl rfl rfl (by omega) (by omega) (fun c32_1 => ?_) (fun c32_1 => ?_)
      · refine s_iconst (q := 40) (v := 0) hX dX7_canDo_39 rfl rfl ?_
        refine s_iret hX dX7_canDo_40 (Or.inr ⟨rfl, Or.inl rfl⟩) ⟨Nat.le_refl _, Nat.le_refl _, Nat.le_refl _, ?_⟩
        have hc : ¬ canC (T.kd i) c h = true := by
          intro z
          simp only [canC, Bool.or_eq_true, Bool.and_eq_true, decide_eq_true_eq] at z
          omega
        exact gqv (hcon g (fun z => absurd z hc)) (by rw [if_neg hc]) rfl
      · refine s_iconst (q := 36) (v := 1) hX dX7_canDo_35 rfl rfl ?_
        refine s_goto (q := 40) hX dX7_canDo_36 rfl ?_
        refine s_iret hX dX7_canDo_40 (Or.inr ⟨rfl, Or.inr rfl⟩) ⟨Nat.le_refl _, Nat.le_refl _, Nat.le_refl _, ?_⟩
        have h0 : lck c h 3 = 0 := by omega
        refine gqv (hcon g (fun _ s hs => ?_)) ?_ rfl
        · unfold payC; rw [if_pos h0]; exact hg s hs
        · have : canC (T.kd i) c h = true := by simp [canC, h0]
          rw [if_pos this]
