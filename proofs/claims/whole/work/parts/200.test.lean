set_option maxHeartbeats 4000000 in
set_option maxRecDepth 100000 in
theorem c_within {d : Nat} {x lo hi : Int32} {sh : List gS} {M : gM} {Q : Option Value → List gS → gM → Prop} (h : Q (some (.int (if lo ≤ x ∧ x ≤ hi then 1 else 0))) sh M) : gC mX6_within d 0 0 [.int x, .int lo, .int hi] sh M Q := by
  refine gC_of (rt := 2) (ini := false) gm_X6_within rfl (by decide) (Nat.le_of_ble_eq_true rfl) (fun X hX => ?_)
  refine s_iload_n (q := 1) hX dX6_within_0 rfl rfl ?_
  refine s_iload_n (q := 2) hX dX6_within_1 rfl rfl ?_
  refine s_icmp_lt (q := 5) (r := 14) hX dX6_within_2 rfl rfl (fun c2 => ?_) (fun c2 => ?_)
  · refine s_iconst (q := 15) (v := 0) hX dX6_within_14 rfl rfl ?_
    refine s_iret hX dX6_within_15 (Or.inr ⟨rfl, Or.inl rfl⟩) ⟨Nat.le_refl _, Nat.le_refl _, Nat.le_refl _, ?_⟩
    simpa [*] using h
  · refine s_iload_n (q := 6) hX dX6_within_5 rfl rfl ?_
    refine s_iload_n (q := 7) hX dX6_within_6 rfl rfl ?_
    refine s_icmp_gt (q := 10) (r := 14) hX dX6_within_7 rfl rfl (fun c7 => ?_) (fun c7 => ?_)
    · refine s_iconst (q := 15) (v := 0) hX dX6_within_14 rfl rfl ?_
      refine s_iret hX dX6_within_15 (Or.inr ⟨rfl, Or.inl rfl⟩) ⟨Nat.le_refl _, Nat.le_refl _, Nat.le_refl _, ?_⟩
      simpa [*] using h
    · refine s_iconst (q := 11) (v := 1) hX dX6_within_10 rfl rfl ?_
      refine s_goto (q := 15) hX dX6_within_11 rfl ?_
      refine s_iret hX dX6_within_15 (Or.inr ⟨rfl, Or.inr rfl⟩) ⟨Nat.le_refl _, Nat.le_refl _, Nat.le_refl _, ?_⟩
      simpa [*] using h
set_option maxHeartbeats 4000000 in
set_option maxRecDepth 100000 in
theorem c_billSum {d t : Nat} {sh : List gS} {M : gM} {Q : Option Value → List gS → gM → Prop} (h0 : sh[t]? = some (.inl (4, [some (.ref (t + 1)), some (.ref (t + 2)), some (.ref (t + 3)), some (.ref (t + 4)), some (.ref (t + 5)), some (.ref (t + 6)), none, none, none]))) (h1 : sh[t + 1]? = some (.inr (.inl (0, 6)))) (h2 : sh[t + 2]? = some (.inr (.inl (0, 18)))) (h3 : sh[t + 3]? = some (.inr (.inl (0, 18)))) (h4 : sh[t + 4]? = some (.inr (.inl (0, 6)))) (h5 : sh[t + 5]? = some (.inr (.inl (0, 42)))) (h6 : sh[t + 6]? = some (.inr (.inl (0, 3)))) (h : Q (some (.int (M (t + 6) 0 + M (t + 6) 1 + M (t + 6) 2))) sh M) : gC mX4_billSum d 0 0 [.ref t] sh M Q := by
  refine gC_of (rt := 1) (ini := false) gm_X4_billSum rfl (by decide) (Nat.le_of_ble_eq_true rfl) (fun X hX => ?_)
  refine s_aload_n (q := 1) hX dX4_billSum_0 rfl rfl ?_
  refine s_getr (q := 4) hX dX4_billSum_1 rfl gfl_4_27 (by assumption) rfl ?_
  refine s_iconst (q := 5) (v := 0) hX dX4_billSum_4 rfl rfl ?_
  refine s_iald (k := 0) (q := 6) hX dX4_billSum_5 rfl (by assumption) rfl (by omega) (by omega) ?_
  refine s_aload_n (q := 7) hX dX4_billSum_6 rfl rfl ?_
  refine s_getr (q := 10) hX dX4_billSum_7 rfl gfl_4_27 (by assumption) rfl ?_
  refine s_iconst (q := 11) (v := 1) hX dX4_billSum_10 rfl rfl ?_
  refine s_iald (k := 1) (q := 12) hX dX4_billSum_11 rfl (by assumption) rfl (by omega) (by omega) ?_
  refine s_iadd (q := 13) hX dX4_billSum_12 rfl rfl ?_
  refine s_aload_n (q := 14) hX dX4_billSum_13 rfl rfl ?_
  refine s_getr (q := 17) hX dX4_billSum_14 rfl gfl_4_27 (by assumption) rfl ?_
  refine s_iconst (q := 18) (v := 2) hX dX4_billSum_17 rfl rfl ?_
  refine s_iald (k := 2) (q := 19) hX dX4_billSum_18 rfl (by assumption) rfl (by omega) (by omega) ?_
  refine s_iadd (q := 20) hX dX4_billSum_19 rfl rfl ?_
  refine s_iret hX dX4_billSum_20 (Or.inl rfl) ⟨Nat.le_refl _, Nat.le_refl _, Nat.le_refl _, ?_⟩
  exact h
set_option maxHeartbeats 4000000 in
set_option maxRecDepth 100000 in
theorem c_pay {d t f at_ n : Nat} {sh : List gS} {M : gM} {Q : Option Value → List gS → gM → Prop} (h0 : sh[t]? = some (.inl (4, [some (.ref (t + 1)), some (.ref (t + 2)), some (.ref (t + 3)), some (.ref (t + 4)), some (.ref (t + 5)), some (.ref (t + 6)), none, none, none]))) (h1 : sh[t + 1]? = some (.inr (.inl (0, 6)))) (h2 : sh[t + 2]? = some (.inr (.inl (0, 18)))) (h3 : sh[t + 3]? = some (.inr (.inl (0, 18)))) (h4 : sh[t + 4]? = some (.inr (.inl (0, 6)))) (h5 : sh[t + 5]? = some (.inr (.inl (0, 42)))) (h6 : sh[t + 6]? = some (.inr (.inl (0, 3)))) (hf : sh[f]? = some (.inr (.inl (0, n)))) (hn : n ≤ 1000) (ha : at_ + 3 ≤ n) (h : ∀ M', True → Q none sh M') : gC mX4_pay d 0 0 [.ref t, .ref f, .int (nI at_)] sh M Q := by
  refine gC_of (rt := 0) (ini := false) gm_X4_pay rfl (by decide) (Nat.le_of_ble_eq_true rfl) (fun X hX => ?_)
  refine s_iconst (q := 1) (v := 0) hX dX4_pay_0 rfl rfl ?_
  refine s_istore_n (q := 2) (lv' := [(0, _), (1, _), (2, _), (3, _)]) hX dX4_pay_1 rfl (Nat.le_of_ble_eq_true rfl) rfl ?_
  refine s_iload_n (q := 3) hX dX4_pay_2 rfl rfl ?_
  refine s_iconst (q := 4) (v := 3) hX dX4_pay_3 rfl rfl ?_
  refine s_icmp_ge_f (q := 7) (r := 27) hX dX4_pay_4 rfl rfl (by decide) ?_
  refine s_aload_n (q := 8) hX dX4_pay_7 rfl rfl ?_
  refine s_iload_n (q := 9) hX dX4_pay_8 rfl rfl ?_
  refine s_iload_n (q := 10) hX dX4_pay_9 rfl rfl ?_
  refine s_iadd (q := 11) (v := nI (at_ + 0)) hX dX4_pay_10 rfl (nI_add (at_) (0)) ?_
  refine s_dup2 (q := 12) hX dX4_pay_11 rfl rfl rfl ?_
  refine s_iald (k := at_ + 0) (q := 13) hX dX4_pay_12 rfl (by assumption) rfl (by omega) (by omega) ?_
  refine s_aload_n (q := 14) hX dX4_pay_13 rfl rfl ?_
  refine s_getr (q := 17) hX dX4_pay_14 rfl gfl_4_27 (by assumption) rfl ?_
  refine s_iload_n (q := 18) hX dX4_pay_17 rfl rfl ?_
  refine s_iald (k := 0) (q := 19) hX dX4_pay_18 rfl (by assumption) rfl (by omega) (by omega) ?_
  refine s_isub (q := 20) hX dX4_pay_19 rfl rfl ?_
  refine s_iast (k := at_ + 0) (q := 21) hX dX4_pay_20 rfl (by assumption) rfl (by omega) (by omega) ?_
  refine s_iinc (q := 24) (v := 1) (lv' := [(0, _), (1, _), (2, _), (3, _)]) hX dX4_pay_21 rfl rfl (by decide) (Nat.le_of_ble_eq_true rfl) rfl ?_
  refine s_goto (q := 2) hX dX4_pay_24 rfl ?_
  refine s_iload_n (q := 3) hX dX4_pay_2 rfl rfl ?_
  refine s_iconst (q := 4) (v := 3) hX dX4_pay_3 rfl rfl ?_
  refine s_icmp_ge_f (q := 7) (r := 27) hX dX4_pay_4 rfl rfl (by decide) ?_
  refine s_aload_n (q := 8) hX dX4_pay_7 rfl rfl ?_
  refine s_iload_n (q := 9) hX dX4_pay_8 rfl rfl ?_
  refine s_iload_n (q := 10) hX dX4_pay_9 rfl rfl ?_
  refine s_iadd (q := 11) (v := nI (at_ + 1)) hX dX4_pay_10 rfl (nI_add (at_) (1)) ?_
  refine s_dup2 (q := 12) hX dX4_pay_11 rfl rfl rfl ?_
  refine s_iald (k := at_ + 1) (q := 13) hX dX4_pay_12 rfl (by assumption) rfl (by omega) (by omega) ?_
  refine s_aload_n (q := 14) hX dX4_pay_13 rfl rfl ?_
  refine s_getr (q := 17) hX dX4_pay_14 rfl gfl_4_27 (by assumption) rfl ?_
  refine s_iload_n (q := 18) hX dX4_pay_17 rfl rfl ?_
  refine s_iald (k := 1) (q := 19) hX dX4_pay_18 rfl (by assumption) rfl (by omega) (by omega) ?_
  refine s_isub (q := 20) hX dX4_pay_19 rfl rfl ?_
  refine s_iast (k := at_ + 1) (q := 21) hX dX4_pay_20 rfl (by assumption) rfl (by omega) (by omega) ?_
  refine s_iinc (q := 24) (v := 2) (lv' := [(0, _), (1, _), (2, _), (3, _)]) hX dX4_pay_21 rfl rfl (by decide) (Nat.le_of_ble_eq_true rfl) rfl ?_
  refine s_goto (q := 2) hX dX4_pay_24 rfl ?_
  refine s_iload_n (q := 3) hX dX4_pay_2 rfl rfl ?_
  refine s_iconst (q := 4) (v := 3) hX dX4_pay_3 rfl rfl ?_
  refine s_icmp_ge_f (q := 7) (r := 27) hX dX4_pay_4 rfl rfl (by decide) ?_
  refine s_aload_n (q := 8) hX dX4_pay_7 rfl rfl ?_
  refine s_iload_n (q := 9) hX dX4_pay_8 rfl rfl ?_
  refine s_iload_n (q := 10) hX dX4_pay_9 rfl rfl ?_
  refine s_iadd (q := 11) (v := nI (at_ + 2)) hX dX4_pay_10 rfl (nI_add (at_) (2)) ?_
  refine s_dup2 (q := 12) hX dX4_pay_11 rfl rfl rfl ?_
  refine s_iald (k := at_ + 2) (q := 13) hX dX4_pay_12 rfl (by assumption) rfl (by omega) (by omega) ?_
  refine s_aload_n (q := 14) hX dX4_pay_13 rfl rfl ?_
  refine s_getr (q := 17) hX dX4_pay_14 rfl gfl_4_27 (by assumption) rfl ?_
  refine s_iload_n (q := 18) hX dX4_pay_17 rfl rfl ?_
  refine s_iald (k := 2) (q := 19) hX dX4_pay_18 rfl (by assumption) rfl (by omega) (by omega) ?_
  refine s_isub (q := 20) hX dX4_pay_19 rfl rfl ?_
  refine s_iast (k := at_ + 2) (q := 21) hX dX4_pay_20 rfl (by assumption) rfl (by omega) (by omega) ?_
  refine s_iinc (q := 24) (v := 3) (lv' := [(0, _), (1, _), (2, _), (3, _)]) hX dX4_pay_21 rfl rfl (by decide) (Nat.le_of_ble_eq_true rfl) rfl ?_
  refine s_goto (q := 2) hX dX4_pay_24 rfl ?_
  refine s_iload_n (q := 3) hX dX4_pay_2 rfl rfl ?_
  refine s_iconst (q := 4) (v := 3) hX dX4_pay_3 rfl rfl ?_
  refine s_icmp_ge_t (q := 7) (r := 27) hX dX4_pay_4 rfl rfl (by decide) ?_
  refine s_ret hX dX4_pay_27 rfl ⟨Nat.le_refl _, Nat.le_refl _, Nat.le_refl _, ?_⟩
  exact h _ trivial
