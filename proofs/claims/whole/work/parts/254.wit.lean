set_option maxHeartbeats 4000000 in
set_option maxRecDepth 100000 in
theorem c_recall {d e t s i : Nat} {N : gN} {T : gT} {U : gU} {sh : List gS} {M : gM} {Q : Option Value → List gS → gM → Prop} (hd : 9 ≤ d) (hE : isWit sh e) (hN : WIT M e N) (hok : N.ok) (hT : isTown sh t) (hW : TWN M t T) (hTk : T.ok) (hap : t + 6 < e ∨ e + 6 < t) (hi : i < T.P) (hS : isStreet sh s) (hU : STR M s T.P U) (hUk : U.ok T.P) (haps : s + 3 < e ∨ e + 6 < s) (hcon : ∀ M', M' e 7 = nI (T.wy N i (N.la i N.n) (U.d % 7) 0 (U.tr i)) → (∀ p, T.fp N i (N.la i N.n) (U.d % 7) 0 (U.tr i) = some p → ∀ x, x < N.la i N.n → M' (e + 6) x = chv (p x)) → (∀ k, k ≠ 7 → M' e k = M e k) → (∀ c, c ≠ e → c ≠ e + 4 → c ≠ e + 5 → c ≠ e + 6 → c ≠ t + 6 → M' c = M c) → Q none sh M') : gC mX5_recall d 0 0 [.ref e, .ref t, .int (nI i), .ref s] sh M Q := by
  have hE0 := hE
  have hT0 := hT
  have hTk0 := hTk
  have hS0 := hS
  obtain ⟨v0, v1, v2, v3, v4, v5, v6⟩ := hE
  obtain ⟨z0, z1, z2, z3, z4, z5, z6⟩ := hT
  obtain ⟨s0, s1, s2, s3⟩ := hS
  obtain ⟨o1, o2, o3, o4, o5, o6, o7, o8⟩ := hTk
  have hla := N.la_le hok i N.n (Nat.le_refl _)
  have hlx : N.la i N.n ≤ 4 := hla
  have hwd : U.d % 7 < 7 := Nat.mod_lt _ (by decide)
  generalize hM1 : gsr (gsr M e (upd (M e) 7 0)) (e + 4) (va_cpy (M (s + 1)) (M (e + 4)) (i * 3) 0 3) = M1
  have r0 : ∀ k, k ≠ 7 → M1 e k = M e k := fun k hk => by rw [← hM1, gsr_n _ _ (by omega), gsr_s, pk_un hk]
  have r7 : M1 e 7 = nI 0 := by rw [← hM1, gsr_n _ _ (by omega), gsr_s, pk_us]; rfl
  have r4 : ∀ x, x < 3 → M1 (e + 4) (0 * 3 + x) = nI (U.tr i x) := fun x hx => by
    rw [← hM1, gsr_s, show 0 * 3 + x = x by omega, pk_cpy_in (by omega) (by omega), show i * 3 + (x - 0) = 3 * i + x by omega]
    exact hU.2.1 _ (by omega)
  have r9 : ∀ c, c ≠ e → c ≠ e + 4 → M1 c = M c := fun c h1 h2 => by rw [← hM1, gsr_n _ _ h2, gsr_n _ _ h1]
  have hW1 : TWN M1 t T := hW.keep (fun c a b => r9 c (by omega) (by omega))
  have hN1 : WIT M1 e N := hN.keep (r0 6 (by decide)) (r9 _ (by omega) (by omega)) (r9 _ (by omega) (by omega)) (r9 _ (by omega) (by omega))
  have hU1 : STR M1 s T.P U := hU.keep (fun c a b => r9 c (by omega) (by omega))
  have hb : ∀ x, x < 3 → U.tr i x ≤ 99 := fun x hx => hUk.1 _ (by omega)
  have hwy := T.wy_le N i o2 (N.la i N.n) (U.d % 7) 0 (U.tr i)
  have hp7 : 7 ^ (N.la i N.n) ≤ 7 ^ 4 := Nat.pow_le_pow_right (by decide) hlx
  have hp8 : (7 : Nat) ^ 4 = 2401 := by decide
  refine gC_of (rt := 0) (ini := false) gm_X5_recall rfl (by decide) (Nat.le_of_ble_eq_true rfl) (fun X hX => ?_)
  refine s_aload_n (q := 1) hX dX5_recall_0 rfl rfl ?_
  refine s_iconst (q := 2) (v := 0) hX dX5_recall_1 rfl rfl ?_
  refine s_puti (q := 5) hX dX5_recall_2 rfl gfl_5_40 (by assumption) rfl ?_
  refine s_aload_n (q := 6) hX dX5_recall_5 rfl rfl ?_
  refine s_getr (q := 9) hX dX5_recall_6 rfl gfl_5_43 (by assumption) rfl ?_
  refine s_iload_n (q := 10) hX dX5_recall_9 rfl rfl ?_
  refine s_iconst (q := 11) (v := 3) hX dX5_recall_10 rfl rfl ?_
  refine s_imul (q := 12) (v := nI (i * 3)) hX dX5_recall_11 rfl (pk_mul (i) (3)) ?_
  refine s_aload_n (q := 13) hX dX5_recall_12 rfl rfl ?_
  refine s_getr (q := 16) hX dX5_recall_13 rfl gfl_5_21 (by assumption) rfl ?_
  refine s_iconst (q := 17) (v := 0) hX dX5_recall_16 rfl rfl ?_
  refine s_iconst (q := 18) (v := 3) hX dX5_recall_17 rfl rfl ?_
  refine s_cpy (k0 := i * 3) (k1 := 0) (n := 3) (q := 21) hX dX5_recall_18 rfl glk_5_48 (by omega) (Nat.le_of_ble_eq_true rfl) (by assumption) (by assumption) rfl rfl rfl (by omega) (by omega) (by omega) (by omega) ?_
  rw [show gsr (gsr M e (upd (M e) 7 0)) (e + 4) (va_cpy (gsr M e (upd (M e) 7 0) (s + 1)) (gsr M e (upd (M e) 7 0) (e + 4)) (i * 3) 0 3) = M1 from by rw [gsr_n _ _ (by omega : s + 1 ≠ e), gsr_n _ _ (by omega : e + 4 ≠ e)]; exact hM1]
  refine s_aload_n (q := 22) hX dX5_recall_21 rfl rfl ?_
  refine s_aload_n (q := 23) hX dX5_recall_22 rfl rfl ?_
  refine s_iload_n (q := 24) hX dX5_recall_23 rfl rfl ?_
  refine s_aload_n (q := 25) hX dX5_recall_24 rfl rfl ?_
  refine s_invv0_1 (q := 28) hX dX5_recall_25 rfl glk_5_54 (by assumption) (Nat.le_of_ble_eq_true rfl) ⟨Nat.le_refl _, Nat.le_refl _⟩ (by omega) (c_weekday (d := 0) hS0 hU1 hUk ?_) 
  refine ⟨_, rfl, ?_⟩
  refine s_iconst (q := 29) (v := 0) hX dX5_recall_28 rfl rfl ?_
  refine s_aload_n (q := 30) hX dX5_recall_29 rfl rfl ?_
  refine s_iload_n (q := 31) hX dX5_recall_30 rfl rfl ?_
  refine s_invv1_1 (q := 34) hX dX5_recall_31 rfl glk_5_58 (by assumption) (Nat.le_of_ble_eq_true rfl) ⟨Nat.le_refl _, Nat.le_refl _⟩ (by omega) (c_lastDay (d := 1) (Nat.le_refl _) hE0 hN1 hok (by omega) ?_) 
  refine ⟨_, rfl, ?_⟩
  refine s_invv5_0 (q := 37) hX dX5_recall_34 rfl glk_5_62 (by assumption) (Nat.le_of_ble_eq_true rfl) ⟨Nat.le_refl _, Nat.le_refl _⟩ (by omega) (c_wsearch hE0 hok hT0 hTk0 hap hi hlx (N.la i N.n) 0 (U.d % 7) 0 (U.tr i) M1 _ (by omega) hwd hN1 hW1 r4 hb r7 (by omega) (fun M2 q1 q2 q3 q4 q5 q6 => ?_)) 
  refine ⟨rfl, ?_⟩
  refine s_ret hX dX5_recall_37 rfl ⟨Nat.le_refl _, Nat.le_refl _, Nat.le_refl _, ?_⟩
  refine hcon M2 (by rw [q1, Nat.zero_add]) (fun p hp x hx => ?_) (fun k hk => ?_) (fun c h1 h2 h3 h4 h5 => ?_)
  · rw [q2.1 rfl p hp x hx, if_neg (by omega)]
  · rw [q5 k hk, r0 k hk]
  · rw [q6 c h1 h2 h3 h4 h5, r9 c h1 h2]
