/-! SHELF: put, takeLast -/
set_option maxHeartbeats 4000000 in
set_option maxRecDepth 100000 in
theorem c_put {d e n nw sz r P_ : Nat} {us : Nat → gU} {U : gU} {sh : List gS} {M : gM} {Q : Option Value → List gS → gM → Prop} (hd : 2 ≤ d) (hn : 0 < n) (hn8 : n ≤ 8) (hP6 : P_ ≤ 6) (hE : isShelf sh e n) (hF : SHF M e n nw sz P_ us) (hR : isStreet sh r) (hap : r + 3 < e ∨ e + 2 + 4 * n ≤ r) (hU : STR M r P_ U) (hcon : ∀ M', SHF M' e n ((nw + 1) % n) (min n (sz + 1)) P_ (fun k => if k = 0 then U else us (k - 1)) → (∀ c, (c < e ∨ e + 2 + 4 * n ≤ c) → M' c = M c) → Q none sh M') : gC mX2_put d 0 0 [.ref e, .ref r] sh M Q := by
  have hR0 := hR
  obtain ⟨x0, x1, x2⟩ := hE
  obtain ⟨f1, f2, f3, f4, f5⟩ := hF
  have hml : (nw + 1) % n < n := Nat.mod_lt _ hn
  have hmin : min n (sz + 1) ≤ n := Nat.min_le_left _ _
  have hmin2 : min n (sz + 1) ≤ sz + 1 := Nat.min_le_right _ _
  refine gC_of (rt := 0) (ini := false) gm_X2_put rfl (by decide) (Nat.le_of_ble_eq_true rfl) (fun X hX => ?_)
  refine s_aload_n (q := 1) hX dX2_put_0 rfl rfl ?_
  refine s_aload_n (q := 2) hX dX2_put_1 rfl rfl ?_
  refine s_geti (q := 5) hX dX2_put_2 rfl gfl_2_22 (by assumption) rfl ?_
  refine s_topi (v := nI (nw)) f1 ?_
  refine s_iconst (q := 6) (v := 1) hX dX2_put_5 rfl rfl ?_
  refine s_iadd (q := 7) (v := nI (nw + 1)) hX dX2_put_6 rfl (nI_add (nw) (1)) ?_
  refine s_aload_n (q := 8) hX dX2_put_7 rfl rfl ?_
  refine s_getr (q := 11) hX dX2_put_8 rfl gfl_2_15 (by assumption) rfl ?_
  refine s_qlen (q := 12) hX dX2_put_11 rfl (by assumption) ?_
  refine s_topi (v := nI (n)) (by rw [gslots_len]) ?_
  refine s_irem (q := 13) (v := nI ((nw + 1) % n)) hX dX2_put_12 rfl (pk_rem (a := nw + 1) (d := n) (by omega) hn (by omega)) (nI_ne0 hn (by omega)) ?_
  refine s_puti (q := 16) hX dX2_put_13 rfl gfl_2_22 (by assumption) rfl ?_
  refine s_aload_n (q := 17) hX dX2_put_16 rfl rfl ?_
  refine s_getr (q := 20) hX dX2_put_17 rfl gfl_2_15 (by assumption) rfl ?_
  refine s_aload_n (q := 21) hX dX2_put_20 rfl rfl ?_
  refine s_geti (q := 24) hX dX2_put_21 rfl gfl_2_22 (by assumption) rfl ?_
  refine s_topi (v := nI ((nw + 1) % n)) (by rw [gsr_s, pk_us]) ?_
  refine s_aald (k := (nw + 1) % n) (q := 25) hX dX2_put_24 rfl (by assumption) rfl (by rw [gslots_len]; omega) (by rw [gslots_len]; omega) (gslots_at hml) ?_
  refine s_aload_n (q := 26) hX dX2_put_25 rfl rfl ?_
  refine s_invv1_0 (q := 29) hX dX2_put_26 rfl glk_2_26 (x2 _ hml).1 (Nat.le_of_ble_eq_true rfl) ⟨Nat.le_refl _, Nat.le_refl _⟩ (by omega) (c_copyFrom (d := 1) (Nat.le_refl _) (x2 _ hml) hR0 (by omega) (fun M2 hst hfr => ?_)) 
  refine ⟨rfl, ?_⟩
  refine s_aload_n (q := 30) hX dX2_put_29 rfl rfl ?_
  refine s_aload_n (q := 31) hX dX2_put_30 rfl rfl ?_
  refine s_getr (q := 34) hX dX2_put_31 rfl gfl_2_15 (by assumption) rfl ?_
  refine s_qlen (q := 35) hX dX2_put_34 rfl (by assumption) ?_
  refine s_topi (v := nI (n)) (by rw [gslots_len]) ?_
  refine s_aload_n (q := 36) hX dX2_put_35 rfl rfl ?_
  refine s_geti (q := 39) hX dX2_put_36 rfl gfl_2_30 (by assumption) rfl ?_
  refine s_topi (v := nI (sz)) (by rw [hfr e (by omega), gsr_s, pk_un (by omega)]; exact f2) ?_
  refine s_iconst (q := 40) (v := 1) hX dX2_put_39 rfl rfl ?_
  refine s_iadd (q := 41) (v := nI (sz + 1)) hX dX2_put_40 rfl (nI_add (sz) (1)) ?_
  refine s_invs2_1 (q := 44) hX dX2_put_41 rfl glk_2_33 (by decide) (Nat.le_of_ble_eq_true rfl) ⟨Nat.le_refl _, Nat.le_refl _⟩ (by omega) (c_min (d := 0) ?_) 
  refine ⟨_, rfl, ?_⟩
  refine s_topi (v := nI (min n (sz + 1))) (gmin (by omega) (by omega)) ?_
  refine s_puti (q := 47) hX dX2_put_44 rfl gfl_2_30 (by assumption) rfl ?_
  refine s_ret hX dX2_put_47 rfl ⟨Nat.le_refl _, Nat.le_refl _, Nat.le_refl _, ?_⟩
  refine hcon _ ⟨?_, ?_, hml, hmin, fun k hk => ?_⟩ (fun c hc => ?_)
  · rw [gsr_s, pk_un (by omega), hfr e (by omega), gsr_s, pk_us]
  · rw [gsr_s, pk_us]
  · by_cases e0 : k = 0
    · subst e0
      rw [show ((nw + 1) % n + n - 0) % n = (nw + 1) % n by rw [Nat.sub_zero, Nat.add_mod_right, Nat.mod_mod]]
      refine STR.keep (hst P_ U hP6 (STR.keep hU (fun c h1 h2 => gsr_n _ _ (by omega)))) (fun c h1 h2 => gsr_n _ _ (by omega))
    · obtain ⟨g1, g2⟩ := gring1 f3 (show 0 < k by omega) (show k < n by omega)
      rw [g1]
      have hlt : (nw + n - (k - 1)) % n < n := Nat.mod_lt _ hn
      show STR _ _ _ (if k = 0 then U else us (k - 1))
      rw [if_neg e0]
      refine STR.keep (f5 (k - 1) (by omega)) (fun c h1 h2 => ?_)
      rw [gsr_n _ _ (by omega), hfr c (by omega), gsr_n _ _ (by omega)]
  · rw [gsr_n _ _ (by omega), hfr c (by omega), gsr_n _ _ (by omega)]
set_option maxHeartbeats 4000000 in
set_option maxRecDepth 100000 in
theorem c_takeLast {d e n nw sz r P_ : Nat} {us : Nat → gU} {U : gU} {sh : List gS} {M : gM} {Q : Option Value → List gS → gM → Prop} (hd : 2 ≤ d) (hn : 0 < n) (hn8 : n ≤ 8) (hP6 : P_ ≤ 6) (hE : isShelf sh e n) (hF : SHF M e n nw sz P_ us) (hR : isStreet sh r) (hap : r + 3 < e ∨ e + 2 + 4 * n ≤ r) (hcon0 : sz = 0 → Q (some (.int 0)) sh M) (hcon : 0 < sz → ∀ M', SHF M' e n ((nw + n - 1) % n) (sz - 1) P_ (fun k => us (k + 1)) → STR M' r P_ (us 0) → (∀ c, (c < e ∨ e + 2 + 4 * n ≤ c) → (c < r ∨ r + 3 < c) → M' c = M c) → Q (some (.int 1)) sh M') : gC mX2_takeLast d 0 0 [.ref e, .ref r] sh M Q := by
  have hR0 := hR
  obtain ⟨x0, x1, x2⟩ := hE
  obtain ⟨f1, f2, f3, f4, f5⟩ := hF
  have hml : (nw + n - 1) % n < n := Nat.mod_lt _ hn
  refine gC_of (rt := 2) (ini := false) gm_X2_takeLast rfl (by decide) (Nat.le_of_ble_eq_true rfl) (fun X hX => ?_)
  refine s_aload_n (q := 1) hX dX2_takeLast_0 rfl rfl ?_
  refine s_geti (q := 4) hX dX2_takeLast_1 rfl gfl_2_30 (by assumption) rfl ?_
  refine s_topi (v := nI (sz)) f2 ?_
  refine s_nif_ne (a := sz) (b := 0) (q := 7) (r := 9) hX dX2_takeLast_4 rfl rfl rfl rfl (by omega) (by omega) (fun c4 => ?_) (fun c4 => ?_)
  · refine s_aload_n (q := 10) hX dX2_takeLast_9 rfl rfl ?_
    refine s_aload_n (q := 11) hX dX2_takeLast_10 rfl rfl ?_
    refine s_getr (q := 14) hX dX2_takeLast_11 rfl gfl_2_15 (by assumption) rfl ?_
    refine s_aload_n (q := 15) hX dX2_takeLast_14 rfl rfl ?_
    refine s_geti (q := 18) hX dX2_takeLast_15 rfl gfl_2_22 (by assumption) rfl ?_
    refine s_topi (v := nI (nw)) f1 ?_
    refine s_aald (k := nw) (q := 19) hX dX2_takeLast_18 rfl (by assumption) rfl (by rw [gslots_len]; omega) (by rw [gslots_len]; omega) (gslots_at f3) ?_
    refine s_invv1_0 (q := 22) hX dX2_takeLast_19 rfl glk_2_26 hR0.1 (Nat.le_of_ble_eq_true rfl) ⟨Nat.le_refl _, Nat.le_refl _⟩ (by omega) (c_copyFrom (d := 1) (Nat.le_refl _) hR0 (x2 nw f3) (by omega) (fun M2 hst hfr => ?_)) 
    refine ⟨rfl, ?_⟩
    refine s_aload_n (q := 23) hX dX2_takeLast_22 rfl rfl ?_
    refine s_aload_n (q := 24) hX dX2_takeLast_23 rfl rfl ?_
    refine s_geti (q := 27) hX dX2_takeLast_24 rfl gfl_2_22 (by assumption) rfl ?_
    refine s_topi (v := nI (nw)) (by rw [hfr e (by omega)]; exact f1) ?_
    refine s_aload_n (q := 28) hX dX2_takeLast_27 rfl rfl ?_
    refine s_getr (q := 31) hX dX2_takeLast_28 rfl gfl_2_15 (by assumption) rfl ?_
    refine s_qlen (q := 32) hX dX2_takeLast_31 rfl (by assumption) ?_
    refine s_topi (v := nI (n)) (by rw [gslots_len]) ?_
    refine s_iadd (q := 33) (v := nI (nw + n)) hX dX2_takeLast_32 rfl (nI_add (nw) (n)) ?_
    refine s_iconst (q := 34) (v := 1) hX dX2_takeLast_33 rfl rfl ?_
    refine s_isub (q := 35) (v := nI (nw + n - 1)) hX dX2_takeLast_34 rfl (pk_sub (a := nw + n) (b := 1) (by omega)) ?_
    refine s_aload_n (q := 36) hX dX2_takeLast_35 rfl rfl ?_
    refine s_getr (q := 39) hX dX2_takeLast_36 rfl gfl_2_15 (by assumption) rfl ?_
    refine s_qlen (q := 40) hX dX2_takeLast_39 rfl (by assumption) ?_
    refine s_topi (v := nI (n)) (by rw [gslots_len]) ?_
    refine s_irem (q := 41) (v := nI ((nw + n - 1) % n)) hX dX2_takeLast_40 rfl (pk_rem (a := nw + n - 1) (d := n) (by omega) hn (by omega)) (nI_ne0 hn (by omega)) ?_
    refine s_puti (q := 44) hX dX2_takeLast_41 rfl gfl_2_22 (by assumption) rfl ?_
    refine s_aload_n (q := 45) hX dX2_takeLast_44 rfl rfl ?_
    refine s_dup (q := 46) hX dX2_takeLast_45 rfl rfl ?_
    refine s_geti (q := 49) hX dX2_takeLast_46 rfl gfl_2_30 (by assumption) rfl ?_
    refine s_topi (v := nI (sz)) (by rw [gsr_s, pk_un (by omega), hfr e (by omega)]; exact f2) ?_
    refine s_iconst (q := 50) (v := 1) hX dX2_takeLast_49 rfl rfl ?_
    refine s_isub (q := 51) (v := nI (sz - 1)) hX dX2_takeLast_50 rfl (pk_sub (a := sz) (b := 1) (by omega)) ?_
    refine s_puti (q := 54) hX dX2_takeLast_51 rfl gfl_2_30 (by assumption) rfl ?_
    refine s_iconst (q := 55) (v := 1) hX dX2_takeLast_54 rfl rfl ?_
    refine s_iret hX dX2_takeLast_55 (Or.inr ⟨rfl, Or.inr rfl⟩) ⟨Nat.le_refl _, Nat.le_refl _, Nat.le_refl _, ?_⟩
    refine hcon (by omega) _ ⟨?_, ?_, hml, by omega, fun k hk => ?_⟩ ?_ (fun c hc hc2 => ?_)
    · rw [gsr_s, pk_un (by omega), gsr_s, pk_us]
    · rw [gsr_s, pk_us]
    · rw [gring2 f3 (by omega) hn]
      have hlt : (nw + n - (k + 1)) % n < n := Nat.mod_lt _ hn
      refine STR.keep (f5 (k + 1) (by omega)) (fun c h1 h2 => ?_)
      rw [gsr_n _ _ (by omega), gsr_n _ _ (by omega), hfr c (by omega)]
    · have h0 := f5 0 (by omega)
      rw [show (nw + n - 0) % n = nw by rw [Nat.sub_zero, Nat.add_mod_right]; exact Nat.mod_eq_of_lt f3] at h0
      refine STR.keep (hst P_ (us 0) hP6 h0) (fun c h1 h2 => ?_)
      rw [gsr_n _ _ (by omega), gsr_n _ _ (by omega)]
    · rw [gsr_n _ _ (by omega), gsr_n _ _ (by omega), hfr c (by omega)]
  · refine s_iconst (q := 8) (v := 0) hX dX2_takeLast_7 rfl rfl ?_
    refine s_iret hX dX2_takeLast_8 (Or.inr ⟨rfl, Or.inl rfl⟩) ⟨Nat.le_refl _, Nat.le_refl _, Nat.le_refl _, ?_⟩
    exact hcon0 (by omega)
