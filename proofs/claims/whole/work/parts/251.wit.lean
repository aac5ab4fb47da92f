theorem gT.s1_le {T : gT} {i kk : Nat} {h h1 : Nat → Nat} (hb : ∀ s, s < 3 → h s ≤ 99) (e : T.s1 i h kk = some h1) : ∀ s, s < 3 → h1 s ≤ 99 := by
  intro s hs
  have h0 := hb s hs
  cases kk with
  | zero => cases e; exact h0
  | succ k =>
    have e2 : (if T.can i k h = true then some (fun s => h s - T.pay i k h s) else none) = some h1 := e
    by_cases hc : T.can i k h = true
    · rw [if_pos hc] at e2
      cases e2
      exact Nat.le_trans (Nat.sub_le _ _) h0
    · rw [if_neg hc] at e2; cases e2
theorem gT.s2_le {T : gT} {i : Nat} {h : Nat → Nat} (hb : ∀ s, s < 3 → h s ≤ 99) : ∀ s, s < 3 → T.s2 i h s ≤ 99 := by
  intro s hs
  have h0 := hb s hs
  show (if T.kd i = 2 ∧ s = 2 then h s - 1 else h s) ≤ 99
  split
  · exact Nat.le_trans (Nat.sub_le _ _) h0
  · exact h0
theorem gT.sd_le {T : gT} {N : gN} {i wd d kk : Nat} {h h' : Nat → Nat} (hb : ∀ s, s < 3 → h s ≤ 99) (e : T.sd N i wd d h kk = some h') : ∀ s, s < 3 → h' s ≤ 99 := by
  unfold gT.sd at e
  cases h1 : T.s1 i h kk with
  | none => rw [h1] at e; cases e
  | some g =>
    rw [h1] at e
    dsimp only at e
    by_cases ha : N.ag i d (hueN (T.s2 i g)) N.n = true
    · rw [if_pos ha] at e
      have e2 := Option.some.inj e
      intro s hs
      rw [← e2]
      split
      · exact Nat.min_le_left _ _
      · exact gT.s2_le (gT.s1_le hb h1) s hs
    · rw [if_neg ha] at e; cases e
set_option maxHeartbeats 4000000 in
set_option maxRecDepth 100000 in
theorem c_spendDay {d e t i kk wd dy : Nat} {kv : Int32} {N : gN} {T : gT} {h : Nat → Nat} {sh : List gS} {M : gM} {Q : Option Value → List gS → gM → Prop} (hd : 3 ≤ d) (hE : isWit sh e) (hN : WIT M e N) (hok : N.ok) (hT : isTown sh t) (hW : TWN M t T) (hTk : T.ok) (hap : t + 6 < e ∨ e + 6 < t) (hi : i < T.P) (hwd : wd < 7) (hdy : dy < 4) (hkv : (kk = 0 ∧ kv = -1) ∨ (∃ k, kk = k + 1 ∧ kv = nI k ∧ k < T.D)) (hh : ∀ s, s < 3 → M (e + 4) (dy * 3 + s) = nI (h s)) (hb : ∀ s, s < 3 → h s ≤ 99) (hcon0 : T.sd N i wd (dy + 1) h kk = none → ∀ M', (∀ c, c ≠ e + 4 → c ≠ t + 6 → M' c = M c) → (∀ j, j < (dy + 1) * 3 → M' (e + 4) j = M (e + 4) j) → Q (some (.int 0)) sh M') (hcon1 : ∀ h', T.sd N i wd (dy + 1) h kk = some h' → ∀ M', (∀ s, s < 3 → M' (e + 4) ((dy + 1) * 3 + s) = nI (h' s)) → (∀ c, c ≠ e + 4 → c ≠ t + 6 → M' c = M c) → (∀ j, j < (dy + 1) * 3 → M' (e + 4) j = M (e + 4) j) → Q (some (.int 1)) sh M') : gC mX5_spendDay d 0 0 [.ref e, .ref t, .int (nI i), .int kv, .int (nI wd), .int (nI dy)] sh M Q := by
  have hE0 := hE
  have hT0 := hT
  have hTk0 := hTk
  obtain ⟨v0, v1, v2, v3, v4, v5, v6⟩ := hE
  obtain ⟨z0, z1, z2, z3, z4, z5, z6⟩ := hT
  obtain ⟨o1, o2, o3, o4, o5, o6, o7, o8⟩ := hTk
  refine gC_of (rt := 2) (ini := false) gm_X5_spendDay rfl (by decide) (Nat.le_of_ble_eq_true rfl) (fun X hX => ?_)
  have A : ∀ (h1 : Nat → Nat) (M' : gM), T.s1 i h kk = some h1 → (∀ s, s < 3 → M' (e + 4) ((dy + 1) * 3 + s) = nI (h1 s)) → (∀ c, c ≠ e + 4 → c ≠ t + 6 → M' c = M c) → (∀ j, j < (dy + 1) * 3 → M' (e + 4) j = M (e + 4) j) → X 57 [(0, .ref e), (1, .ref t), (2, .int (nI i)), (3, .int kv), (4, .int (nI wd)), (5, .int (nI dy)), (6, .int (nI ((dy + 1) * 3)))] [] sh M' 0 0 := by
    intro h1 M' hs1 hr hF hF2
    have b1 := gT.s1_le hb hs1
    have hW' : TWN M' t T := hW.keep (fun c a b => hF c (by omega) (by omega))
    have hx := hr 2 (by omega)
    have bx := b1 2 (by omega)
    have hsd : T.sd N i wd (dy + 1) h kk = if N.ag i (dy + 1) (hueN (T.s2 i h1)) N.n = true then some (if wd = 6 then T.rn i (T.s2 i h1) else T.s2 i h1) else none := by
      unfold gT.sd; rw [hs1]
    have B : ∀ (M2 : gM), (∀ s, s < 3 → M2 (e + 4) ((dy + 1) * 3 + s) = nI (T.s2 i h1 s)) → (∀ c, c ≠ e + 4 → c ≠ t + 6 → M2 c = M c) → (∀ j, j < (dy + 1) * 3 → M2 (e + 4) j = M (e + 4) j) → X 68 [(0, .ref e), (1, .ref t), (2, .int (nI i)), (3, .int kv), (4, .int (nI wd)), (5, .int (nI dy)), (6, .int (nI ((dy + 1) * 3)))] [] sh M2 0 0 := by
      intro M2 hr2 hF3 hF4
      have b2 := gT.s2_le (T := T) (i := i) b1
      have hu8 := hueN_lt (T.s2 i h1)
      have hW2 : TWN M2 t T := hW.keep (fun c a b => hF3 c (by omega) (by omega))
      have hN2 : WIT M2 e N := hN.keep (by rw [hF3 e (by omega) (by omega)]) (hF3 _ (by omega) (by omega)) (hF3 _ (by omega) (by omega)) (hF3 _ (by omega) (by omega))
      refine s_aload_n (q := 69) hX dX5_spendDay_68 rfl rfl ?_
      refine s_iload_n (q := 70) hX dX5_spendDay_69 rfl rfl ?_
      refine s_iload (q := 72) hX dX5_spendDay_70 rfl rfl ?_
      refine s_iconst (q := 73) (v := 1) hX dX5_spendDay_72 rfl rfl ?_
      refine s_iadd (q := 74) (v := nI (dy + 1)) hX dX5_spendDay_73 rfl (nI_add (dy) (1)) ?_
      refine s_aload_n (q := 75) hX dX5_spendDay_74 rfl rfl ?_
      refine s_getr (q := 78) hX dX5_spendDay_75 rfl gfl_5_21 (by assumption) rfl ?_
      refine s_iload (q := 80) hX dX5_spendDay_78 rfl rfl ?_
      refine s_invs2_1 (q := 83) hX dX5_spendDay_80 rfl glk_5_87 (by decide) (Nat.le_of_ble_eq_true rfl) ⟨Nat.le_refl _, Nat.le_refl _⟩ (by omega) (c_hueOf (d := 0) (h := T.s2 i h1) v4 (by omega) (by omega) hr2 b2 ?_) 
      refine ⟨_, rfl, ?_⟩
      refine s_invv3_1 (q := 86) hX dX5_spendDay_83 rfl glk_5_91 (by assumption) (Nat.le_of_ble_eq_true rfl) ⟨Nat.le_refl _, Nat.le_refl _⟩ (by omega) (c_agrees (d := 0) hE0 hN2 hok (by omega) (by omega) (by omega) ?_) 
      refine ⟨_, rfl, ?_⟩
      refine s_if_ne (q := 89) (r := 91) hX dX5_spendDay_86 rfl rfl (fun c86 => ?_) (fun c86 => ?_)
      · have hag : N.ag i (dy + 1) (hueN (T.s2 i h1)) N.n = true := gif_t c86
        refine s_iload (q := 93) hX dX5_spendDay_91 rfl rfl ?_
        refine s_bipush (q := 95) (v := 6) hX dX5_spendDay_93 rfl rfl (by decide) ?_
        refine s_nicmp_ne (a := wd) (b := 6) (q := 98) (r := 109) hX dX5_spendDay_95 rfl rfl rfl rfl (by omega) (by omega) (fun c95 => ?_) (fun c95 => ?_)
        · refine s_iconst (q := 110) (v := 1) hX dX5_spendDay_109 rfl rfl ?_
          refine s_iret hX dX5_spendDay_110 (Or.inr ⟨rfl, Or.inr rfl⟩) ⟨Nat.le_refl _, Nat.le_refl _, Nat.le_refl _, ?_⟩
          first
            | (refine hcon1 _ (by rw [hsd, if_pos hag, if_pos (by omega)]) (gsr M2 (e + 4) g) (fun s hs => ?_) (fun c h1 h2 => ?_) (fun j hj => ?_)
               · rw [gsr_s]; exact hg s hs
               · rw [gsr_n _ _ h1]; exact hF3 c h1 h2
               · rw [gsr_s, hg2 j (by omega)]; exact hF4 j hj)
            | exact hcon1 _ (by rw [hsd, if_pos hag, if_neg (by omega)]) M2 hr2 hF3 hF4
        · refine s_aload_n (q := 99) hX dX5_spendDay_98 rfl rfl ?_
          refine s_iload_n (q := 100) hX dX5_spendDay_99 rfl rfl ?_
          refine s_aload_n (q := 101) hX dX5_spendDay_100 rfl rfl ?_
          refine s_getr (q := 104) hX dX5_spendDay_101 rfl gfl_5_21 (by assumption) rfl ?_
          refine s_iload (q := 106) hX dX5_spendDay_104 rfl rfl ?_
          refine s_invv3_0 (q := 109) hX dX5_spendDay_106 rfl glk_5_95 (by assumption) (Nat.le_of_ble_eq_true rfl) ⟨Nat.le_refl _, Nat.le_refl _⟩ (by omega) (c_renew (d := 1) (h := T.s2 i h1) (Nat.le_refl _) hT0 hW2 hTk0 hi v4 (by omega) (by omega) (by omega) hr2 b2 (fun g hg hg2 => ?_)) 
          refine ⟨rfl, ?_⟩
          refine s_iconst (q := 110) (v := 1) hX dX5_spendDay_109 rfl rfl ?_
          refine s_iret hX dX5_spendDay_110 (Or.inr ⟨rfl, Or.inr rfl⟩) ⟨Nat.le_refl _, Nat.le_refl _, Nat.le_refl _, ?_⟩
          first
            | (refine hcon1 _ (by rw [hsd, if_pos hag, if_pos (by omega)]) (gsr M2 (e + 4) g) (fun s hs => ?_) (fun c h1 h2 => ?_) (fun j hj => ?_)
               · rw [gsr_s]; exact hg s hs
               · rw [gsr_n _ _ h1]; exact hF3 c h1 h2
               · rw [gsr_s, hg2 j (by omega)]; exact hF4 j hj)
            | exact hcon1 _ (by rw [hsd, if_pos hag, if_neg (by omega)]) M2 hr2 hF3 hF4
      · refine s_iconst (q := 90) (v := 0) hX dX5_spendDay_89 rfl rfl ?_
        refine s_iret hX dX5_spendDay_90 (Or.inr ⟨rfl, Or.inl rfl⟩) ⟨Nat.le_refl _, Nat.le_refl _, Nat.le_refl _, ?_⟩
        have hag : ¬ N.ag i (dy + 1) (hueN (T.s2 i h1)) N.n = true := gif_f2 c86
        exact hcon0 (by rw [hsd, if_neg hag]) M2 hF3 hF4
    refine s_aload_n (q := 58) hX dX5_spendDay_57 rfl rfl ?_
    refine s_iload_n (q := 59) hX dX5_spendDay_58 rfl rfl ?_
    refine s_aload_n (q := 60) hX dX5_spendDay_59 rfl rfl ?_
    refine s_getr (q := 63) hX dX5_spendDay_60 rfl gfl_5_21 (by assumption) rfl ?_
    refine s_iload (q := 65) hX dX5_spendDay_63 rfl rfl ?_
    refine s_invv3_0 (q := 68) hX dX5_spendDay_65 rfl glk_5_83 (by assumption) (Nat.le_of_ble_eq_true rfl) ⟨Nat.le_refl _, Nat.le_refl _⟩ (by omega) (c_tfade (d := 0) (x := h1 2) hT0 hW' hTk0 hi v4 (by omega) (by omega) hx (by omega) ?_) 
    refine ⟨rfl, ?_⟩
    refine B _ (fun s hs => ?_) (fun c h1 h2 => ?_) (fun j hj => ?_)
    · show _ = nI (if T.kd i = 2 ∧ s = 2 then h1 s - 1 else h1 s)
      by_cases e1 : T.kd i = 2 ∧ 0 < h1 2
      · rw [if_pos e1, gsr_s]
        by_cases e2 : s = 2
        · subst e2; rw [pk_us, if_pos ⟨e1.1, rfl⟩]
        · rw [pk_un (by omega), if_neg (fun z => e2 z.2)]; exact hr s hs
      · rw [if_neg e1, hr s hs]
        by_cases e2 : T.kd i = 2 ∧ s = 2
        · rw [if_pos e2, e2.2]; congr 1; have : ¬ 0 < h1 2 := fun z => e1 ⟨e2.1, z⟩; omega
        · rw [if_neg e2]
    · split
      · rw [gsr_n _ _ h1]; exact hF c h1 h2
      · exact hF c h1 h2
    · split
      · rw [gsr_s, pk_un (by omega)]; exact hF2 j hj
      · exact hF2 j hj
  have hcp : ∀ s, s < 3 → va_cpy (M (e + 4)) (M (e + 4)) (dy * 3) ((dy + 1) * 3) 3 ((dy + 1) * 3 + s) = nI (h s) := by
    intro s hs
    rw [pk_cpy_in (by omega) (by omega), show dy * 3 + ((dy + 1) * 3 + s - (dy + 1) * 3) = dy * 3 + s by omega]; exact hh s hs
  have hcp2 : ∀ j, j < (dy + 1) * 3 → va_cpy (M (e + 4)) (M (e + 4)) (dy * 3) ((dy + 1) * 3) 3 j = M (e + 4) j := fun j hj => pk_cpy_out (by omega)
  rcases hkv with ⟨rfl, rfl⟩ | ⟨k, rfl, rfl, hk⟩
  · refine s_iload (q := 2) hX dX5_spendDay_0 rfl rfl ?_
    refine s_iconst (q := 3) (v := 1) hX dX5_spendDay_2 rfl rfl ?_
    refine s_iadd (q := 4) (v := nI (dy + 1)) hX dX5_spendDay_3 rfl (nI_add (dy) (1)) ?_
    refine s_iconst (q := 5) (v := 3) hX dX5_spendDay_4 rfl rfl ?_
    refine s_imul (q := 6) (v := nI ((dy + 1) * 3)) hX dX5_spendDay_5 rfl (pk_mul (dy + 1) (3)) ?_
    refine s_istore (q := 8) (lv' := [(0, _), (1, _), (2, _), (3, _), (4, _), (5, _), (6, _)]) hX dX5_spendDay_6 rfl (Nat.le_of_ble_eq_true rfl) rfl ?_
    refine s_aload_n (q := 9) hX dX5_spendDay_8 rfl rfl ?_
    refine s_getr (q := 12) hX dX5_spendDay_9 rfl gfl_5_21 (by assumption) rfl ?_
    refine s_iload (q := 14) hX dX5_spendDay_12 rfl rfl ?_
    refine s_iconst (q := 15) (v := 3) hX dX5_spendDay_14 rfl rfl ?_
    refine s_imul (q := 16) (v := nI (dy * 3)) hX dX5_spendDay_15 rfl (pk_mul (dy) (3)) ?_
    refine s_aload_n (q := 17) hX dX5_spendDay_16 rfl rfl ?_
    refine s_getr (q := 20) hX dX5_spendDay_17 rfl gfl_5_21 (by assumption) rfl ?_
    refine s_iload (q := 22) hX dX5_spendDay_20 rfl rfl ?_
    refine s_iconst (q := 23) (v := 3) hX dX5_spendDay_22 rfl rfl ?_
    refine s_cpy (k0 := dy * 3) (k1 := (dy + 1) * 3) (n := 3) (q := 26) hX dX5_spendDay_23 rfl glk_5_48 (by omega) (Nat.le_of_ble_eq_true rfl) (by assumption) (by assumption) rfl rfl rfl (by omega) (by omega) (by omega) (by omega) ?_
    refine s_iload_n (q := 27) hX dX5_spendDay_26 rfl rfl ?_
    refine s_if_lt_t (q := 30) (r := 57) hX dX5_spendDay_27 rfl rfl (by decide) ?_
    exact A h _ rfl (fun s hs => by rw [gsr_s]; exact hcp s hs) (fun c h1 h2 => gsr_n _ _ h1) (fun j hj => by rw [gsr_s]; exact hcp2 j hj)
  · refine s_iload (q := 2) hX dX5_spendDay_0 rfl rfl ?_
    refine s_iconst (q := 3) (v := 1) hX dX5_spendDay_2 rfl rfl ?_
    refine s_iadd (q := 4) (v := nI (dy + 1)) hX dX5_spendDay_3 rfl (nI_add (dy) (1)) ?_
    refine s_iconst (q := 5) (v := 3) hX dX5_spendDay_4 rfl rfl ?_
    refine s_imul (q := 6) (v := nI ((dy + 1) * 3)) hX dX5_spendDay_5 rfl (pk_mul (dy + 1) (3)) ?_
    refine s_istore (q := 8) (lv' := [(0, _), (1, _), (2, _), (3, _), (4, _), (5, _), (6, _)]) hX dX5_spendDay_6 rfl (Nat.le_of_ble_eq_true rfl) rfl ?_
    refine s_aload_n (q := 9) hX dX5_spendDay_8 rfl rfl ?_
    refine s_getr (q := 12) hX dX5_spendDay_9 rfl gfl_5_21 (by assumption) rfl ?_
    refine s_iload (q := 14) hX dX5_spendDay_12 rfl rfl ?_
    refine s_iconst (q := 15) (v := 3) hX dX5_spendDay_14 rfl rfl ?_
    refine s_imul (q := 16) (v := nI (dy * 3)) hX dX5_spendDay_15 rfl (pk_mul (dy) (3)) ?_
    refine s_aload_n (q := 17) hX dX5_spendDay_16 rfl rfl ?_
    refine s_getr (q := 20) hX dX5_spendDay_17 rfl gfl_5_21 (by assumption) rfl ?_
    refine s_iload (q := 22) hX dX5_spendDay_20 rfl rfl ?_
    refine s_iconst (q := 23) (v := 3) hX dX5_spendDay_22 rfl rfl ?_
    refine s_cpy (k0 := dy * 3) (k1 := (dy + 1) * 3) (n := 3) (q := 26) hX dX5_spendDay_23 rfl glk_5_48 (by omega) (Nat.le_of_ble_eq_true rfl) (by assumption) (by assumption) rfl rfl rfl (by omega) (by omega) (by omega) (by omega) ?_
    refine s_iload_n (q := 27) hX dX5_spendDay_26 rfl rfl ?_
    refine s_if_lt_f (q := 30) (r := 57) hX dX5_spendDay_27 rfl rfl (nI_pos (by omega)) ?_
    refine s_aload_n (q := 31) hX dX5_spendDay_30 rfl rfl ?_
    refine s_iload_n (q := 32) hX dX5_spendDay_31 rfl rfl ?_
    refine s_iload_n (q := 33) hX dX5_spendDay_32 rfl rfl ?_
    refine s_aload_n (q := 34) hX dX5_spendDay_33 rfl rfl ?_
    refine s_getr (q := 37) hX dX5_spendDay_34 rfl gfl_5_21 (by assumption) rfl ?_
    refine s_iload (q := 39) hX dX5_spendDay_37 rfl rfl ?_
    refine s_invv4_1 (q := 42) hX dX5_spendDay_39 rfl glk_5_75 (by assumption) (Nat.le_of_ble_eq_true rfl) ⟨Nat.le_refl _, Nat.le_refl _⟩ (by omega) (c_affords (d := 2) (h := h) (Nat.le_refl _) hT0 (hW.keep (fun c a b => gsr_n _ _ (by omega))) hTk0 hi hk v4 (by omega) (by omega) (by omega) (fun s hs => by rw [gsr_s]; exact hcp s hs) (fun s hs => Nat.lt_of_le_of_lt (hb s hs) (by omega)) (fun g hg => ?_)) 
    refine ⟨_, rfl, ?_⟩
    refine s_if_ne (q := 45) (r := 47) hX dX5_spendDay_42 rfl rfl (fun c42 => ?_) (fun c42 => ?_)
    · refine s_aload_n (q := 48) hX dX5_spendDay_47 rfl rfl ?_
      refine s_aload_n (q := 49) hX dX5_spendDay_48 rfl rfl ?_
      refine s_getr (q := 52) hX dX5_spendDay_49 rfl gfl_5_21 (by assumption) rfl ?_
      refine s_iload (q := 54) hX dX5_spendDay_52 rfl rfl ?_
      refine s_invv2_0 (q := 57) hX dX5_spendDay_54 rfl glk_5_79 (by assumption) (Nat.le_of_ble_eq_true rfl) ⟨Nat.le_refl _, Nat.le_refl _⟩ (by omega) (c_pay (d := 0) hT0 v4 (by omega) (by omega) (by omega) ?_) 
      refine ⟨rfl, ?_⟩
      have hc : T.can i k h = true := gif_t c42
      have hg := hg hc
      have hple : ∀ r, r < 3 → T.pay i k h r ≤ h r := payC_le hc
      refine A _ _ (if_pos hc) (fun s hs => ?_) (fun c h1 h2 => ?_) (fun j hj => ?_)
      · rw [gsr_s, gsr_n _ _ (by omega), gsr_s, gsr_s]
        have key : ∀ r, r < 3 → va_cpy (M (e + 4)) (M (e + 4)) (dy * 3) ((dy + 1) * 3) 3 ((dy + 1) * 3 + r) - g r = nI (h r - T.pay i k h r) := fun r hr => by rw [hcp r hr, hg r hr]; exact pk_sub (hple r hr)
        unfold pay3
        rcases (show s = 0 ∨ s = 1 ∨ s = 2 by omega) with rfl | rfl | rfl
        · rw [if_pos (by omega)]; exact key 0 (by omega)
        · rw [if_neg (by omega), if_pos rfl]; exact key 1 (by omega)
        · rw [if_neg (by omega), if_neg (by omega), if_pos rfl]; exact key 2 (by omega)
      · rw [gsr_n _ _ h1, gsr_n _ _ h2, gsr_n _ _ h1]
      · rw [gsr_s, gsr_n _ _ (by omega), gsr_s]
        unfold pay3
        rw [if_neg (by omega), if_neg (by omega), if_neg (by omega)]; exact hcp2 j hj
    · refine s_iconst (q := 46) (v := 0) hX dX5_spendDay_45 rfl rfl ?_
      refine s_iret hX dX5_spendDay_46 (Or.inr ⟨rfl, Or.inl rfl⟩) ⟨Nat.le_refl _, Nat.le_refl _, Nat.le_refl _, ?_⟩
      have hn : ¬ T.can i k h = true := gif_f2 c42
      refine hcon0 ?_ _ (fun c h1 h2 => ?_) (fun j hj => ?_)
      · unfold gT.sd
        have : T.s1 i h (k + 1) = none := if_neg hn
        rw [this]
      · rw [gsr_n _ _ h2, gsr_n _ _ h1]
      · rw [gsr_n _ _ (by omega), gsr_s]; exact hcp2 j hj
