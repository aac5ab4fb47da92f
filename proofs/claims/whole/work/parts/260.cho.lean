set_option maxHeartbeats 4000000 in
set_option maxRecDepth 100000 in
theorem c_isBetter {d e w s : Nat} {B : gB} {sh : List gS} {M : gM} {Q : Option Value → List gS → gM → Prop} (hE : isCho sh e) (h4 : M e 4 = gkv B.1) (h5 : M e 5 = nI B.2.1) (hB : gB.ok B) (hw : w ≤ 1000) (hs : s ≤ 1000) (hcon : Q (some (.int (if bet w s B then 1 else 0))) sh M) : gC mX0_isBetter d 0 0 [.ref e, .int (nI w), .int (nI s)] sh M Q := by
  obtain ⟨v0, v1, v2, v3, v4⟩ := hE
  obtain ⟨b1, b2⟩ := hB
  refine gC_of (rt := 2) (ini := false) gm_X0_isBetter rfl (by decide) (Nat.le_of_ble_eq_true rfl) (fun X hX => ?_)
  refine s_iload_n (q := 1) hX dX0_isBetter_0 rfl rfl ?_
  refine s_aload_n (q := 2) hX dX0_isBetter_1 rfl rfl ?_
  refine s_geti (q := 5) hX dX0_isBetter_2 rfl gfl_0_24 (by assumption) rfl ?_
  refine s_icmp_gt (q := 8) (r := 24) hX dX0_isBetter_5 rfl rfl (fun c5 => ?_) (fun c5 => ?_)
  · refine s_iconst (q := 25) (v := 1) hX dX0_isBetter_24 rfl rfl ?_
    refine s_goto (q := 29) hX dX0_isBetter_25 rfl ?_
    refine s_iret hX dX0_isBetter_29 (Or.inr ⟨rfl, Or.inr rfl⟩) ⟨Nat.le_refl _, Nat.le_refl _, Nat.le_refl _, ?_⟩
    refine gqv hcon ?_ rfl
    have k1 := gkv_lt (w := w) (b := B.1) hw (by omega)
    have k2 := gkv_eq (w := w) (b := B.1) hw (by omega)
    rw [h4] at *
    rw [k1] at c5
    try rw [k2] at c13
    first
      | rw [if_pos (show bet w s B from by show _ ∨ _; omega)]
      | rw [if_neg (show ¬ bet w s B from by show ¬ (_ ∨ _); omega)]
  · refine s_iload_n (q := 9) hX dX0_isBetter_8 rfl rfl ?_
    refine s_aload_n (q := 10) hX dX0_isBetter_9 rfl rfl ?_
    refine s_geti (q := 13) hX dX0_isBetter_10 rfl gfl_0_24 (by assumption) rfl ?_
    refine s_icmp_ne (q := 16) (r := 28) hX dX0_isBetter_13 rfl rfl (fun c13 => ?_) (fun c13 => ?_)
    · refine s_iconst (q := 29) (v := 0) hX dX0_isBetter_28 rfl rfl ?_
      refine s_iret hX dX0_isBetter_29 (Or.inr ⟨rfl, Or.inl rfl⟩) ⟨Nat.le_refl _, Nat.le_refl _, Nat.le_refl _, ?_⟩
      refine gqv hcon ?_ rfl
      have k1 := gkv_lt (w := w) (b := B.1) hw (by omega)
      have k2 := gkv_eq (w := w) (b := B.1) hw (by omega)
      rw [h4] at *
      rw [k1] at c5
      try rw [k2] at c13
      first
        | rw [if_pos (show bet w s B from by show _ ∨ _; omega)]
        | rw [if_neg (show ¬ bet w s B from by show ¬ (_ ∨ _); omega)]
    · refine s_iload_n (q := 17) hX dX0_isBetter_16 rfl rfl ?_
      refine s_aload_n (q := 18) hX dX0_isBetter_17 rfl rfl ?_
      refine s_geti (q := 21) hX dX0_isBetter_18 rfl gfl_0_28 (by assumption) rfl ?_
      refine s_topi (v := nI (B.2.1)) h5 ?_
      refine s_nicmp_ge (a := s) (b := B.2.1) (q := 24) (r := 28) hX dX0_isBetter_21 rfl rfl rfl rfl (by omega) (by omega) (fun c21 => ?_) (fun c21 => ?_)
      · refine s_iconst (q := 29) (v := 0) hX dX0_isBetter_28 rfl rfl ?_
        refine s_iret hX dX0_isBetter_29 (Or.inr ⟨rfl, Or.inl rfl⟩) ⟨Nat.le_refl _, Nat.le_refl _, Nat.le_refl _, ?_⟩
        refine gqv hcon ?_ rfl
        have k1 := gkv_lt (w := w) (b := B.1) hw (by omega)
        have k2 := gkv_eq (w := w) (b := B.1) hw (by omega)
        rw [h4] at *
        rw [k1] at c5
        try rw [k2] at c13
        first
          | rw [if_pos (show bet w s B from by show _ ∨ _; omega)]
          | rw [if_neg (show ¬ bet w s B from by show ¬ (_ ∨ _); omega)]
      · refine s_iconst (q := 25) (v := 1) hX dX0_isBetter_24 rfl rfl ?_
        refine s_goto (q := 29) hX dX0_isBetter_25 rfl ?_
        refine s_iret hX dX0_isBetter_29 (Or.inr ⟨rfl, Or.inr rfl⟩) ⟨Nat.le_refl _, Nat.le_refl _, Nat.le_refl _, ?_⟩
        refine gqv hcon ?_ rfl
        have k1 := gkv_lt (w := w) (b := B.1) hw (by omega)
        have k2 := gkv_eq (w := w) (b := B.1) hw (by omega)
        rw [h4] at *
        rw [k1] at c5
        try rw [k2] at c13
        first
          | rw [if_pos (show bet w s B from by show _ ∨ _; omega)]
          | rw [if_neg (show ¬ bet w s B from by show ¬ (_ ∨ _); omega)]
set_option maxHeartbeats 4000000 in
set_option maxRecDepth 100000 in
theorem c_repeat {d e t i k a : Nat} {T : gT} {h : Nat → Nat} {sh : List gS} {M : gM} {Q : Option Value → List gS → gM → Prop} (hd : 3 ≤ d) (hE : isCho sh e) (hT : isTown sh t) (hW : TWN M t T) (hTk : T.ok) (hap : t + 6 < e ∨ e + 4 < t) (hi : i < T.P) (hk : k < T.D) (ha : a + 3 ≤ 111) (ha2 : a + 3 ≤ k * 18 ∨ a = 108) (hh : ∀ s, s < 3 → M (e + 1) (a + s) = nI (h s)) (hb : ∀ s, s < 3 → h s ≤ 99) (hcon : ∀ m M', m ≤ 5 → (∀ x, x ≤ m → ∃ g, T.rp i k h x = some g ∧ ∀ s, s < 3 → M' (e + 1) (k * 18 + x * 3 + s) = nI (g s)) → (m = 5 ∨ T.rp i k h (m + 1) = none) → (∀ j, (j < k * 18 ∨ (k + 1) * 18 ≤ j) → M' (e + 1) j = M (e + 1) j) → (∀ c, c ≠ e + 1 → c ≠ t + 6 → M' c = M c) → Q (some (.int (nI m))) sh M') : gC mX0_repeat d 0 0 [.ref e, .ref t, .int (nI i), .int (nI k), .int (nI a)] sh M Q := by
  have hE0 := hE
  have hT0 := hT
  have hTk0 := hTk
  obtain ⟨v0, v1, v2, v3, v4⟩ := hE
  obtain ⟨z0, z1, z2, z3, z4, z5, z6⟩ := hT
  obtain ⟨o1, o2, o3, o4, o5, o6, o7, o8⟩ := hTk
  refine gC_of (rt := 1) (ini := false) gm_X0_repeat rfl (by decide) (Nat.le_of_ble_eq_true rfl) (fun X hX => ?_)
  have L : ∀ (m n : Nat) (M' : gM), n + m = 5 → (∀ x, x ≤ n → ∃ g, T.rp i k h x = some g ∧ ∀ s, s < 3 → M' (e + 1) (k * 18 + x * 3 + s) = nI (g s)) → (∀ j, (j < k * 18 ∨ (k + 1) * 18 ≤ j) → M' (e + 1) j = M (e + 1) j) → (∀ c, c ≠ e + 1 → c ≠ t + 6 → M' c = M c) → X 25 [(0, .ref e), (1, .ref t), (2, .int (nI i)), (3, .int (nI k)), (4, .int (nI a)), (5, .int (nI (k * 18 + n * 3))), (6, .int (nI n))] [] sh M' 0 0 := by
    intro m
    induction m with
    | zero =>
      intro n M' hn hr f1 f2
      have n5 : n = 5 := by omega
      subst n5
      refine s_iload (q := 27) hX dX0_repeat_25 rfl rfl ?_
      refine s_iconst (q := 28) (v := 5) hX dX0_repeat_27 rfl rfl ?_
      refine s_icmp_ge_t (q := 31) (r := 86) hX dX0_repeat_28 rfl rfl (by decide) ?_
      refine s_iconst (q := 87) (v := 5) hX dX0_repeat_86 rfl rfl ?_
      refine s_iret hX dX0_repeat_87 (Or.inl rfl) ⟨Nat.le_refl _, Nat.le_refl _, Nat.le_refl _, ?_⟩
      exact hcon 5 M' (Nat.le_refl _) hr (Or.inl rfl) f1 f2
    | succ m ih =>
      intro n M' hn hr f1 f2
      obtain ⟨g0, hg0, hg1⟩ := hr n (Nat.le_refl _)
      have bg := gT.rp_le hb n g0 hg0
      have hW' : TWN M' t T := hW.keep (fun c a b => f2 c (by omega) (by omega))
      refine s_iload (q := 27) hX dX0_repeat_25 rfl rfl ?_
      refine s_iconst (q := 28) (v := 5) hX dX0_repeat_27 rfl rfl ?_
      refine s_nicmp_ge (a := n) (b := 5) (q := 31) (r := 86) hX dX0_repeat_28 rfl rfl rfl rfl (by omega) (by omega) (fun c28 => ?_) (fun c28 => ?_)
      · refine s_iconst (q := 87) (v := 5) hX dX0_repeat_86 rfl rfl ?_
        refine s_iret hX dX0_repeat_87 (Or.inl rfl) ⟨Nat.le_refl _, Nat.le_refl _, Nat.le_refl _, ?_⟩
        exact absurd c28 (by omega)
      · refine s_aload_n (q := 32) hX dX0_repeat_31 rfl rfl ?_
        refine s_iload_n (q := 33) hX dX0_repeat_32 rfl rfl ?_
        refine s_iload_n (q := 34) hX dX0_repeat_33 rfl rfl ?_
        refine s_aload_n (q := 35) hX dX0_repeat_34 rfl rfl ?_
        refine s_getr (q := 38) hX dX0_repeat_35 rfl gfl_0_11 (by assumption) rfl ?_
        refine s_iload (q := 40) hX dX0_repeat_38 rfl rfl ?_
        refine s_invv4_1 (q := 43) hX dX0_repeat_40 rfl glk_0_62 (by assumption) (Nat.le_of_ble_eq_true rfl) ⟨Nat.le_refl _, Nat.le_refl _⟩ (by omega) (c_affords (d := 2) (h := g0) (Nat.le_refl _) hT0 hW' hTk0 hi hk v1 (by omega) (by omega) (by omega) hg1 (fun s hs => Nat.lt_of_le_of_lt (bg s hs) (by omega)) (fun g hg => ?_)) 
        refine ⟨_, rfl, ?_⟩
        refine s_if_ne (q := 46) (r := 49) hX dX0_repeat_43 rfl rfl (fun c43 => ?_) (fun c43 => ?_)
        · refine s_aload_n (q := 50) hX dX0_repeat_49 rfl rfl ?_
          refine s_getr (q := 53) hX dX0_repeat_50 rfl gfl_0_11 (by assumption) rfl ?_
          refine s_iload (q := 55) hX dX0_repeat_53 rfl rfl ?_
          refine s_aload_n (q := 56) hX dX0_repeat_55 rfl rfl ?_
          refine s_getr (q := 59) hX dX0_repeat_56 rfl gfl_0_11 (by assumption) rfl ?_
          refine s_iload (q := 61) hX dX0_repeat_59 rfl rfl ?_
          refine s_iconst (q := 62) (v := 3) hX dX0_repeat_61 rfl rfl ?_
          refine s_iadd (q := 63) (v := nI (k * 18 + n * 3 + 3)) hX dX0_repeat_62 rfl (nI_add (k * 18 + n * 3) (3)) ?_
          refine s_iconst (q := 64) (v := 3) hX dX0_repeat_63 rfl rfl ?_
          refine s_cpy (k0 := k * 18 + n * 3) (k1 := k * 18 + n * 3 + 3) (n := 3) (q := 67) hX dX0_repeat_64 rfl glk_0_44 (by omega) (Nat.le_of_ble_eq_true rfl) (by assumption) (by assumption) rfl rfl rfl (by omega) (by omega) (by omega) (by omega) ?_
          refine s_iinc (q := 70) (v := nI (k * 18 + (n + 1) * 3)) (lv' := [(0, _), (1, _), (2, _), (3, _), (4, _), (5, _), (6, _)]) hX dX0_repeat_67 rfl rfl (by rw [show Int32.ofInt 3 = nI 3 from rfl, nI_add]; congr 1; omega) (Nat.le_of_ble_eq_true rfl) rfl ?_
          refine s_aload_n (q := 71) hX dX0_repeat_70 rfl rfl ?_
          refine s_aload_n (q := 72) hX dX0_repeat_71 rfl rfl ?_
          refine s_getr (q := 75) hX dX0_repeat_72 rfl gfl_0_11 (by assumption) rfl ?_
          refine s_iload (q := 77) hX dX0_repeat_75 rfl rfl ?_
          refine s_invv2_0 (q := 80) hX dX0_repeat_77 rfl glk_0_66 (by assumption) (Nat.le_of_ble_eq_true rfl) ⟨Nat.le_refl _, Nat.le_refl _⟩ (by omega) (c_pay (d := 0) hT0 v1 (by omega) (by omega) (by omega) ?_) 
          refine ⟨rfl, ?_⟩
          refine s_iinc (q := 83) (v := nI (n + 1)) (lv' := [(0, _), (1, _), (2, _), (3, _), (4, _), (5, _), (6, _)]) hX dX0_repeat_80 rfl rfl (nI_add (n) 1) (Nat.le_of_ble_eq_true rfl) rfl ?_
          refine s_goto (q := 25) hX dX0_repeat_83 rfl ?_
          have hc : T.can i k g0 = true := gif_t c43
          have hg := hg hc
          have hple : ∀ r, r < 3 → T.pay i k g0 r ≤ g0 r := payC_le hc
          have hcp : ∀ s, s < 3 → va_cpy (M' (e + 1)) (M' (e + 1)) (k * 18 + n * 3) (k * 18 + n * 3 + 3) 3 (k * 18 + (n + 1) * 3 + s) = nI (g0 s) := by
            intro s hs
            rw [pk_cpy_in (by omega) (by omega), show k * 18 + n * 3 + (k * 18 + (n + 1) * 3 + s - (k * 18 + n * 3 + 3)) = k * 18 + n * 3 + s by omega]; exact hg1 s hs
          refine ih (n + 1) _ (by omega) (fun x hx => ?_) (fun j hj => ?_) (fun c h1 h2 => ?_)
          · by_cases hx1 : x = n + 1
            · subst hx1
              refine ⟨fun s => g0 s - T.pay i k g0 s, ?_, fun s hs => ?_⟩
              · show (match T.rp i k h n with
                  | none => none
                  | some g => T.s1 i g (k + 1)) = _
                rw [hg0]
                exact if_pos hc
              · rw [gsr_s, gsr_n _ _ (show e + 1 ≠ t + 6 by omega), gsr_s, gsr_n _ _ (show t + 6 ≠ e + 1 by omega), gsr_s]
                have key : ∀ r, r < 3 → va_cpy (M' (e + 1)) (M' (e + 1)) (k * 18 + n * 3) (k * 18 + n * 3 + 3) 3 (k * 18 + (n + 1) * 3 + r) - g r = nI (g0 r - T.pay i k g0 r) := fun r hr => by rw [hcp r hr, hg r hr]; exact pk_sub (hple r hr)
                unfold pay3
                rcases (show s = 0 ∨ s = 1 ∨ s = 2 by omega) with rfl | rfl | rfl
                · rw [if_pos (by omega)]; exact key 0 (by omega)
                · rw [if_neg (by omega), if_pos rfl]; exact key 1 (by omega)
                · rw [if_neg (by omega), if_neg (by omega), if_pos rfl]; exact key 2 (by omega)
            · obtain ⟨g1, hx2, hx3⟩ := hr x (by omega)
              refine ⟨g1, hx2, fun s hs => ?_⟩
              rw [gsr_s, gsr_n _ _ (show e + 1 ≠ t + 6 by omega), gsr_s]
              unfold pay3
              rw [if_neg (by omega), if_neg (by omega), if_neg (by omega), pk_cpy_out (by omega)]
              exact hx3 s hs
          · rw [gsr_s, gsr_n _ _ (show e + 1 ≠ t + 6 by omega), gsr_s]
            unfold pay3
            rw [if_neg (by omega), if_neg (by omega), if_neg (by omega), pk_cpy_out (by omega)]
            exact f1 j hj
          · rw [gsr_n _ _ h1, gsr_n _ _ h1, gsr_n _ _ h2]; exact f2 c h1 h2
        · refine s_iload (q := 48) hX dX0_repeat_46 rfl rfl ?_
          refine s_iret hX dX0_repeat_48 (Or.inl rfl) ⟨Nat.le_refl _, Nat.le_refl _, Nat.le_refl _, ?_⟩
          have hnc : ¬ T.can i k g0 = true := gif_f2 c43
          refine hcon n _ (by omega) (fun x hx => ?_) (Or.inr ?_) (fun j hj => ?_) (fun c h1 h2 => ?_)
          · obtain ⟨g1, hx1, hx2⟩ := hr x hx
            exact ⟨g1, hx1, fun s hs => by rw [gsr_n _ _ (by omega)]; exact hx2 s hs⟩
          · show (match T.rp i k h n with
              | none => none
              | some g => T.s1 i g (k + 1)) = none
            rw [hg0]
            exact if_neg hnc
          · rw [gsr_n _ _ (by omega)]; exact f1 j hj
          · rw [gsr_n _ _ h2]; exact f2 c h1 h2
  refine s_iload_n (q := 1) hX dX0_repeat_0 rfl rfl ?_
  refine s_bipush (q := 3) (v := 18) hX dX0_repeat_1 rfl rfl (by decide) ?_
  refine s_imul (q := 4) (v := nI (k * 18)) hX dX0_repeat_3 rfl (pk_mul (k) (18)) ?_
  refine s_istore (q := 6) (lv' := [(0, _), (1, _), (2, _), (3, _), (4, _), (5, _)]) hX dX0_repeat_4 rfl (Nat.le_of_ble_eq_true rfl) rfl ?_
  refine s_aload_n (q := 7) hX dX0_repeat_6 rfl rfl ?_
  refine s_getr (q := 10) hX dX0_repeat_7 rfl gfl_0_11 (by assumption) rfl ?_
  refine s_iload (q := 12) hX dX0_repeat_10 rfl rfl ?_
  refine s_aload_n (q := 13) hX dX0_repeat_12 rfl rfl ?_
  refine s_getr (q := 16) hX dX0_repeat_13 rfl gfl_0_11 (by assumption) rfl ?_
  refine s_iload (q := 18) hX dX0_repeat_16 rfl rfl ?_
  refine s_iconst (q := 19) (v := 3) hX dX0_repeat_18 rfl rfl ?_
  refine s_cpy (k0 := a) (k1 := k * 18) (n := 3) (q := 22) hX dX0_repeat_19 rfl glk_0_44 (by omega) (Nat.le_of_ble_eq_true rfl) (by assumption) (by assumption) rfl rfl rfl (by omega) (by omega) (by omega) (by omega) ?_
  refine s_iconst (q := 23) (v := 0) hX dX0_repeat_22 rfl rfl ?_
  refine s_istore (q := 25) (lv' := [(0, _), (1, _), (2, _), (3, _), (4, _), (5, _), (6, _)]) hX dX0_repeat_23 rfl (Nat.le_of_ble_eq_true rfl) rfl ?_
  refine L 5 0 _ rfl (fun x hx => ?_) (fun j hj => ?_) (fun c h1 h2 => ?_)
  · have x0 : x = 0 := by omega
    subst x0
    refine ⟨h, rfl, fun s hs => ?_⟩
    rw [gsr_s, pk_cpy_in (by omega) (by omega), show a + (k * 18 + 0 * 3 + s - k * 18) = a + s by omega]; exact hh s hs
  · rw [gsr_s, pk_cpy_out (by omega)]
  · rw [gsr_n _ _ h1]
