set_option maxHeartbeats 4000000 in
set_option maxRecDepth 100000 in
theorem c_affords {d t i k f a n : Nat} {T : gT} {h : Nat → Nat} {sh : List gS} {M : gM} {Q : Option Value → List gS → gM → Prop} (hd : 2 ≤ d) (hT : isTown sh t) (hW : TWN M t T) (hok : T.ok) (hi : i < T.P) (hk : k < T.D) (hf : sh[f]? = some (.inr (.inl (0, n)))) (hn : n ≤ 1000) (ha : a + 3 ≤ n) (hft : f ≠ t + 6) (hh : ∀ s, s < 3 → M f (a + s) = nI (h s)) (hl : ∀ s, s < 3 → h s < 1000) (hcon : ∀ g, (T.can i k h = true → ∀ s, s < 3 → g s = nI (T.pay i k h s)) → Q (some (.int (if T.can i k h = true then 1 else 0))) sh (gsr M (t + 6) g)) : gC mX4_affords d 0 0 [.ref t, .int (nI i), .int (nI k), .ref f, .int (nI a)] sh M Q := by
  have hT0 := hT
  have hW0 := hW
  have hok0 := hok
  obtain ⟨z0, z1, z2, z3, z4, z5, z6⟩ := hT
  obtain ⟨w1, w2, w3, w4, w5, w6, w7, w8⟩ := hW
  obtain ⟨o1, o2, o3, o4, o5, o6, o7, o8⟩ := hok
  have hkd := w4 i hi
  have bkd := o4 i hi
  have hcs : ∀ s, s < 3 → T.cs i k s ≤ 4 := by
    have b0 := o6 (3 * k + 0) (by omega)
    have b1 := o6 (3 * k + 1) (by omega)
    have b2 := o6 (3 * k + 2) (by omega)
    intro s hs
    have b := o6 (3 * k + s) (by omega)
    unfold gT.cs pcs
    dsimp only
    (repeat' split) <;> omega
  unfold gT.can gT.pay at hcon
  obtain ⟨c, hce⟩ : ∃ c, c = T.cs i k := ⟨_, rfl⟩
  rw [← hce] at hcs hcon
  refine gC_of (rt := 2) (ini := false) gm_X4_affords rfl (by decide) (Nat.le_of_ble_eq_true rfl) (fun X hX => ?_)
  have key : ∀ g, (∀ s, s < 3 → g s = nI (c s)) → X 6 [(0, .ref t), (1, .int (nI i)), (2, .int (nI k)), (3, .ref f), (4, .int (nI a))] [] sh (gsr M (t + 6) g) 0 0 := by
    intro g hg
    have lk : ∀ s, s ≤ 3 → lck c h s ≤ 4 * s := by
      intro s
      induction s with
      | zero => intro _; exact Nat.le_refl 0
      | succ s ih =>
        intro hs
        have := ih (by omega)
        have := hcs s (by omega)
        show lck c h s + (c s - h s) ≤ _
        omega
    have L : ∀ (m s sc : Nat), s ≤ 3 → 3 < s + m → sc < 3 → (∀ r, r < s → h r < c r → (∀ r', r' < s → r < r' → c r' ≤ h r') → sc = r) → X 15 [(0, .ref t), (1, .int (nI i)), (2, .int (nI k)), (3, .ref f), (4, .int (nI a)), (5, .int (nI (lck c h s))), (6, .int (nI sc)), (7, .int (nI s))] [] sh (gsr M (t + 6) g) 0 0 := by
      intro m
      induction m with
      | zero => intro s sc h1 h2; omega
      | succ m ih =>
        intro s sc hs hm hsc hlast
        have lks := lk s hs
        refine s_iload (q := 17) hX dX4_affords_15 rfl rfl ?_
        refine s_iconst (q := 18) (v := 3) hX dX4_affords_17 rfl rfl ?_
        refine s_nicmp_ge (a := s) (b := 3) (q := 21) (r := 60) hX dX4_affords_18 rfl rfl rfl rfl (by omega) (by omega) (fun c18 => ?_) (fun c18 => ?_)
        · have hs3 : s = 3 := by omega
          subst hs3
          refine s_iload (q := 62) hX dX4_affords_60 rfl rfl ?_
          refine s_nif_ne (a := lck c h 3) (b := 0) (q := 65) (r := 67) hX dX4_affords_62 rfl rfl rfl rfl (by omega) (by omega) (fun c62 => ?_) (fun c62 => ?_)
          · refine s_iload (q := 69) hX dX4_affords_67 rfl rfl ?_
            refine s_iconst (q := 70) (v := 1) hX dX4_affords_69 rfl rfl ?_
            refine s_nicmp_ne (a := lck c h 3) (b := 1) (q := 73) (r := 99) hX dX4_affords_70 rfl rfl rfl rfl (by omega) (by omega) (fun c70 => ?_) (fun c70 => ?_)
            · refine s_iconst (q := 100) (v := 0) hX dX4_affords_99 rfl rfl ?_
              refine s_iret hX dX4_affords_100 (Or.inr ⟨rfl, Or.inl rfl⟩) ⟨Nat.le_refl _, Nat.le_refl _, Nat.le_refl _, ?_⟩
              first
                | (have hc : ¬ canC (T.kd i) c h = true := by
                    intro z
                    simp only [canC, Bool.or_eq_true, Bool.and_eq_true, decide_eq_true_eq] at z
                    omega
                   exact gqv (hcon g (fun z => absurd z hc)) (by rw [if_neg hc]) rfl)
                | (have hf2 := gif_f c92
                   have hc : ¬ canC (T.kd i) c h = true := by
                    intro z
                    simp only [canC, Bool.or_eq_true, Bool.and_eq_true, decide_eq_true_eq] at z
                    rcases z with z | z
                    · omega
                    · exact hf2 z.2
                   rw [gsr_gsr]
                   exact gqv (hcon g2 (fun z => absurd z hc)) (by rw [if_neg hc]) rfl)
            · refine s_aload_n (q := 74) hX dX4_affords_73 rfl rfl ?_
              refine s_getr (q := 77) hX dX4_affords_74 rfl gfl_4_9 (by assumption) rfl ?_
              refine s_iload_n (q := 78) hX dX4_affords_77 rfl rfl ?_
              refine s_iald (k := i) (q := 79) hX dX4_affords_78 rfl (by assumption) rfl (by omega) (by omega) ?_
              refine s_topi (v := nI (T.kd i)) (by rw [gsr_n _ _ (by omega)]; exact hkd) ?_
              refine s_iconst (q := 80) (v := 4) hX dX4_affords_79 rfl rfl ?_
              refine s_nicmp_ne (a := T.kd i) (b := 4) (q := 83) (r := 99) hX dX4_affords_80 rfl rfl rfl rfl (by omega) (by omega) (fun c80 => ?_) (fun c80 => ?_)
              · refine s_iconst (q := 100) (v := 0) hX dX4_affords_99 rfl rfl ?_
                refine s_iret hX dX4_affords_100 (Or.inr ⟨rfl, Or.inl rfl⟩) ⟨Nat.le_refl _, Nat.le_refl _, Nat.le_refl _, ?_⟩
                first
                  | (have hc : ¬ canC (T.kd i) c h = true := by
                      intro z
                      simp only [canC, Bool.or_eq_true, Bool.and_eq_true, decide_eq_true_eq] at z
                      omega
                     exact gqv (hcon g (fun z => absurd z hc)) (by rw [if_neg hc]) rfl)
                  | (have hf2 := gif_f c92
                     have hc : ¬ canC (T.kd i) c h = true := by
                      intro z
                      simp only [canC, Bool.or_eq_true, Bool.and_eq_true, decide_eq_true_eq] at z
                      rcases z with z | z
                      · omega
                      · exact hf2 z.2
                     rw [gsr_gsr]
                     exact gqv (hcon g2 (fun z => absurd z hc)) (by rw [if_neg hc]) rfl)
              · refine s_aload_n (q := 84) hX dX4_affords_83 rfl rfl ?_
                refine s_aload_n (q := 85) hX dX4_affords_84 rfl rfl ?_
                refine s_iload (q := 87) hX dX4_affords_85 rfl rfl ?_
                refine s_iload (q := 89) hX dX4_affords_87 rfl rfl ?_
                have hmx : (∀ s, s < 3 → c s = if s = sc then h s + 1 else c s) ∧ (∀ s, s < 3 → s ≠ sc → c s ≤ h s) := by
                  obtain ⟨r, hr, hcr, ho⟩ := lck_one (c := c) (h := h) (by omega)
                  have e : sc = r := hlast r hr (by omega) (fun r' h1 h2 => ho r' h1 (by omega))
                  subst e
                  refine ⟨fun s hs => ?_, ho⟩
                  by_cases z : s = sc
                  · subst z; rw [if_pos rfl]; exact hcr
                  · rw [if_neg z]
                refine s_invv3_1 (q := 92) hX dX4_affords_89 rfl glk_4_71 (by assumption) (Nat.le_of_ble_eq_true rfl) ⟨Nat.le_refl _, Nat.le_refl _⟩ (by omega) (c_mix (d := 0) (c := c) (h := h) hT0 hf hn ha hft hsc (fun s hs => by rw [gsr_s]; exact hg s hs) (fun s hs => by rw [gsr_n _ _ hft]; exact hh s hs) hl hmx.1 hmx.2 (fun g2 hg2 => ?_)) 
                refine ⟨_, rfl, ?_⟩
                refine s_if_eq (q := 95) (r := 99) hX dX4_affords_92 rfl rfl (fun c92 => ?_) (fun c92 => ?_)
                · refine s_iconst (q := 100) (v := 0) hX dX4_affords_99 rfl rfl ?_
                  refine s_iret hX dX4_affords_100 (Or.inr ⟨rfl, Or.inl rfl⟩) ⟨Nat.le_refl _, Nat.le_refl _, Nat.le_refl _, ?_⟩
                  first
                    | (have hc : ¬ canC (T.kd i) c h = true := by
                        intro z
                        simp only [canC, Bool.or_eq_true, Bool.and_eq_true, decide_eq_true_eq] at z
                        omega
                       exact gqv (hcon g (fun z => absurd z hc)) (by rw [if_neg hc]) rfl)
                    | (have hf2 := gif_f c92
                       have hc : ¬ canC (T.kd i) c h = true := by
                        intro z
                        simp only [canC, Bool.or_eq_true, Bool.and_eq_true, decide_eq_true_eq] at z
                        rcases z with z | z
                        · omega
                        · exact hf2 z.2
                       rw [gsr_gsr]
                       exact gqv (hcon g2 (fun z => absurd z hc)) (by rw [if_neg hc]) rfl)
                · refine s_iconst (q := 96) (v := 1) hX dX4_affords_95 rfl rfl ?_
                  refine s_goto (q := 100) hX dX4_affords_96 rfl ?_
                  refine s_iret hX dX4_affords_100 (Or.inr ⟨rfl, Or.inr rfl⟩) ⟨Nat.le_refl _, Nat.le_refl _, Nat.le_refl _, ?_⟩
                  have h1 : lck c h 3 = 1 := by omega
                  have hc : canC (T.kd i) c h = true := by simp [canC, h1, show T.kd i = 4 by omega, gif_t c92]
                  rw [gsr_gsr]
                  refine gqv (hcon g2 (fun _ s hs => ?_)) ?_ rfl
                  · unfold payC; rw [if_neg (by omega)]; exact hg2 (gif_t c92) s hs
                  · rw [if_pos hc]
          · refine s_iconst (q := 66) (v := 1) hX dX4_affords_65 rfl rfl ?_
            refine s_iret hX dX4_affords_66 (Or.inr ⟨rfl, Or.inr rfl⟩) ⟨Nat.le_refl _, Nat.le_refl _, Nat.le_refl _, ?_⟩
            have h0 : lck c h 3 = 0 := by omega
            refine gqv (hcon g (fun _ s hs => ?_)) ?_ rfl
            · unfold payC; rw [if_pos h0]; exact hg s hs
            · have : canC (T.kd i) c h = true := by simp [canC, h0]
              rw [if_pos this]
        · have hc4 := hcs s (by omega)
          have hl4 := hl s (by omega)
          refine s_aload_n (q := 22) hX dX4_affords_21 rfl rfl ?_
          refine s_getr (q := 25) hX dX4_affords_22 rfl gfl_4_27 (by assumption) rfl ?_
          refine s_iload (q := 27) hX dX4_affords_25 rfl rfl ?_
          refine s_iald (k := s) (q := 28) hX dX4_affords_27 rfl (by assumption) rfl (by omega) (by omega) ?_
          refine s_topi (v := nI (c s)) (by rw [gsr_s]; exact hg s (by omega)) ?_
          refine s_aload_n (q := 29) hX dX4_affords_28 rfl rfl ?_
          refine s_iload (q := 31) hX dX4_affords_29 rfl rfl ?_
          refine s_iload (q := 33) hX dX4_affords_31 rfl rfl ?_
          refine s_iadd (q := 34) (v := nI (a + s)) hX dX4_affords_33 rfl (nI_add (a) (s)) ?_
          refine s_iald (k := a + s) (q := 35) hX dX4_affords_34 rfl (by assumption) rfl (by omega) (by omega) ?_
          refine s_topi (v := nI (h s)) (by rw [gsr_n _ _ hft]; exact hh s (by omega)) ?_
          refine s_isub (q := 36) hX dX4_affords_35 rfl rfl ?_
          refine s_istore (q := 38) (lv' := [(0, _), (1, _), (2, _), (3, _), (4, _), (5, _), (6, _), (7, _), (8, _)]) hX dX4_affords_36 rfl (Nat.le_of_ble_eq_true rfl) rfl ?_
          refine s_iload (q := 40) hX dX4_affords_38 rfl rfl ?_
          refine s_if_le (q := 43) (r := 54) hX dX4_affords_40 rfl rfl (fun c40 => ?_) (fun c40 => ?_)
          · refine s_iinc (q := 57) (v := nI (s + 1)) (lv' := [(0, _), (1, _), (2, _), (3, _), (4, _), (5, _), (6, _), (7, _), (8, _)]) hX dX4_affords_54 rfl rfl (nI_add (s) 1) (Nat.le_of_ble_eq_true rfl) rfl ?_
            refine s_goto (q := 15) hX dX4_affords_57 rfl ?_
            have hle : c s ≤ h s := (gsub0 (by omega) (by omega)).mp c40
            have e : lck c h (s + 1) = lck c h s := by show lck c h s + (c s - h s) = _; omega
            have hi2 := ih (s + 1) sc (by omega) (by omega) hsc (fun r hr hlt hr' => by
              rcases Nat.lt_or_ge r s with z | z
              · exact hlast r z hlt (fun r' h1 h2 => hr' r' (by omega) h2)
              · have : r = s := by omega
                subst this; omega)
            rw [e] at hi2
            exact s_dl hX hi2
          · have hlt : h s < c s := Nat.not_le.mp (fun z => c40 ((gsub0 (by omega) (by omega)).mpr z))
            rw [pk_sub (show h s ≤ c s by omega)]
            refine s_iload (q := 45) hX dX4_affords_43 rfl rfl ?_
            refine s_iload (q := 47) hX dX4_affords_45 rfl rfl ?_
            refine s_iadd (q := 48) (v := nI (lck c h s + (c s - h s))) hX dX4_affords_47 rfl (nI_add (lck c h s) (c s - h s)) ?_
            refine s_istore (q := 50) (lv' := [(0, _), (1, _), (2, _), (3, _), (4, _), (5, _), (6, _), (7, _), (8, _)]) hX dX4_affords_48 rfl (Nat.le_of_ble_eq_true rfl) rfl ?_
            refine s_iload (q := 52) hX dX4_affords_50 rfl rfl ?_
            refine s_istore (q := 54) (lv' := [(0, _), (1, _), (2, _), (3, _), (4, _), (5, _), (6, _), (7, _), (8, _)]) hX dX4_affords_52 rfl (Nat.le_of_ble_eq_true rfl) rfl ?_
            refine s_iinc (q := 57) (v := nI (s + 1)) (lv' := [(0, _), (1, _), (2, _), (3, _), (4, _), (5, _), (6, _), (7, _), (8, _)]) hX dX4_affords_54 rfl rfl (nI_add (s) 1) (Nat.le_of_ble_eq_true rfl) rfl ?_
            refine s_goto (q := 15) hX dX4_affords_57 rfl ?_
            refine s_dl hX ?_
            exact ih (s + 1) s (by omega) (by omega) (by omega) (fun r hr hlt2 hr' => by
              rcases Nat.lt_or_ge r s with z | z
              · have := hr' s (by omega) z
                omega
              · omega)
    refine s_iconst (q := 7) (v := 0) hX dX4_affords_6 rfl rfl ?_
    refine s_istore (q := 9) (lv' := [(0, _), (1, _), (2, _), (3, _), (4, _), (5, _)]) hX dX4_affords_7 rfl (Nat.le_of_ble_eq_true rfl) rfl ?_
    refine s_iconst (q := 10) (v := 0) hX dX4_affords_9 rfl rfl ?_
    refine s_istore (q := 12) (lv' := [(0, _), (1, _), (2, _), (3, _), (4, _), (5, _), (6, _)]) hX dX4_affords_10 rfl (Nat.le_of_ble_eq_true rfl) rfl ?_
    refine s_iconst (q := 13) (v := 0) hX dX4_affords_12 rfl rfl ?_
    refine s_istore (q := 15) (lv' := [(0, _), (1, _), (2, _), (3, _), (4, _), (5, _), (6, _), (7, _)]) hX dX4_affords_13 rfl (Nat.le_of_ble_eq_true rfl) rfl ?_
    exact L 4 0 0 (by omega) (by omega) (by omega) (fun r hr => by omega)
  refine s_aload_n (q := 1) hX dX4_affords_0 rfl rfl ?_
  refine s_iload_n (q := 2) hX dX4_affords_1 rfl rfl ?_
  refine s_iload_n (q := 3) hX dX4_affords_2 rfl rfl ?_
  refine s_invv2_0 (q := 6) hX dX4_affords_3 rfl glk_4_67 (by assumption) (Nat.le_of_ble_eq_true rfl) ⟨Nat.le_refl _, Nat.le_refl _⟩ (by omega) (c_writeBill (d := 1) (by omega) hT0 hW0 hok0 hi hk (fun g hg => ?_)) 
  refine ⟨rfl, ?_⟩
  exact key g (fun s hs => by rw [hce]; exact hg s hs)
