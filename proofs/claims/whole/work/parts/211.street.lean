/-! STREET: perform, days -/
set_option maxHeartbeats 4000000 in
set_option maxRecDepth 100000 in
theorem c_perform {i k : Nat} {d t s : Nat} {T : gT} {U : gU} {sh : List gS} {M : gM} {Q : Option Value → List gS → gM → Prop} (hd : 3 ≤ d) (hT : isTown sh t) (hW : TWN M t T) (hok : T.ok) (hS : isStreet sh s) (hU : STR M s T.P U) (hUk : U.ok T.P) (hap : apart t s) (hi : i < T.P) (hk : k < T.D) (hcon : ∀ M', STR M' s T.P (T.act i k U) → FR M M' t s → Q (some (.int (if T.can i k (U.tr i) = true then nI (T.pay i k (U.tr i) 0 + T.pay i k (U.tr i) 1 + T.pay i k (U.tr i) 2) else -2))) sh M') : gC mX3_perform d 0 0 [.ref s, .ref t, .int (nI i), .int (nI k)] sh M Q := by
  have hT0 := hT
  have hW0 := hW
  have hok0 := hok
  obtain ⟨z0, z1, z2, z3, z4, z5, z6⟩ := hT
  obtain ⟨y0, y1, y2, y3⟩ := hS
  obtain ⟨o1, o2, o3, o4, o5, o6, o7, o8⟩ := hok
  obtain ⟨w1, w2, w3, w4, w5, w6, w7, w8⟩ := hW
  obtain ⟨u1, u2, u3, u4⟩ := hU
  have hap2 := hap
  unfold apart at hap2
  refine gC_of (rt := 1) (ini := false) gm_X3_perform rfl (by decide) (Nat.le_of_ble_eq_true rfl) (fun X hX => ?_)
  refine s_aload_n (q := 1) hX dX3_perform_0 rfl rfl ?_
  refine s_iload_n (q := 2) hX dX3_perform_1 rfl rfl ?_
  refine s_iload_n (q := 3) hX dX3_perform_2 rfl rfl ?_
  refine s_aload_n (q := 4) hX dX3_perform_3 rfl rfl ?_
  refine s_getr (q := 7) hX dX3_perform_4 rfl gfl_3_9 (by assumption) rfl ?_
  refine s_iload_n (q := 8) hX dX3_perform_7 rfl rfl ?_
  refine s_iconst (q := 9) (v := 3) hX dX3_perform_8 rfl rfl ?_
  refine s_imul (q := 10) (v := nI (i * 3)) hX dX3_perform_9 rfl (pk_mul (i) (3)) ?_
  refine s_invv4_1 (q := 13) hX dX3_perform_10 rfl glk_3_40 (by assumption) (Nat.le_of_ble_eq_true rfl) ⟨Nat.le_refl _, Nat.le_refl _⟩ (by omega) (c_affords (d := 2) (h := U.tr i) (Nat.le_refl _) hT0 hW0 hok0 hi hk y1 (by omega) (by omega) (by omega) (fun s hs => by rw [show i * 3 + s = 3 * i + s by omega]; exact u2 _ (by omega)) (fun s hs => Nat.lt_of_le_of_lt (hUk.1 _ (by omega)) (by omega)) (fun g hg => ?_)) 
  refine ⟨_, rfl, ?_⟩
  refine s_if_ne (q := 16) (r := 19) hX dX3_perform_13 rfl rfl (fun c13 => ?_) (fun c13 => ?_)
  · refine s_aload_n (q := 20) hX dX3_perform_19 rfl rfl ?_
    refine s_aload_n (q := 21) hX dX3_perform_20 rfl rfl ?_
    refine s_getr (q := 24) hX dX3_perform_21 rfl gfl_3_9 (by assumption) rfl ?_
    refine s_iload_n (q := 25) hX dX3_perform_24 rfl rfl ?_
    refine s_iconst (q := 26) (v := 3) hX dX3_perform_25 rfl rfl ?_
    refine s_imul (q := 27) (v := nI (i * 3)) hX dX3_perform_26 rfl (pk_mul (i) (3)) ?_
    refine s_invv2_0 (q := 30) hX dX3_perform_27 rfl glk_3_44 (by assumption) (Nat.le_of_ble_eq_true rfl) ⟨Nat.le_refl _, Nat.le_refl _⟩ (by omega) (c_pay (d := 0) hT0 y1 (by omega) (by omega) (by omega) ?_) 
    refine ⟨rfl, ?_⟩
    refine s_aload_n (q := 31) hX dX3_perform_30 rfl rfl ?_
    refine s_getr (q := 34) hX dX3_perform_31 rfl gfl_3_18 (by assumption) rfl ?_
    refine s_iload_n (q := 35) hX dX3_perform_34 rfl rfl ?_
    refine s_dup2 (q := 36) hX dX3_perform_35 rfl rfl rfl ?_
    refine s_iald (k := i) (q := 37) hX dX3_perform_36 rfl (by assumption) rfl (by omega) (by omega) ?_
    refine s_aload_n (q := 38) hX dX3_perform_37 rfl rfl ?_
    refine s_getr (q := 41) hX dX3_perform_38 rfl gfl_3_48 (by assumption) rfl ?_
    refine s_iload_n (q := 42) hX dX3_perform_41 rfl rfl ?_
    refine s_iald (k := k) (q := 43) hX dX3_perform_42 rfl (by assumption) rfl (by omega) (by omega) ?_
    refine s_iadd (q := 44) hX dX3_perform_43 rfl rfl ?_
    refine s_iast (k := i) (q := 45) hX dX3_perform_44 rfl (by assumption) rfl (by omega) (by omega) ?_
    refine s_aload_n (q := 46) hX dX3_perform_45 rfl rfl ?_
    refine s_invv0_1 (q := 49) hX dX3_perform_46 rfl glk_3_51 (by assumption) (Nat.le_of_ble_eq_true rfl) ⟨Nat.le_refl _, Nat.le_refl _⟩ (by omega) (c_billSum (d := 0) hT0 ?_) 
    refine ⟨_, rfl, ?_⟩
    refine s_iret hX dX3_perform_49 (Or.inl rfl) ⟨Nat.le_refl _, Nat.le_refl _, Nat.le_refl _, ?_⟩
    have hc : T.can i k (U.tr i) = true := gif_t c13
    have hg := hg hc
    have hple : ∀ r, r < 3 → T.pay i k (U.tr i) r ≤ U.h (3 * i + r) := payC_le hc
    refine gqv (hcon _ ?_ ?_) ?_ rfl
    · unfold gT.act
      rw [if_pos hc]
      refine ⟨?_, ?_, ?_, ?_⟩
      · rw [gsr_n _ _ (by omega), gsr_n _ _ (by omega), gsr_n _ _ (by omega)]; exact u1
      · intro j hj
        rw [gsr_n _ _ (by omega), gsr_s, gsr_s, gsr_n _ _ (by omega)]
        exact pay3_rep u2 hg hple hi hj
      · intro j hj
        rw [gsr_n _ _ (by omega), gsr_n _ _ (by omega), gsr_n _ _ (by omega)]; exact u3 j hj
      · intro j hj
        rw [gsr_s, gsr_n _ _ (by omega), gsr_n _ _ (by omega)]
        show upd _ _ _ j = upd U.w i _ j
        by_cases e : j = i
        · subst e
          rw [pk_us, pk_us, u4 j hj, gsr_n _ _ (by omega), gsr_n _ _ (by omega), w7 k hk]
        · rw [pk_un e, pk_un e]; exact u4 j hj
    · intro c h1 h2
      rw [gsr_n _ _ (by omega), gsr_n _ _ (by omega), gsr_n _ _ (by omega)]
    · rw [if_pos hc, gsr_n _ _ (by omega), gsr_n _ _ (by omega), gsr_s, hg 0 (by omega), hg 1 (by omega), hg 2 (by omega), nI_add, nI_add]
  · refine s_bipush (q := 18) (v := (-2)) hX dX3_perform_16 rfl rfl (by decide) ?_
    refine s_iret hX dX3_perform_18 (Or.inl rfl) ⟨Nat.le_refl _, Nat.le_refl _, Nat.le_refl _, ?_⟩
    have hn : ¬ T.can i k (U.tr i) = true := gif_f2 c13
    refine gqv (hcon (gsr M (t + 6) g) ?_ ?_) ?_ rfl
    · unfold gT.act
      rw [if_neg hn]
      exact STR.keep ⟨u1, u2, u3, u4⟩ (fun c h1 h2 => gsr_n _ _ (by omega))
    · exact fun c h1 h2 => gsr_n _ _ h1
    · rw [if_neg hn]
set_option maxHeartbeats 4000000 in
set_option maxRecDepth 100000 in
theorem c_doTold {d t s : Nat} {T : gT} {U : gU} {sh : List gS} {M : gM} {Q : Option Value → List gS → gM → Prop} (hd : 4 ≤ d) (hT : isTown sh t) (hW : TWN M t T) (hok : T.ok) (hS : isStreet sh s) (hU : STR M s T.P U) (hUk : U.ok T.P) (hap : apart t s) (hcon : ∀ M', STR M' s T.P (T.told T.P U) → FR M M' t s → Q none sh M') : gC mX3_doTold d 0 0 [.ref s, .ref t] sh M Q := by
  have hT0 := hT
  have hok0 := hok
  have hS0 := hS
  obtain ⟨z0, z1, z2, z3, z4, z5, z6⟩ := hT
  obtain ⟨y0, y1, y2, y3⟩ := hS
  obtain ⟨o1, o2, o3, o4, o5, o6, o7, o8⟩ := hok
  refine gC_of (rt := 0) (ini := false) gm_X3_doTold rfl (by decide) (Nat.le_of_ble_eq_true rfl) (fun X hX => ?_)
  have L : ∀ (m i : Nat) (M' : gM), i ≤ T.P → T.P < i + m → STR M' s T.P (T.told i U) → FR M M' t s → X 2 [(0, .ref s), (1, .ref t), (2, .int (nI i))] [] sh M' 0 0 := by
    intro m
    induction m with
    | zero => intro i M' h1 h2; omega
    | succ m ih =>
      intro i M' hi hm hU' hF
      have hW' := hF.twn hap hW
      obtain ⟨hk', hd'⟩ := T.told_ok hUk i
      by_cases hlt : i < T.P
      · have hpl := hW'.2.2.2.2.2.2.2 (7 * i + U.d % 7) (by omega)
        rcases o8 (7 * i + U.d % 7) (by omega) with e | ⟨k, hk, e⟩
        · refine s_iload_n (q := 3) hX dX3_doTold_2 rfl rfl ?_
          refine s_aload_n (q := 4) hX dX3_doTold_3 rfl rfl ?_
          refine s_geti (q := 7) hX dX3_doTold_4 rfl gfl_3_65 (by assumption) rfl ?_
          refine s_topi (v := nI (T.P)) hW'.1 ?_
          refine s_icmp_ge_f (q := 10) (r := 43) hX dX3_doTold_7 rfl rfl (nI_ge (by omega) (by omega)) ?_
          refine s_aload_n (q := 11) hX dX3_doTold_10 rfl rfl ?_
          refine s_getr (q := 14) hX dX3_doTold_11 rfl gfl_3_68 (by assumption) rfl ?_
          refine s_iload_n (q := 15) hX dX3_doTold_14 rfl rfl ?_
          refine s_bipush (q := 17) (v := 7) hX dX3_doTold_15 rfl rfl (by decide) ?_
          refine s_imul (q := 18) (v := nI (i * 7)) hX dX3_doTold_17 rfl (pk_mul (i) (7)) ?_
          refine s_aload_n (q := 19) hX dX3_doTold_18 rfl rfl ?_
          refine s_invv0_1 (q := 22) hX dX3_doTold_19 rfl glk_3_71 (by assumption) (Nat.le_of_ble_eq_true rfl) ⟨Nat.le_refl _, Nat.le_refl _⟩ (by omega) (c_weekday (d := 0) hS0 hU' hk' ?_) 
          refine ⟨_, rfl, ?_⟩
          refine s_topi (v := nI (U.d % 7)) (by rw [hd']) ?_
          refine s_iadd (q := 23) (v := nI (i * 7 + (U.d % 7))) hX dX3_doTold_22 rfl (nI_add (i * 7) (U.d % 7)) ?_
          refine s_iald (k := 7 * i + U.d % 7) (q := 24) hX dX3_doTold_23 rfl (by assumption) (by rw [show 7 * i + U.d % 7 = i * 7 + U.d % 7 by omega]) (by omega) (by omega) ?_
          refine s_topi (v := (-4)) (by rw [hpl, e]) ?_
          refine s_istore_n (q := 25) (lv' := [(0, _), (1, _), (2, _), (3, _)]) hX dX3_doTold_24 rfl (Nat.le_of_ble_eq_true rfl) rfl ?_
          refine s_iload_n (q := 26) hX dX3_doTold_25 rfl rfl ?_
          refine s_if_lt_t (q := 29) (r := 37) hX dX3_doTold_26 rfl rfl (by decide) ?_
          refine s_iinc (q := 40) (v := nI (i + 1)) (lv' := [(0, _), (1, _), (2, _), (3, _)]) hX dX3_doTold_37 rfl rfl (nI_add (i) 1) (Nat.le_of_ble_eq_true rfl) rfl ?_
          refine s_goto (q := 2) hX dX3_doTold_40 rfl ?_
          refine s_dl hX (ih (i + 1) M' (by omega) (by omega) ?_ hF)
          show STR M' s T.P (T.told1 i (T.told i U))
          unfold gT.told1
          rw [hd', if_pos e]
          exact hU'
        · refine s_iload_n (q := 3) hX dX3_doTold_2 rfl rfl ?_
          refine s_aload_n (q := 4) hX dX3_doTold_3 rfl rfl ?_
          refine s_geti (q := 7) hX dX3_doTold_4 rfl gfl_3_65 (by assumption) rfl ?_
          refine s_topi (v := nI (T.P)) hW'.1 ?_
          refine s_icmp_ge_f (q := 10) (r := 43) hX dX3_doTold_7 rfl rfl (nI_ge (by omega) (by omega)) ?_
          refine s_aload_n (q := 11) hX dX3_doTold_10 rfl rfl ?_
          refine s_getr (q := 14) hX dX3_doTold_11 rfl gfl_3_68 (by assumption) rfl ?_
          refine s_iload_n (q := 15) hX dX3_doTold_14 rfl rfl ?_
          refine s_bipush (q := 17) (v := 7) hX dX3_doTold_15 rfl rfl (by decide) ?_
          refine s_imul (q := 18) (v := nI (i * 7)) hX dX3_doTold_17 rfl (pk_mul (i) (7)) ?_
          refine s_aload_n (q := 19) hX dX3_doTold_18 rfl rfl ?_
          refine s_invv0_1 (q := 22) hX dX3_doTold_19 rfl glk_3_71 (by assumption) (Nat.le_of_ble_eq_true rfl) ⟨Nat.le_refl _, Nat.le_refl _⟩ (by omega) (c_weekday (d := 0) hS0 hU' hk' ?_) 
          refine ⟨_, rfl, ?_⟩
          refine s_topi (v := nI (U.d % 7)) (by rw [hd']) ?_
          refine s_iadd (q := 23) (v := nI (i * 7 + (U.d % 7))) hX dX3_doTold_22 rfl (nI_add (i * 7) (U.d % 7)) ?_
          refine s_iald (k := 7 * i + U.d % 7) (q := 24) hX dX3_doTold_23 rfl (by assumption) (by rw [show 7 * i + U.d % 7 = i * 7 + U.d % 7 by omega]) (by omega) (by omega) ?_
          refine s_topi (v := nI (k)) (by rw [hpl, e]) ?_
          refine s_istore_n (q := 25) (lv' := [(0, _), (1, _), (2, _), (3, _)]) hX dX3_doTold_24 rfl (Nat.le_of_ble_eq_true rfl) rfl ?_
          refine s_iload_n (q := 26) hX dX3_doTold_25 rfl rfl ?_
          refine s_if_lt_f (q := 29) (r := 37) hX dX3_doTold_26 rfl rfl (nI_pos (by omega)) ?_
          refine s_aload_n (q := 30) hX dX3_doTold_29 rfl rfl ?_
          refine s_aload_n (q := 31) hX dX3_doTold_30 rfl rfl ?_
          refine s_iload_n (q := 32) hX dX3_doTold_31 rfl rfl ?_
          refine s_iload_n (q := 33) hX dX3_doTold_32 rfl rfl ?_
          refine s_invv3_1 (q := 36) hX dX3_doTold_33 rfl glk_3_74 (by assumption) (Nat.le_of_ble_eq_true rfl) ⟨Nat.le_refl _, Nat.le_refl _⟩ (by omega) (c_perform (d := 3) (Nat.le_refl _) hT0 hW' hok0 hS0 hU' hk' hap hlt hk (fun M2 hU2 hF2 => ?_)) 
          refine ⟨_, rfl, ?_⟩
          refine s_pop (q := 37) hX dX3_doTold_36 rfl rfl ?_
          refine s_iinc (q := 40) (v := nI (i + 1)) (lv' := [(0, _), (1, _), (2, _), (3, _)]) hX dX3_doTold_37 rfl rfl (nI_add (i) 1) (Nat.le_of_ble_eq_true rfl) rfl ?_
          refine s_goto (q := 2) hX dX3_doTold_40 rfl ?_
          refine s_dl hX (ih (i + 1) M2 (by omega) (by omega) ?_ (hF.tr hF2))
          show STR M2 s T.P (T.told1 i (T.told i U))
          unfold gT.told1
          rw [hd', if_neg (by rw [e]; exact gnI4 (by omega)), e, nI_clamp (by omega)]
          exact hU2
      · refine s_iload_n (q := 3) hX dX3_doTold_2 rfl rfl ?_
        refine s_aload_n (q := 4) hX dX3_doTold_3 rfl rfl ?_
        refine s_geti (q := 7) hX dX3_doTold_4 rfl gfl_3_65 (by assumption) rfl ?_
        refine s_topi (v := nI (T.P)) hW'.1 ?_
        refine s_icmp_ge_t (q := 10) (r := 43) hX dX3_doTold_7 rfl rfl (nI_le (by omega) (by omega)) ?_
        refine s_ret hX dX3_doTold_43 rfl ⟨Nat.le_refl _, Nat.le_refl _, Nat.le_refl _, ?_⟩
        have e : i = T.P := by omega
        subst e
        exact hcon M' hU' hF
  refine s_iconst (q := 1) (v := 0) hX dX3_doTold_0 rfl rfl ?_
  refine s_istore_n (q := 2) (lv' := [(0, _), (1, _), (2, _)]) hX dX3_doTold_1 rfl (Nat.le_of_ble_eq_true rfl) rfl ?_
  exact L (T.P + 1) 0 M (by omega) (by omega) hU FR.rf
set_option maxHeartbeats 4000000 in
set_option maxRecDepth 100000 in
theorem c_draw {d z k i : Nat} {sh : List gS} {M : gM} {Q : Option Value → List gS → gM → Prop} (hz : z ≤ 9999) (hk : k ≤ 60) (hi : i ≤ 6) (hcon : Q (some (.int (nI (drawN z k i)))) sh M) : gC mX3_draw d 0 0 [.int (nI z), .int (nI k), .int (nI i)] sh M Q := by
  refine gC_of (rt := 1) (ini := false) gm_X3_draw rfl (by decide) (Nat.le_of_ble_eq_true rfl) (fun X hX => ?_)
  refine s_ldc2 (q := 3) hX dX3_draw_0 rfl gcl_3_85 ?_
  refine s_iload_n (q := 4) hX dX3_draw_3 rfl rfl ?_
  refine s_i2l (q := 5) hX dX3_draw_4 rfl rfl ?_
  refine s_lmul (q := 6) hX dX3_draw_5 rfl rfl ?_
  refine s_ldc2 (q := 9) hX dX3_draw_6 rfl gcl_3_87 ?_
  refine s_iload_n (q := 10) hX dX3_draw_9 rfl rfl ?_
  refine s_i2l (q := 11) hX dX3_draw_10 rfl rfl ?_
  refine s_lmul (q := 12) hX dX3_draw_11 rfl rfl ?_
  refine s_ladd (q := 13) hX dX3_draw_12 rfl rfl ?_
  refine s_ldc2 (q := 16) hX dX3_draw_13 rfl gcl_3_89 ?_
  refine s_iload_n (q := 17) hX dX3_draw_16 rfl rfl ?_
  refine s_i2l (q := 18) hX dX3_draw_17 rfl rfl ?_
  refine s_lmul (q := 19) hX dX3_draw_18 rfl rfl ?_
  refine s_ladd (q := 20) hX dX3_draw_19 rfl rfl ?_
  refine s_lconst (q := 21) (z := 1) hX dX3_draw_20 rfl rfl ?_
  refine s_ladd (q := 22) hX dX3_draw_21 rfl rfl ?_
  refine s_lstore_n (q := 23) (lv' := [(0, _), (1, _), (2, _), (3, _)]) hX dX3_draw_22 rfl (Nat.le_of_ble_eq_true rfl) rfl ?_
  refine s_lload_n (q := 24) hX dX3_draw_23 rfl rfl ?_
  refine s_lload_n (q := 25) hX dX3_draw_24 rfl rfl ?_
  refine s_lmul (q := 26) hX dX3_draw_25 rfl rfl ?_
  refine s_ldc2 (q := 29) hX dX3_draw_26 rfl gcl_3_91 ?_
  refine s_lrem (q := 30) hX dX3_draw_29 rfl rfl (by decide) ?_
  refine s_ldc2 (q := 33) hX dX3_draw_30 rfl gcl_3_93 ?_
  refine s_ldiv (q := 34) hX dX3_draw_33 rfl rfl (by decide) ?_
  refine s_l2i (q := 35) hX dX3_draw_34 rfl rfl ?_
  refine s_iret hX dX3_draw_35 (Or.inl rfl) ⟨Nat.le_refl _, Nat.le_refl _, Nat.le_refl _, ?_⟩
  refine gqv hcon ?_ rfl
  rw [nI_l (by omega), nI_l (by omega), nI_l (by omega)]
  exact gdraw hz hk hi
set_option maxHeartbeats 4000000 in
set_option maxRecDepth 100000 in
theorem c_doDrawn {z k : Nat} {d t s : Nat} {T : gT} {U : gU} {sh : List gS} {M : gM} {Q : Option Value → List gS → gM → Prop} (hd : 4 ≤ d) (hT : isTown sh t) (hW : TWN M t T) (hok : T.ok) (hS : isStreet sh s) (hU : STR M s T.P U) (hUk : U.ok T.P) (hap : apart t s) (hz : z ≤ 9999) (hk : k ≤ 60) (hcon : ∀ M', STR M' s T.P (T.drw z k T.P U) → FR M M' t s → Q none sh M') : gC mX3_doDrawn d 0 0 [.ref s, .ref t, .int (nI z), .int (nI k)] sh M Q := by
  have hT0 := hT
  have hok0 := hok
  have hS0 := hS
  obtain ⟨z0, z1, z2, z3, z4, z5, z6⟩ := hT
  obtain ⟨y0, y1, y2, y3⟩ := hS
  obtain ⟨o1, o2, o3, o4, o5, o6, o7, o8⟩ := hok
  refine gC_of (rt := 0) (ini := false) gm_X3_doDrawn rfl (by decide) (Nat.le_of_ble_eq_true rfl) (fun X hX => ?_)
  have L : ∀ (m i : Nat) (M' : gM), i ≤ T.P → T.P < i + m → STR M' s T.P (T.drw z k i U) → FR M M' t s → X 3 [(0, .ref s), (1, .ref t), (2, .int (nI z)), (3, .int (nI k)), (4, .int (nI i))] [] sh M' 0 0 := by
    intro m
    induction m with
    | zero => intro i M' h1 h2; omega
    | succ m ih =>
      intro i M' hi hm hU' hF
      have hW' := hF.twn hap hW
      obtain ⟨hk', hd'⟩ := T.drw_ok (z := z) (k := k) hUk i
      have hdl := drawN_lt z k i
      have hml : drawN z k i % (T.D + 1) < T.D + 1 := Nat.mod_lt _ (by omega)
      refine s_iload (q := 5) hX dX3_doDrawn_3 rfl rfl ?_
      refine s_aload_n (q := 6) hX dX3_doDrawn_5 rfl rfl ?_
      refine s_geti (q := 9) hX dX3_doDrawn_6 rfl gfl_3_65 (by assumption) rfl ?_
      refine s_topi (v := nI (T.P)) hW'.1 ?_
      refine s_nicmp_ge (a := i) (b := T.P) (q := 12) (r := 53) hX dX3_doDrawn_9 rfl rfl rfl rfl (by omega) (by omega) (fun c9 => ?_) (fun c9 => ?_)
      · refine s_ret hX dX3_doDrawn_53 rfl ⟨Nat.le_refl _, Nat.le_refl _, Nat.le_refl _, ?_⟩
        have e : i = T.P := by omega
        subst e
        exact hcon M' hU' hF
      · refine s_iload_n (q := 13) hX dX3_doDrawn_12 rfl rfl ?_
        refine s_iload_n (q := 14) hX dX3_doDrawn_13 rfl rfl ?_
        refine s_iload (q := 16) hX dX3_doDrawn_14 rfl rfl ?_
        refine s_invs3_1 (q := 19) hX dX3_doDrawn_16 rfl glk_3_78 (by decide) (Nat.le_of_ble_eq_true rfl) ⟨Nat.le_refl _, Nat.le_refl _⟩ (by omega) (c_draw (d := 0) hz hk (by omega) ?_) 
        refine ⟨_, rfl, ?_⟩
        refine s_aload_n (q := 20) hX dX3_doDrawn_19 rfl rfl ?_
        refine s_geti (q := 23) hX dX3_doDrawn_20 rfl gfl_3_82 (by assumption) rfl ?_
        refine s_topi (v := nI (T.D)) hW'.2.1 ?_
        refine s_iconst (q := 24) (v := 1) hX dX3_doDrawn_23 rfl rfl ?_
        refine s_iadd (q := 25) (v := nI (T.D + 1)) hX dX3_doDrawn_24 rfl (nI_add (T.D) (1)) ?_
        refine s_irem (q := 26) (v := nI (drawN z k i % (T.D + 1))) hX dX3_doDrawn_25 rfl (pk_rem (a := drawN z k i) (d := T.D + 1) (by omega) (by omega) (by omega)) (nI_ne0 (by omega) (by omega)) ?_
        refine s_istore (q := 28) (lv' := [(0, _), (1, _), (2, _), (3, _), (4, _), (5, _)]) hX dX3_doDrawn_26 rfl (Nat.le_of_ble_eq_true rfl) rfl ?_
        refine s_iload (q := 30) hX dX3_doDrawn_28 rfl rfl ?_
        refine s_aload_n (q := 31) hX dX3_doDrawn_30 rfl rfl ?_
        refine s_geti (q := 34) hX dX3_doDrawn_31 rfl gfl_3_82 (by assumption) rfl ?_
        refine s_topi (v := nI (T.D)) hW'.2.1 ?_
        refine s_nicmp_ge (a := drawN z k i % (T.D + 1)) (b := T.D) (q := 37) (r := 47) hX dX3_doDrawn_34 rfl rfl rfl rfl (by omega) (by omega) (fun c34 => ?_) (fun c34 => ?_)
        · refine s_iinc (q := 50) (v := nI (i + 1)) (lv' := [(0, _), (1, _), (2, _), (3, _), (4, _), (5, _)]) hX dX3_doDrawn_47 rfl rfl (nI_add (i) 1) (Nat.le_of_ble_eq_true rfl) rfl ?_
          refine s_goto (q := 3) hX dX3_doDrawn_50 rfl ?_
          refine s_dl hX ?_
          first
            | (refine ih (i + 1) M2 (by omega) (by omega) ?_ (hF.tr hF2)
               show STR M2 s T.P (T.drw1 z k i (T.drw z k i U))
               unfold gT.drw1
               rw [if_pos (by omega)]
               exact hU2)
            | (refine ih (i + 1) M' (by omega) (by omega) ?_ hF
               show STR M' s T.P (T.drw1 z k i (T.drw z k i U))
               unfold gT.drw1
               rw [if_neg (by omega)]
               exact hU')
        · refine s_aload_n (q := 38) hX dX3_doDrawn_37 rfl rfl ?_
          refine s_aload_n (q := 39) hX dX3_doDrawn_38 rfl rfl ?_
          refine s_iload (q := 41) hX dX3_doDrawn_39 rfl rfl ?_
          refine s_iload (q := 43) hX dX3_doDrawn_41 rfl rfl ?_
          refine s_invv3_1 (q := 46) hX dX3_doDrawn_43 rfl glk_3_74 (by assumption) (Nat.le_of_ble_eq_true rfl) ⟨Nat.le_refl _, Nat.le_refl _⟩ (by omega) (c_perform (d := 3) (Nat.le_refl _) hT0 hW' hok0 hS0 hU' hk' hap (by omega) (by omega) (fun M2 hU2 hF2 => ?_)) 
          refine ⟨_, rfl, ?_⟩
          refine s_pop (q := 47) hX dX3_doDrawn_46 rfl rfl ?_
          refine s_iinc (q := 50) (v := nI (i + 1)) (lv' := [(0, _), (1, _), (2, _), (3, _), (4, _), (5, _)]) hX dX3_doDrawn_47 rfl rfl (nI_add (i) 1) (Nat.le_of_ble_eq_true rfl) rfl ?_
          refine s_goto (q := 3) hX dX3_doDrawn_50 rfl ?_
          refine s_dl hX ?_
          first
            | (refine ih (i + 1) M2 (by omega) (by omega) ?_ (hF.tr hF2)
               show STR M2 s T.P (T.drw1 z k i (T.drw z k i U))
               unfold gT.drw1
               rw [if_pos (by omega)]
               exact hU2)
            | (refine ih (i + 1) M' (by omega) (by omega) ?_ hF
               show STR M' s T.P (T.drw1 z k i (T.drw z k i U))
               unfold gT.drw1
               rw [if_neg (by omega)]
               exact hU')
  refine s_iconst (q := 1) (v := 0) hX dX3_doDrawn_0 rfl rfl ?_
  refine s_istore (q := 3) (lv' := [(0, _), (1, _), (2, _), (3, _), (4, _)]) hX dX3_doDrawn_1 rfl (Nat.le_of_ble_eq_true rfl) rfl ?_
  exact L (T.P + 1) 0 M (by omega) (by omega) hU FR.rf
