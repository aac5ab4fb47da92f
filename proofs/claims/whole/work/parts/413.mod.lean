set_option maxHeartbeats 4000000 in
set_option maxRecDepth 100000 in
theorem m_lastOf {d b i : Nat} {S : gA} {sh : List gS} {M : gM} {Q : Option Value → List gS → gM → Prop} (hC : isMod sh) (hS : MOD M S) (hk : S.ok b) (hb : b ≤ 20000) (hi : i < S.T.P) (hcon : Q (some (.int (nI (S.N.la i S.N.n)))) sh M) : gC mX7_lastOf d 0 0 [.ref 83, .int (nI i)] sh M Q := by
  have hC0 := hC
  obtain ⟨y0, y1, y2, y3, y4, y5, y6, y7, y8, y9, y10, y11, y12, y13, y14, y15⟩ := hC
  have hS0 := hS
  have hk0 := hk
  obtain ⟨⟨a1, a1x⟩, a2, a3, ⟨a4, a4x⟩, ⟨a5, a5x⟩, a6⟩ := hS
  obtain ⟨g1, g2, g3, g4, g5, g6, g7⟩ := hk
  have g0 := g1
  obtain ⟨o1, o2, o3, o4, o5, o6, o7, o8⟩ := g0
  have k1 := g6.1
  refine gC_of (rt := 1) (ini := false) gm_X7_lastOf rfl (by decide) (Nat.le_of_ble_eq_true rfl) (fun X hX => ?_)
  have L : ∀ (m j : Nat), j + m = S.N.n → X 4 [(0, .ref 83), (1, .int (nI i)), (2, .int (nI (S.N.la i j))), (3, .int (nI j))] [] sh M 0 0 := by
    intro m
    induction m with
    | zero =>
      intro j hj
      have e : j = S.N.n := by omega
      rw [e]
      refine s_iload_n (q := 5) hX dX7_lastOf_4 rfl rfl ?_
      refine s_aload_n (q := 6) hX dX7_lastOf_5 rfl rfl ?_
      refine s_geti (q := 9) hX dX7_lastOf_6 rfl gfl_7_98 (by assumption) rfl ?_
      refine s_topi (v := nI (S.N.n)) a6.1 ?_
      refine s_icmp_ge_t (q := 12) (r := 49) hX dX7_lastOf_9 rfl rfl (Int32.le_refl _) ?_
      refine s_iload_n (q := 50) hX dX7_lastOf_49 rfl rfl ?_
      refine s_iret hX dX7_lastOf_50 (Or.inl rfl) ⟨Nat.le_refl _, Nat.le_refl _, Nat.le_refl _, ?_⟩
      exact hcon
    | succ m ih =>
      intro j hj
      have hla := gN.la_le g6 i j (by omega)
      have hk9 := g6.2 j (by omega)
      have hr := a6.2 j (by omega)
      have hst : S.N.la i (j + 1) = if S.N.wh j = i then (if S.N.la i j < S.N.wn j then S.N.wn j else S.N.la i j) else S.N.la i j := rfl
      have hx := ih (j + 1) (by omega)
      rw [hst] at hx
      refine s_iload_n (q := 5) hX dX7_lastOf_4 rfl rfl ?_
      refine s_aload_n (q := 6) hX dX7_lastOf_5 rfl rfl ?_
      refine s_geti (q := 9) hX dX7_lastOf_6 rfl gfl_7_98 (by assumption) rfl ?_
      refine s_topi (v := nI (S.N.n)) a6.1 ?_
      refine s_icmp_ge_f (q := 12) (r := 49) hX dX7_lastOf_9 rfl rfl (Int32.not_le.mpr (nI_lt (by omega) (by omega))) ?_
      refine s_aload_n (q := 13) hX dX7_lastOf_12 rfl rfl ?_
      refine s_getr (q := 16) hX dX7_lastOf_13 rfl gfl_7_47 (by assumption) rfl ?_
      refine s_iload_n (q := 17) hX dX7_lastOf_16 rfl rfl ?_
      refine s_iald (k := j) (q := 18) hX dX7_lastOf_17 rfl (by assumption) rfl (by omega) (by omega) ?_
      refine s_topi (v := nI (S.N.wh j)) hr.1 ?_
      refine s_iload_n (q := 19) hX dX7_lastOf_18 rfl rfl ?_
      refine s_nicmp_ne (a := S.N.wh j) (b := i) (q := 22) (r := 41) hX dX7_lastOf_19 rfl rfl rfl rfl (by omega) (by omega) (fun c19 => ?_) (fun c19 => ?_)
      · refine s_iload_n (q := 42) hX dX7_lastOf_41 rfl rfl ?_
        refine s_istore_n (q := 43) (lv' := [(0, _), (1, _), (2, _), (3, _)]) hX dX7_lastOf_42 rfl (Nat.le_of_ble_eq_true rfl) rfl ?_
        refine s_iinc (q := 46) (v := nI (j + 1)) (lv' := [(0, _), (1, _), (2, _), (3, _)]) hX dX7_lastOf_43 rfl rfl (nI_add (j) 1) (Nat.le_of_ble_eq_true rfl) rfl ?_
        refine s_goto (q := 4) hX dX7_lastOf_46 rfl ?_
        first
          | (rw [if_neg (by omega)] at hx; exact hx)
          | (rw [if_pos (by omega), if_neg (by omega)] at hx; exact hx)
      · refine s_aload_n (q := 23) hX dX7_lastOf_22 rfl rfl ?_
        refine s_getr (q := 26) hX dX7_lastOf_23 rfl gfl_7_50 (by assumption) rfl ?_
        refine s_iload_n (q := 27) hX dX7_lastOf_26 rfl rfl ?_
        refine s_iald (k := j) (q := 28) hX dX7_lastOf_27 rfl (by assumption) rfl (by omega) (by omega) ?_
        refine s_topi (v := nI (S.N.wn j)) hr.2.1 ?_
        refine s_iload_n (q := 29) hX dX7_lastOf_28 rfl rfl ?_
        refine s_nicmp_le (a := S.N.wn j) (b := S.N.la i j) (q := 32) (r := 41) hX dX7_lastOf_29 rfl rfl rfl rfl (by omega) (by omega) (fun c29 => ?_) (fun c29 => ?_)
        · refine s_iload_n (q := 42) hX dX7_lastOf_41 rfl rfl ?_
          refine s_istore_n (q := 43) (lv' := [(0, _), (1, _), (2, _), (3, _)]) hX dX7_lastOf_42 rfl (Nat.le_of_ble_eq_true rfl) rfl ?_
          refine s_iinc (q := 46) (v := nI (j + 1)) (lv' := [(0, _), (1, _), (2, _), (3, _)]) hX dX7_lastOf_43 rfl rfl (nI_add (j) 1) (Nat.le_of_ble_eq_true rfl) rfl ?_
          refine s_goto (q := 4) hX dX7_lastOf_46 rfl ?_
          first
            | (rw [if_neg (by omega)] at hx; exact hx)
            | (rw [if_pos (by omega), if_neg (by omega)] at hx; exact hx)
        · refine s_aload_n (q := 33) hX dX7_lastOf_32 rfl rfl ?_
          refine s_getr (q := 36) hX dX7_lastOf_33 rfl gfl_7_50 (by assumption) rfl ?_
          refine s_iload_n (q := 37) hX dX7_lastOf_36 rfl rfl ?_
          refine s_iald (k := j) (q := 38) hX dX7_lastOf_37 rfl (by assumption) rfl (by omega) (by omega) ?_
          refine s_topi (v := nI (S.N.wn j)) hr.2.1 ?_
          refine s_goto (q := 42) hX dX7_lastOf_38 rfl ?_
          refine s_istore_n (q := 43) (lv' := [(0, _), (1, _), (2, _), (3, _)]) hX dX7_lastOf_42 rfl (Nat.le_of_ble_eq_true rfl) rfl ?_
          refine s_iinc (q := 46) (v := nI (j + 1)) (lv' := [(0, _), (1, _), (2, _), (3, _)]) hX dX7_lastOf_43 rfl rfl (nI_add (j) 1) (Nat.le_of_ble_eq_true rfl) rfl ?_
          refine s_goto (q := 4) hX dX7_lastOf_46 rfl ?_
          rw [if_pos (by omega), if_pos (by omega)] at hx
          exact hx
  refine s_iconst (q := 1) (v := 0) hX dX7_lastOf_0 rfl rfl ?_
  refine s_istore_n (q := 2) (lv' := [(0, _), (1, _), (2, _)]) hX dX7_lastOf_1 rfl (Nat.le_of_ble_eq_true rfl) rfl ?_
  refine s_iconst (q := 3) (v := 0) hX dX7_lastOf_2 rfl rfl ?_
  refine s_istore_n (q := 4) (lv' := [(0, _), (1, _), (2, _), (3, _)]) hX dX7_lastOf_3 rfl (Nat.le_of_ble_eq_true rfl) rfl ?_
  exact L S.N.n 0 (by omega)
set_option maxHeartbeats 4000000 in
set_option maxRecDepth 100000 in
theorem m_power {d b n : Nat} {S : gA} {sh : List gS} {M : gM} {Q : Option Value → List gS → gM → Prop} (hC : isMod sh) (hS : MOD M S) (hk : S.ok b) (hb : b ≤ 20000) (hn : n ≤ 4) (hcon : Q (some (.int (nI ((S.T.D + 1) ^ n)))) sh M) : gC mX7_power d 0 0 [.ref 83, .int (nI n)] sh M Q := by
  have hC0 := hC
  obtain ⟨y0, y1, y2, y3, y4, y5, y6, y7, y8, y9, y10, y11, y12, y13, y14, y15⟩ := hC
  have hS0 := hS
  have hk0 := hk
  obtain ⟨⟨a1, a1x⟩, a2, a3, ⟨a4, a4x⟩, ⟨a5, a5x⟩, a6⟩ := hS
  obtain ⟨g1, g2, g3, g4, g5, g6, g7⟩ := hk
  have g0 := g1
  obtain ⟨o1, o2, o3, o4, o5, o6, o7, o8⟩ := g0
  refine gC_of (rt := 1) (ini := false) gm_X7_power rfl (by decide) (Nat.le_of_ble_eq_true rfl) (fun X hX => ?_)
  have L : ∀ (m j : Nat), j + m = n → X 4 [(0, .ref 83), (1, .int (nI n)), (2, .int (nI ((S.T.D + 1) ^ j))), (3, .int (nI j))] [] sh M 0 0 := by
    intro m
    induction m with
    | zero =>
      intro j hj
      have e : j = n := by omega
      rw [e]
      refine s_iload_n (q := 5) hX dX7_power_4 rfl rfl ?_
      refine s_iload_n (q := 6) hX dX7_power_5 rfl rfl ?_
      refine s_icmp_ge_t (q := 9) (r := 26) hX dX7_power_6 rfl rfl (Int32.le_refl _) ?_
      refine s_iload_n (q := 27) hX dX7_power_26 rfl rfl ?_
      refine s_iret hX dX7_power_27 (Or.inl rfl) ⟨Nat.le_refl _, Nat.le_refl _, Nat.le_refl _, ?_⟩
      exact hcon
    | succ m ih =>
      intro j hj
      have hx := ih (j + 1) (by omega)
      rw [Nat.pow_succ] at hx
      refine s_iload_n (q := 5) hX dX7_power_4 rfl rfl ?_
      refine s_iload_n (q := 6) hX dX7_power_5 rfl rfl ?_
      refine s_icmp_ge_f (q := 9) (r := 26) hX dX7_power_6 rfl rfl (Int32.not_le.mpr (nI_lt (by omega) (by omega))) ?_
      refine s_iload_n (q := 10) hX dX7_power_9 rfl rfl ?_
      refine s_aload_n (q := 11) hX dX7_power_10 rfl rfl ?_
      refine s_getr (q := 14) hX dX7_power_11 rfl gfl_7_23 (by assumption) rfl ?_
      refine s_iconst (q := 15) (v := 0) hX dX7_power_14 rfl rfl ?_
      refine s_iald (k := 0) (q := 16) hX dX7_power_15 rfl (by assumption) rfl (by omega) (by omega) ?_
      refine s_topi (v := nI (S.T.D)) a2.2.1 ?_
      refine s_iconst (q := 17) (v := 1) hX dX7_power_16 rfl rfl ?_
      refine s_iadd (q := 18) (v := nI (S.T.D + 1)) hX dX7_power_17 rfl (nI_add (S.T.D) (1)) ?_
      refine s_imul (q := 19) (v := nI (((S.T.D + 1) ^ j) * (S.T.D + 1))) hX dX7_power_18 rfl (pk_mul ((S.T.D + 1) ^ j) (S.T.D + 1)) ?_
      refine s_istore_n (q := 20) (lv' := [(0, _), (1, _), (2, _), (3, _)]) hX dX7_power_19 rfl (Nat.le_of_ble_eq_true rfl) rfl ?_
      refine s_iinc (q := 23) (v := nI (j + 1)) (lv' := [(0, _), (1, _), (2, _), (3, _)]) hX dX7_power_20 rfl rfl (nI_add (j) 1) (Nat.le_of_ble_eq_true rfl) rfl ?_
      refine s_goto (q := 4) hX dX7_power_23 rfl ?_
      exact hx
  refine s_iconst (q := 1) (v := 1) hX dX7_power_0 rfl rfl ?_
  refine s_istore_n (q := 2) (lv' := [(0, _), (1, _), (2, _)]) hX dX7_power_1 rfl (Nat.le_of_ble_eq_true rfl) rfl ?_
  refine s_iconst (q := 3) (v := 0) hX dX7_power_2 rfl rfl ?_
  refine s_istore_n (q := 4) (lv' := [(0, _), (1, _), (2, _), (3, _)]) hX dX7_power_3 rfl (Nat.le_of_ble_eq_true rfl) rfl ?_
  exact L n 0 (by omega)
set_option maxHeartbeats 4000000 in
set_option maxRecDepth 100000 in
theorem m_isSpent {d b i L c : Nat} {S : gA} {sh : List gS} {M : gM} {Q : Option Value → List gS → gM → Prop} (hd : 3 ≤ d) (hC : isMod sh) (hS : MOD M S) (hk : S.ok b) (hb : b ≤ 20000) (hi : i < S.T.P) (hL : L ≤ 4) (hc : c < (S.T.D + 1) ^ L) (hcon : ∀ M', MOD M' S → (∀ c, c < 83 → M' c = M c) → Q (some (.int (if S.T.pvc S.N i L (S.U.d % 7) 0 (S.U.tr i) c = true then 1 else 0))) sh M') : gC mX7_isSpent d 0 0 [.ref 83, .int (nI i), .int (nI L), .int (nI c)] sh M Q := by
  have hC0 := hC
  obtain ⟨y0, y1, y2, y3, y4, y5, y6, y7, y8, y9, y10, y11, y12, y13, y14, y15⟩ := hC
  have hS0 := hS
  have hk0 := hk
  obtain ⟨⟨a1, a1x⟩, a2, a3, ⟨a4, a4x⟩, ⟨a5, a5x⟩, a6⟩ := hS
  obtain ⟨g1, g2, g3, g4, g5, g6, g7⟩ := hk
  have g0 := g1
  obtain ⟨o1, o2, o3, o4, o5, o6, o7, o8⟩ := g0
  have k1 := g6.1
  have hBB : ∀ r, r ≤ 4 → 0 < (S.T.D + 1) ^ r ∧ (S.T.D + 1) ^ r ≤ 2401 := fun r hr => ⟨Nat.pow_pos (by omega), Nat.le_trans (Nat.pow_le_pow_left (show S.T.D + 1 ≤ 7 by omega) r) (Nat.pow_le_pow_right (show 0 < 7 by omega) hr)⟩
  have hB4 := hBB L hL
  obtain ⟨R, hR⟩ : ∃ R, R = S.T.pvc S.N i L (S.U.d % 7) 0 (S.U.tr i) c := ⟨_, rfl⟩
  rw [← hR] at hcon
  refine gC_of (rt := 2) (ini := false) gm_X7_isSpent rfl (by decide) (Nat.le_of_ble_eq_true rfl) (fun X hX => ?_)
  have F : R = false → ∀ (V : gU) (M1 : gM) (y : Int32) (dv : Nat), V.ok S.T.P → TRM M M1 S V → dv ≤ 10 → ∀ (p t : Nat), t + p = S.N.n → X 84 [(0, .ref 83), (1, .int (nI i)), (2, .int (nI L)), (3, .int (nI c)), (4, .int 0), (5, .int (nI dv)), (6, .int y), (7, .int (nI t))] [] sh M1 0 0 := by
    intro hR0 V M1 y dv hV hm hdv p
    induction p with
    | zero =>
      intro t ht
      have e : t = S.N.n := by omega
      rw [e]
      refine s_iload (q := 86) hX dX7_isSpent_84 rfl rfl ?_
      refine s_aload_n (q := 87) hX dX7_isSpent_86 rfl rfl ?_
      refine s_geti (q := 90) hX dX7_isSpent_87 rfl gfl_7_98 (by assumption) rfl ?_
      refine s_topi (v := nI (S.N.n)) hm.1.2.2.2.2.2.1 ?_
      refine s_icmp_ge_t (q := 93) (r := 152) hX dX7_isSpent_90 rfl rfl (Int32.le_refl _) ?_
      refine s_aload_n (q := 153) hX dX7_isSpent_152 rfl rfl ?_
      refine s_sipush (q := 156) (v := 341) hX dX7_isSpent_153 rfl rfl (by decide) ?_
      refine s_invv1_0 (q := 159) hX dX7_isSpent_156 rfl glk_7_144 (by assumption) (Nat.le_of_ble_eq_true rfl) ⟨Nat.le_refl _, Nat.le_refl _⟩ (by omega) (m_over (d := 0) (a := 341) (T := S.T) (U := V) hC0 hm.1.2.1 g1 hm.2.1 hV (by omega) (fun M3 f3 u3 => ?_)) 
      refine ⟨rfl, ?_⟩
      refine s_iinc (q := 162) (v := nI (dv + 1)) (lv' := [(0, _), (1, _), (2, _), (3, _), (4, _), (5, _), (6, _), (7, _)]) hX dX7_isSpent_159 rfl rfl (nI_add (dv) 1) (Nat.le_of_ble_eq_true rfl) rfl ?_
      refine s_goto (q := 14) hX dX7_isSpent_162 rfl ?_
      refine s_iload (q := 16) hX dX7_isSpent_14 rfl rfl ?_
      refine s_iload_n (q := 17) hX dX7_isSpent_16 rfl rfl ?_
      refine s_nicmp_gt (a := dv + 1) (b := L) (q := 20) (r := 165) hX dX7_isSpent_17 rfl rfl rfl rfl (by omega) (by omega) (fun c17 => ?_) (fun c17 => ?_)
      · refine s_iload (q := 167) hX dX7_isSpent_165 rfl rfl ?_
        refine s_iret hX dX7_isSpent_167 (Or.inr ⟨rfl, Or.inl rfl⟩) ⟨Nat.le_refl _, Nat.le_refl _, Nat.le_refl _, ?_⟩
        have hq := hcon M3 (hm.st o1 g4.1 g5.1 f3 u3).1 (hm.st o1 g4.1 g5.1 f3 u3).2.2
        rw [hR0, if_neg (by decide)] at hq
        exact hq
      · refine s_iload (q := 22) hX dX7_isSpent_20 rfl rfl ?_
        refine s_if_eq_t (q := 25) (r := 165) hX dX7_isSpent_22 rfl rfl (by decide) ?_
        refine s_iload (q := 167) hX dX7_isSpent_165 rfl rfl ?_
        refine s_iret hX dX7_isSpent_167 (Or.inr ⟨rfl, Or.inl rfl⟩) ⟨Nat.le_refl _, Nat.le_refl _, Nat.le_refl _, ?_⟩
        have hq := hcon M3 (hm.st o1 g4.1 g5.1 f3 u3).1 (hm.st o1 g4.1 g5.1 f3 u3).2.2
        rw [hR0, if_neg (by decide)] at hq
        exact hq
    | succ p ihp =>
      intro t ht
      refine s_iload (q := 86) hX dX7_isSpent_84 rfl rfl ?_
      refine s_aload_n (q := 87) hX dX7_isSpent_86 rfl rfl ?_
      refine s_geti (q := 90) hX dX7_isSpent_87 rfl gfl_7_98 (by assumption) rfl ?_
      refine s_topi (v := nI (S.N.n)) hm.1.2.2.2.2.2.1 ?_
      refine s_icmp_ge_f (q := 93) (r := 152) hX dX7_isSpent_90 rfl rfl (Int32.not_le.mpr (nI_lt (by omega) (by omega))) ?_
      refine s_iload (q := 95) hX dX7_isSpent_93 rfl rfl ?_
      refine s_if_eq_t (q := 98) (r := 143) hX dX7_isSpent_95 rfl rfl (by decide) ?_
      refine s_iconst (q := 144) (v := 0) hX dX7_isSpent_143 rfl rfl ?_
      refine s_istore (q := 146) (lv' := [(0, _), (1, _), (2, _), (3, _), (4, _), (5, _), (6, _), (7, _)]) hX dX7_isSpent_144 rfl (Nat.le_of_ble_eq_true rfl) rfl ?_
      refine s_iinc (q := 149) (v := nI (t + 1)) (lv' := [(0, _), (1, _), (2, _), (3, _), (4, _), (5, _), (6, _), (7, _)]) hX dX7_isSpent_146 rfl rfl (nI_add (t) 1) (Nat.le_of_ble_eq_true rfl) rfl ?_
      refine s_goto (q := 84) hX dX7_isSpent_149 rfl ?_
      exact ihp (t + 1) (by omega)
  have F0 : R = false → ∀ (V : gU) (M1 : gM) (y : Int32) (dv : Nat), V.ok S.T.P → TRM M M1 S V → dv ≤ 10 → X 73 [(0, .ref 83), (1, .int (nI i)), (2, .int (nI L)), (3, .int (nI c)), (4, .int 0), (5, .int (nI dv)), (6, .int y)] [] sh M1 0 0 := by
    intro hR0 V M1 y dv hV hm hdv
    refine s_aload_n (q := 74) hX dX7_isSpent_73 rfl rfl ?_
    refine s_sipush (q := 77) (v := 341) hX dX7_isSpent_74 rfl rfl (by decide) ?_
    refine s_iload_n (q := 78) hX dX7_isSpent_77 rfl rfl ?_
    refine s_invv2_0 (q := 81) hX dX7_isSpent_78 rfl glk_7_128 (by assumption) (Nat.le_of_ble_eq_true rfl) ⟨Nat.le_refl _, Nat.le_refl _⟩ (by omega) (m_sea (d := 0) (a := 341) (T := S.T) (U := V) hC0 hm.1.2.1 g1 hm.2.1 hV (by omega) hi (fun M2 f2 u2 => ?_)) 
    refine ⟨rfl, ?_⟩
    refine s_iconst (q := 82) (v := 0) hX dX7_isSpent_81 rfl rfl ?_
    refine s_istore (q := 84) (lv' := [(0, _), (1, _), (2, _), (3, _), (4, _), (5, _), (6, _), (7, _)]) hX dX7_isSpent_82 rfl (Nat.le_of_ble_eq_true rfl) rfl ?_
    exact F hR0 _ M2 _ _ (S.T.sea1_ok hV) (hm.st o1 g4.1 g5.1 f2 u2) hdv S.N.n 0 (by omega)
  have G : ∀ (r dy : Nat) (V : gU) (h : Nat → Nat) (M1 : gM), dy + r = L → V.ok S.T.P → V.d + r ≤ 90000 → (∀ s, s < 3 → h s = V.tr i s) → S.T.pvc S.N i r (V.d % 7) dy h (c % (S.T.D + 1) ^ r) = R → TRM M M1 S V → ∀ lv, (lv = [] ∨ ∃ x y, lv = [(6, .int x), (7, .int y)]) → X 14 ([(0, .ref 83), (1, .int (nI i)), (2, .int (nI L)), (3, .int (nI c)), (4, .int 1), (5, .int (nI (dy + 1)))] ++ lv) [] sh M1 0 0 := by
    intro r
    induction r with
    | zero =>
      intro dy V h M1 hdy hV hVd hh hr hm lv hlv
      have e : dy = L := by omega
      refine s_lv hX (fun q hq => List.mem_append_left lv hq) ?_
      rw [e]
      refine s_iload (q := 16) hX dX7_isSpent_14 rfl rfl ?_
      refine s_iload_n (q := 17) hX dX7_isSpent_16 rfl rfl ?_
      refine s_icmp_gt_t (q := 20) (r := 165) hX dX7_isSpent_17 rfl rfl (nI_lt (by omega) (by omega)) ?_
      refine s_iload (q := 167) hX dX7_isSpent_165 rfl rfl ?_
      refine s_iret hX dX7_isSpent_167 (Or.inr ⟨rfl, Or.inr rfl⟩) ⟨Nat.le_refl _, Nat.le_refl _, Nat.le_refl _, ?_⟩
      have hq := hcon M1 hm.1 hm.2.2
      rw [← hr] at hq
      exact hq
    | succ r ih =>
      intro dy V h M1 hdy hV hVd hh hr hm lv hlv
      have hBr := hBB r (by omega)
      have hq1 : c % (S.T.D + 1) ^ (r + 1) / (S.T.D + 1) ^ r = c / (S.T.D + 1) ^ r % (S.T.D + 1) := by rw [Nat.pow_succ, Nat.mod_mul_right_div_self]
      have hq2 : c % (S.T.D + 1) ^ (r + 1) % (S.T.D + 1) ^ r = c % (S.T.D + 1) ^ r := Nat.mod_mod_of_dvd _ (Nat.pow_dvd_pow _ (by omega))
      have hr : (match S.T.sd S.N i (V.d % 7) (dy + 1) h (c % (S.T.D + 1) ^ (r + 1) / (S.T.D + 1) ^ r) with
        | none => false
        | some h' => S.T.pvc S.N i r ((V.d % 7 + 1) % 7) (dy + 1) h' (c % (S.T.D + 1) ^ (r + 1) % (S.T.D + 1) ^ r)) = R := hr
      rw [hq1, hq2] at hr
      obtain ⟨q, hq⟩ : ∃ q, q = c / (S.T.D + 1) ^ r % (S.T.D + 1) := ⟨_, rfl⟩
      have hqD : q < S.T.D + 1 := by rw [hq]; exact Nat.mod_lt _ (by omega)
      have hcd : c / (S.T.D + 1) ^ r ≤ c := Nat.div_le_self _ _
      rw [← hq] at hr
      have G1 : ∀ (V1 : gU) (h1 : Nat → Nat) (M1 : gM) (y : Int32), S.T.s1 i h q = some h1 → V1.ok S.T.P → V1.d = V.d → (∀ s, s < 3 → h1 s = V1.tr i s) → TRM M M1 S V1 → X 73 [(0, .ref 83), (1, .int (nI i)), (2, .int (nI L)), (3, .int (nI c)), (4, .int 1), (5, .int (nI (dy + 1))), (6, .int y)] [] sh M1 0 0 := by
        intro V1 h1 M1 y hs1 hV1 hVd1 hh1 hm1
        have hr : (match S.T.sd S.N i (V.d % 7) (dy + 1) h q with
          | none => false
          | some h' => S.T.pvc S.N i r ((V.d % 7 + 1) % 7) (dy + 1) h' (c % (S.T.D + 1) ^ r)) = R := hr
        unfold gT.sd at hr
        rw [hs1] at hr
        dsimp only at hr
        have hh2 := S.T.sea1_tr hh1
        have hV2 := S.T.sea1_ok (i := i) hV1
        obtain ⟨V2, hV2e⟩ : ∃ V2, V2 = S.T.sea1 i V1 := ⟨_, rfl⟩
        have hd2 : V2.d = V.d := by rw [hV2e]; exact hVd1
        rw [← hV2e] at hh2 hV2
        have hu := hueN_cg hh2
        rw [hu] at hr
        have hu8 := hueN_lt (V2.tr i)
        have I : ∀ (M2 : gM), TRM M M2 S V2 → ∀ (p t : Nat), t + p = S.N.n → S.N.ag i (dy + 1) (hueN (V2.tr i)) t = true → X 84 [(0, .ref 83), (1, .int (nI i)), (2, .int (nI L)), (3, .int (nI c)), (4, .int 1), (5, .int (nI (dy + 1))), (6, .int y), (7, .int (nI t))] [] sh M2 0 0 := by
          intro M2 hm p
          induction p with
          | zero =>
            intro t ht hag
            have e : t = S.N.n := by omega
            rw [e] at hag ⊢
            rw [if_pos hag] at hr
            dsimp only at hr
            have hov := S.T.over_tr hh2
            rw [hd2] at hov
            refine s_iload (q := 86) hX dX7_isSpent_84 rfl rfl ?_
            refine s_aload_n (q := 87) hX dX7_isSpent_86 rfl rfl ?_
            refine s_geti (q := 90) hX dX7_isSpent_87 rfl gfl_7_98 (by assumption) rfl ?_
            refine s_topi (v := nI (S.N.n)) hm.1.2.2.2.2.2.1 ?_
            refine s_icmp_ge_t (q := 93) (r := 152) hX dX7_isSpent_90 rfl rfl (Int32.le_refl _) ?_
            refine s_aload_n (q := 153) hX dX7_isSpent_152 rfl rfl ?_
            refine s_sipush (q := 156) (v := 341) hX dX7_isSpent_153 rfl rfl (by decide) ?_
            refine s_invv1_0 (q := 159) hX dX7_isSpent_156 rfl glk_7_144 (by assumption) (Nat.le_of_ble_eq_true rfl) ⟨Nat.le_refl _, Nat.le_refl _⟩ (by omega) (m_over (d := 0) (a := 341) (T := S.T) (U := V2) hC0 hm.1.2.1 g1 hm.2.1 hV2 (by omega) (fun M3 f3 u3 => ?_)) 
            refine ⟨rfl, ?_⟩
            refine s_iinc (q := 162) (v := nI (dy + 1 + 1)) (lv' := [(0, _), (1, _), (2, _), (3, _), (4, _), (5, _), (6, _), (7, _)]) hX dX7_isSpent_159 rfl rfl (nI_add (dy + 1) 1) (Nat.le_of_ble_eq_true rfl) rfl ?_
            refine s_goto (q := 14) hX dX7_isSpent_162 rfl ?_
            have hd3 : (S.T.over V2).d = V.d + 1 := by
              show V2.d + 1 = _
              rw [hd2]
            have hwd : (V.d % 7 + 1) % 7 = (S.T.over V2).d % 7 := by rw [hd3]; omega
            rw [hwd] at hr
            exact ih (dy + 1) (S.T.over V2) _ M3 (by omega) ⟨S.T.over_h hV2, by rw [hd3]; omega⟩ (by rw [hd3]; omega) hov hr (hm.st o1 g4.1 g5.1 f3 u3) [(6, .int y), (7, .int (nI S.N.n))] (Or.inr ⟨_, _, rfl⟩)
          | succ p ihp =>
            intro t ht hag
            have hk9 := g6.2 t (by omega)
            have hrr := hm.1.2.2.2.2.2.2 t (by omega)
            refine s_iload (q := 86) hX dX7_isSpent_84 rfl rfl ?_
            refine s_aload_n (q := 87) hX dX7_isSpent_86 rfl rfl ?_
            refine s_geti (q := 90) hX dX7_isSpent_87 rfl gfl_7_98 (by assumption) rfl ?_
            refine s_topi (v := nI (S.N.n)) hm.1.2.2.2.2.2.1 ?_
            refine s_icmp_ge_f (q := 93) (r := 152) hX dX7_isSpent_90 rfl rfl (Int32.not_le.mpr (nI_lt (by omega) (by omega))) ?_
            refine s_iload (q := 95) hX dX7_isSpent_93 rfl rfl ?_
            refine s_if_eq_f (q := 98) (r := 143) hX dX7_isSpent_95 rfl rfl (by decide) ?_
            refine s_aload_n (q := 99) hX dX7_isSpent_98 rfl rfl ?_
            refine s_getr (q := 102) hX dX7_isSpent_99 rfl gfl_7_47 (by assumption) rfl ?_
            refine s_iload (q := 104) hX dX7_isSpent_102 rfl rfl ?_
            refine s_iald (k := t) (q := 105) hX dX7_isSpent_104 rfl (by assumption) rfl (by omega) (by omega) ?_
            refine s_topi (v := nI (S.N.wh t)) hrr.1 ?_
            refine s_iload_n (q := 106) hX dX7_isSpent_105 rfl rfl ?_
            refine s_nicmp_ne (a := S.N.wh t) (b := i) (q := 109) (r := 139) hX dX7_isSpent_106 rfl rfl rfl rfl (by omega) (by omega) (fun c106 => ?_) (fun c106 => ?_)
            · refine s_iconst (q := 140) (v := 1) hX dX7_isSpent_139 rfl rfl ?_
              refine s_goto (q := 144) hX dX7_isSpent_140 rfl ?_
              refine s_istore (q := 146) (lv' := [(0, _), (1, _), (2, _), (3, _), (4, _), (5, _), (6, _), (7, _)]) hX dX7_isSpent_144 rfl (Nat.le_of_ble_eq_true rfl) rfl ?_
              refine s_iinc (q := 149) (v := nI (t + 1)) (lv' := [(0, _), (1, _), (2, _), (3, _), (4, _), (5, _), (6, _), (7, _)]) hX dX7_isSpent_146 rfl rfl (nI_add (t) 1) (Nat.le_of_ble_eq_true rfl) rfl ?_
              refine s_goto (q := 84) hX dX7_isSpent_149 rfl ?_
              exact ihp (t + 1) (by omega) (gN.ag_y hag (by omega))
            · refine s_aload_n (q := 110) hX dX7_isSpent_109 rfl rfl ?_
              refine s_getr (q := 113) hX dX7_isSpent_110 rfl gfl_7_50 (by assumption) rfl ?_
              refine s_iload (q := 115) hX dX7_isSpent_113 rfl rfl ?_
              refine s_iald (k := t) (q := 116) hX dX7_isSpent_115 rfl (by assumption) rfl (by omega) (by omega) ?_
              refine s_topi (v := nI (S.N.wn t)) hrr.2.1 ?_
              refine s_iload (q := 118) hX dX7_isSpent_116 rfl rfl ?_
              refine s_nicmp_ne (a := S.N.wn t) (b := dy + 1) (q := 121) (r := 139) hX dX7_isSpent_118 rfl rfl rfl rfl (by omega) (by omega) (fun c118 => ?_) (fun c118 => ?_)
              · refine s_iconst (q := 140) (v := 1) hX dX7_isSpent_139 rfl rfl ?_
                refine s_goto (q := 144) hX dX7_isSpent_140 rfl ?_
                refine s_istore (q := 146) (lv' := [(0, _), (1, _), (2, _), (3, _), (4, _), (5, _), (6, _), (7, _)]) hX dX7_isSpent_144 rfl (Nat.le_of_ble_eq_true rfl) rfl ?_
                refine s_iinc (q := 149) (v := nI (t + 1)) (lv' := [(0, _), (1, _), (2, _), (3, _), (4, _), (5, _), (6, _), (7, _)]) hX dX7_isSpent_146 rfl rfl (nI_add (t) 1) (Nat.le_of_ble_eq_true rfl) rfl ?_
                refine s_goto (q := 84) hX dX7_isSpent_149 rfl ?_
                exact ihp (t + 1) (by omega) (gN.ag_y hag (by omega))
              · refine s_aload_n (q := 122) hX dX7_isSpent_121 rfl rfl ?_
                refine s_getr (q := 125) hX dX7_isSpent_122 rfl gfl_7_53 (by assumption) rfl ?_
                refine s_iload (q := 127) hX dX7_isSpent_125 rfl rfl ?_
                refine s_iald (k := t) (q := 128) hX dX7_isSpent_127 rfl (by assumption) rfl (by omega) (by omega) ?_
                refine s_topi (v := nI (S.N.hu t)) hrr.2.2 ?_
                refine s_aload_n (q := 129) hX dX7_isSpent_128 rfl rfl ?_
                refine s_sipush (q := 132) (v := 341) hX dX7_isSpent_129 rfl rfl (by decide) ?_
                refine s_iload_n (q := 133) hX dX7_isSpent_132 rfl rfl ?_
                refine s_invv2_1 (q := 136) hX dX7_isSpent_133 rfl glk_7_108 (by assumption) (Nat.le_of_ble_eq_true rfl) ⟨Nat.le_refl _, Nat.le_refl _⟩ (by omega) (m_hue (d := 0) (a := 341) (T := S.T) (U := V2) hC0 hm.1.2.1 g1 hm.2.1 hV2 (by omega) hi ?_) 
                refine ⟨_, rfl, ?_⟩
                refine s_nicmp_ne (a := S.N.hu t) (b := hueN (V2.tr i)) (q := 139) (r := 143) hX dX7_isSpent_136 rfl rfl rfl rfl (by omega) (by omega) (fun c136 => ?_) (fun c136 => ?_)
                · refine s_iconst (q := 144) (v := 0) hX dX7_isSpent_143 rfl rfl ?_
                  refine s_istore (q := 146) (lv' := [(0, _), (1, _), (2, _), (3, _), (4, _), (5, _), (6, _), (7, _)]) hX dX7_isSpent_144 rfl (Nat.le_of_ble_eq_true rfl) rfl ?_
                  refine s_iinc (q := 149) (v := nI (t + 1)) (lv' := [(0, _), (1, _), (2, _), (3, _), (4, _), (5, _), (6, _), (7, _)]) hX dX7_isSpent_146 rfl rfl (nI_add (t) 1) (Nat.le_of_ble_eq_true rfl) rfl ?_
                  refine s_goto (q := 84) hX dX7_isSpent_149 rfl ?_
                  have hno := gN.ag_no (N := S.N) (i := i) (d := dy + 1) (u := hueN (V2.tr i)) (k := t) (by omega) (n := S.N.n) (by omega)
                  rw [hno, if_neg (by decide)] at hr
                  exact F hr.symm V2 M2 y (dy + 1) hV2 hm (by omega) p (t + 1) (by omega)
                · refine s_iconst (q := 140) (v := 1) hX dX7_isSpent_139 rfl rfl ?_
                  refine s_goto (q := 144) hX dX7_isSpent_140 rfl ?_
                  refine s_istore (q := 146) (lv' := [(0, _), (1, _), (2, _), (3, _), (4, _), (5, _), (6, _), (7, _)]) hX dX7_isSpent_144 rfl (Nat.le_of_ble_eq_true rfl) rfl ?_
                  refine s_iinc (q := 149) (v := nI (t + 1)) (lv' := [(0, _), (1, _), (2, _), (3, _), (4, _), (5, _), (6, _), (7, _)]) hX dX7_isSpent_146 rfl rfl (nI_add (t) 1) (Nat.le_of_ble_eq_true rfl) rfl ?_
                  refine s_goto (q := 84) hX dX7_isSpent_149 rfl ?_
                  exact ihp (t + 1) (by omega) (gN.ag_y hag (by omega))
        refine s_aload_n (q := 74) hX dX7_isSpent_73 rfl rfl ?_
        refine s_sipush (q := 77) (v := 341) hX dX7_isSpent_74 rfl rfl (by decide) ?_
        refine s_iload_n (q := 78) hX dX7_isSpent_77 rfl rfl ?_
        refine s_invv2_0 (q := 81) hX dX7_isSpent_78 rfl glk_7_128 (by assumption) (Nat.le_of_ble_eq_true rfl) ⟨Nat.le_refl _, Nat.le_refl _⟩ (by omega) (m_sea (d := 0) (a := 341) (T := S.T) (U := V1) hC0 hm1.1.2.1 g1 hm1.2.1 hV1 (by omega) hi (fun M2 f2 u2 => ?_)) 
        refine ⟨rfl, ?_⟩
        refine s_iconst (q := 82) (v := 0) hX dX7_isSpent_81 rfl rfl ?_
        refine s_istore (q := 84) (lv' := [(0, _), (1, _), (2, _), (3, _), (4, _), (5, _), (6, _), (7, _)]) hX dX7_isSpent_82 rfl (Nat.le_of_ble_eq_true rfl) rfl ?_
        rw [← hV2e] at u2
        exact I M2 (hm1.st o1 g4.1 g5.1 f2 u2) S.N.n 0 (by omega) rfl
      refine s_lv hX (fun q hq => List.mem_append_left lv hq) ?_
      by_cases hq0 : q = 0
      · refine s_iload (q := 16) hX dX7_isSpent_14 rfl rfl ?_
        refine s_iload_n (q := 17) hX dX7_isSpent_16 rfl rfl ?_
        refine s_icmp_gt_f (q := 20) (r := 165) hX dX7_isSpent_17 rfl rfl (Int32.not_lt.mpr (nI_le (by omega) (by omega))) ?_
        refine s_iload (q := 22) hX dX7_isSpent_20 rfl rfl ?_
        refine s_if_eq_f (q := 25) (r := 165) hX dX7_isSpent_22 rfl rfl (by decide) ?_
        refine s_iload_n (q := 26) hX dX7_isSpent_25 rfl rfl ?_
        refine s_aload_n (q := 27) hX dX7_isSpent_26 rfl rfl ?_
        refine s_iload_n (q := 28) hX dX7_isSpent_27 rfl rfl ?_
        refine s_iload (q := 30) hX dX7_isSpent_28 rfl rfl ?_
        refine s_isub (q := 31) (v := nI (r)) hX dX7_isSpent_30 rfl (by rw [pk_sub (by omega)]; exact congrArg nI (by omega)) ?_
        refine s_invv1_1 (q := 34) hX dX7_isSpent_31 rfl glk_7_167 (by assumption) (Nat.le_of_ble_eq_true rfl) ⟨Nat.le_refl _, Nat.le_refl _⟩ (by omega) (m_power (d := 0) (n := r) hC0 hm.1 hk0 hb (by omega) ?_) 
        refine ⟨_, rfl, ?_⟩
        refine s_idiv (q := 35) (v := nI (c / (S.T.D + 1) ^ r)) hX dX7_isSpent_34 rfl (pk_div (by omega) (by omega) (by omega)) (nI_ne0 (by omega) (by omega)) ?_
        refine s_aload_n (q := 36) hX dX7_isSpent_35 rfl rfl ?_
        refine s_getr (q := 39) hX dX7_isSpent_36 rfl gfl_7_23 (by assumption) rfl ?_
        refine s_iconst (q := 40) (v := 0) hX dX7_isSpent_39 rfl rfl ?_
        refine s_iald (k := 0) (q := 41) hX dX7_isSpent_40 rfl (by assumption) rfl (by omega) (by omega) ?_
        refine s_topi (v := nI (S.T.D)) hm.1.2.1.2.1 ?_
        refine s_iconst (q := 42) (v := 1) hX dX7_isSpent_41 rfl rfl ?_
        refine s_iadd (q := 43) (v := nI (S.T.D + 1)) hX dX7_isSpent_42 rfl (nI_add (S.T.D) (1)) ?_
        refine s_irem (q := 44) (v := nI (q)) hX dX7_isSpent_43 rfl (by rw [hq]; exact pk_rem (a := c / (S.T.D + 1) ^ r) (d := S.T.D + 1) (by omega) (by omega) (by omega)) (nI_ne0 (by omega) (by omega)) ?_
        refine s_iconst (q := 45) (v := 1) hX dX7_isSpent_44 rfl rfl ?_
        refine s_isub (q := 46) (v := -1) hX dX7_isSpent_45 rfl (by rw [hq0]; rfl) ?_
        refine s_istore (q := 48) (lv' := [(0, _), (1, _), (2, _), (3, _), (4, _), (5, _), (6, _)]) hX dX7_isSpent_46 rfl (Nat.le_of_ble_eq_true rfl) rfl ?_
        refine s_iload (q := 50) hX dX7_isSpent_48 rfl rfl ?_
        refine s_if_lt_t (q := 53) (r := 66) hX dX7_isSpent_50 rfl rfl (by decide) ?_
        refine s_iconst (q := 67) (v := 1) hX dX7_isSpent_66 rfl rfl ?_
        refine s_goto (q := 71) hX dX7_isSpent_67 rfl ?_
        refine s_istore (q := 73) (lv' := [(0, _), (1, _), (2, _), (3, _), (4, _), (5, _), (6, _)]) hX dX7_isSpent_71 rfl (Nat.le_of_ble_eq_true rfl) rfl ?_
        exact G1 V h M1 _ (by rw [hq0]; rfl) hV rfl hh hm
      · refine s_iload (q := 16) hX dX7_isSpent_14 rfl rfl ?_
        refine s_iload_n (q := 17) hX dX7_isSpent_16 rfl rfl ?_
        refine s_icmp_gt_f (q := 20) (r := 165) hX dX7_isSpent_17 rfl rfl (Int32.not_lt.mpr (nI_le (by omega) (by omega))) ?_
        refine s_iload (q := 22) hX dX7_isSpent_20 rfl rfl ?_
        refine s_if_eq_f (q := 25) (r := 165) hX dX7_isSpent_22 rfl rfl (by decide) ?_
        refine s_iload_n (q := 26) hX dX7_isSpent_25 rfl rfl ?_
        refine s_aload_n (q := 27) hX dX7_isSpent_26 rfl rfl ?_
        refine s_iload_n (q := 28) hX dX7_isSpent_27 rfl rfl ?_
        refine s_iload (q := 30) hX dX7_isSpent_28 rfl rfl ?_
        refine s_isub (q := 31) (v := nI (r)) hX dX7_isSpent_30 rfl (by rw [pk_sub (by omega)]; exact congrArg nI (by omega)) ?_
        refine s_invv1_1 (q := 34) hX dX7_isSpent_31 rfl glk_7_167 (by assumption) (Nat.le_of_ble_eq_true rfl) ⟨Nat.le_refl _, Nat.le_refl _⟩ (by omega) (m_power (d := 0) (n := r) hC0 hm.1 hk0 hb (by omega) ?_) 
        refine ⟨_, rfl, ?_⟩
        refine s_idiv (q := 35) (v := nI (c / (S.T.D + 1) ^ r)) hX dX7_isSpent_34 rfl (pk_div (by omega) (by omega) (by omega)) (nI_ne0 (by omega) (by omega)) ?_
        refine s_aload_n (q := 36) hX dX7_isSpent_35 rfl rfl ?_
        refine s_getr (q := 39) hX dX7_isSpent_36 rfl gfl_7_23 (by assumption) rfl ?_
        refine s_iconst (q := 40) (v := 0) hX dX7_isSpent_39 rfl rfl ?_
        refine s_iald (k := 0) (q := 41) hX dX7_isSpent_40 rfl (by assumption) rfl (by omega) (by omega) ?_
        refine s_topi (v := nI (S.T.D)) hm.1.2.1.2.1 ?_
        refine s_iconst (q := 42) (v := 1) hX dX7_isSpent_41 rfl rfl ?_
        refine s_iadd (q := 43) (v := nI (S.T.D + 1)) hX dX7_isSpent_42 rfl (nI_add (S.T.D) (1)) ?_
        refine s_irem (q := 44) (v := nI (q)) hX dX7_isSpent_43 rfl (by rw [hq]; exact pk_rem (a := c / (S.T.D + 1) ^ r) (d := S.T.D + 1) (by omega) (by omega) (by omega)) (nI_ne0 (by omega) (by omega)) ?_
        refine s_iconst (q := 45) (v := 1) hX dX7_isSpent_44 rfl rfl ?_
        refine s_isub (q := 46) (v := nI (q - 1)) hX dX7_isSpent_45 rfl (by rw [show (1 : Int32) = nI 1 from rfl, pk_sub (by omega)]) ?_
        refine s_istore (q := 48) (lv' := [(0, _), (1, _), (2, _), (3, _), (4, _), (5, _), (6, _)]) hX dX7_isSpent_46 rfl (Nat.le_of_ble_eq_true rfl) rfl ?_
        refine s_iload (q := 50) hX dX7_isSpent_48 rfl rfl ?_
        refine s_if_lt_f (q := 53) (r := 66) hX dX7_isSpent_50 rfl rfl (nI_pos (by omega)) ?_
        refine s_aload_n (q := 54) hX dX7_isSpent_53 rfl rfl ?_
        refine s_sipush (q := 57) (v := 341) hX dX7_isSpent_54 rfl rfl (by decide) ?_
        refine s_iload_n (q := 58) hX dX7_isSpent_57 rfl rfl ?_
        refine s_iload (q := 60) hX dX7_isSpent_58 rfl rfl ?_
        refine s_invv3_1 (q := 63) hX dX7_isSpent_60 rfl glk_7_125 (by assumption) (Nat.le_of_ble_eq_true rfl) ⟨Nat.le_refl _, Nat.le_refl _⟩ (by omega) (m_doIt (d := 2) (a := 341) (T := S.T) (U := V) (k := q - 1) (Nat.le_refl _) hC0 hm.1.2.1 g1 hm.2.1 hV (by omega) hi (by omega) (fun hc9 M2 f2 u2 => ?_) (fun hc9 M2 f2 u2 => ?_)) 
        · refine ⟨_, rfl, ?_⟩
          refine s_if_lt_t (q := 66) (r := 70) hX dX7_isSpent_63 rfl rfl (by decide) ?_
          refine s_iconst (q := 71) (v := 0) hX dX7_isSpent_70 rfl rfl ?_
          refine s_istore (q := 73) (lv' := [(0, _), (1, _), (2, _), (3, _), (4, _), (5, _), (6, _)]) hX dX7_isSpent_71 rfl (Nat.le_of_ble_eq_true rfl) rfl ?_
          have hs0 : S.T.sd S.N i (V.d % 7) (dy + 1) h q = none := by
            unfold gT.sd
            rw [show S.T.s1 i h q = none from by
              rw [show q = (q - 1) + 1 by omega]
              show (if S.T.can i (q - 1) h = true then _ else none) = none
              rw [S.T.can_cg hh, if_neg (by rw [hc9]; decide)]]
          rw [hs0] at hr
          exact F0 hr.symm V M2 _ _ hV (hm.st o1 g4.1 g5.1 f2 u2) (by omega)
        · have hpl := payC_le hc9
          have z0 : S.T.pay i (q - 1) (V.tr i) 0 ≤ 99 := Nat.le_trans (hpl 0 (by omega)) (hV.1 _ (by omega))
          have z1 : S.T.pay i (q - 1) (V.tr i) 1 ≤ 99 := Nat.le_trans (hpl 1 (by omega)) (hV.1 _ (by omega))
          have z2 : S.T.pay i (q - 1) (V.tr i) 2 ≤ 99 := Nat.le_trans (hpl 2 (by omega)) (hV.1 _ (by omega))
          refine ⟨_, rfl, ?_⟩
          refine s_if_lt_f (q := 66) (r := 70) hX dX7_isSpent_63 rfl rfl (nI_pos (by omega)) ?_
          refine s_iconst (q := 67) (v := 1) hX dX7_isSpent_66 rfl rfl ?_
          refine s_goto (q := 71) hX dX7_isSpent_67 rfl ?_
          refine s_istore (q := 73) (lv' := [(0, _), (1, _), (2, _), (3, _), (4, _), (5, _), (6, _)]) hX dX7_isSpent_71 rfl (Nat.le_of_ble_eq_true rfl) rfl ?_
          refine G1 (S.T.act i (q - 1) V) (fun s => h s - S.T.pay i (q - 1) h s) M2 _ ?_ (S.T.act_ok hV).1 (S.T.act_ok (P := S.T.P) hV).2 (fun s hs => ?_) (hm.st o1 g4.1 g5.1 f2 u2)
          · rw [show q = (q - 1) + 1 by omega]
            show (if S.T.can i (q - 1) h = true then _ else none) = _
            rw [S.T.can_cg hh, if_pos hc9]
            rfl
          · show h s - S.T.pay i (q - 1) h s = _
            rw [S.T.act_tr hc9 s hs, hh s hs, S.T.pay_cg hh hs]
  refine s_aload_n (q := 1) hX dX7_isSpent_0 rfl rfl ?_
  refine s_iconst (q := 2) (v := 0) hX dX7_isSpent_1 rfl rfl ?_
  refine s_sipush (q := 5) (v := 341) hX dX7_isSpent_2 rfl rfl (by decide) ?_
  refine s_invv2_0 (q := 8) hX dX7_isSpent_5 rfl glk_7_131 (by assumption) (Nat.le_of_ble_eq_true rfl) ⟨Nat.le_refl _, Nat.le_refl _⟩ (by omega) (m_copy (d := 0) (f := 0) (t := 341) hC0 (by omega) (by omega) (by omega) (fun M1 f1 f2 f3 => ?_)) 
  refine ⟨rfl, ?_⟩
  refine s_iconst (q := 9) (v := 1) hX dX7_isSpent_8 rfl rfl ?_
  refine s_istore (q := 11) (lv' := [(0, _), (1, _), (2, _), (3, _), (4, _)]) hX dX7_isSpent_9 rfl (Nat.le_of_ble_eq_true rfl) rfl ?_
  refine s_iconst (q := 12) (v := 1) hX dX7_isSpent_11 rfl rfl ?_
  refine s_istore (q := 14) (lv' := [(0, _), (1, _), (2, _), (3, _), (4, _), (5, _)]) hX dX7_isSpent_12 rfl (Nat.le_of_ble_eq_true rfl) rfl ?_
  exact G L 0 S.U (S.U.tr i) M1 (by omega) g3.1 (by omega) (fun _ _ => rfl) (by rw [Nat.mod_eq_of_lt hc]; exact hR.symm) (TRM.init hS0 o1 g4.1 g5.1 f1 f2 f3) [] (Or.inl rfl)
