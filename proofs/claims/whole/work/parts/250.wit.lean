/-! WITNESS -/
set_option maxHeartbeats 4000000 in
set_option maxRecDepth 100000 in
theorem c_wadd {d e i dy u : Nat} {N : gN} {sh : List gS} {M : gM} {Q : Option Value → List gS → gM → Prop} (hE : isWit sh e) (hN : WIT M e N) (hok : N.ok) (hcon0 : N.n = 7 → Q (some (.int 0)) sh M) (hcon1 : N.n < 7 → ∀ M', WIT M' e (N.add i dy u) → (∀ c, c ≠ e → c ≠ e + 1 → c ≠ e + 2 → c ≠ e + 3 → M' c = M c) → Q (some (.int 1)) sh M') : gC mX5_add d 0 0 [.ref e, .int (nI i), .int (nI dy), .int (nI u)] sh M Q := by
  obtain ⟨v0, v1, v2, v3, v4, v5, v6⟩ := hE
  obtain ⟨n1, n2⟩ := hN
  have k1 := hok.1
  refine gC_of (rt := 2) (ini := false) gm_X5_add rfl (by decide) (Nat.le_of_ble_eq_true rfl) (fun X hX => ?_)
  refine s_aload_n (q := 1) hX dX5_add_0 rfl rfl ?_
  refine s_geti (q := 4) hX dX5_add_1 rfl gfl_5_30 (by assumption) rfl ?_
  refine s_topi (v := nI (N.n)) n1 ?_
  refine s_bipush (q := 6) (v := 7) hX dX5_add_4 rfl rfl (by decide) ?_
  refine s_nicmp_lt (a := N.n) (b := 7) (q := 9) (r := 11) hX dX5_add_6 rfl rfl rfl rfl (by omega) (by omega) (fun c6 => ?_) (fun c6 => ?_)
  · refine s_aload_n (q := 12) hX dX5_add_11 rfl rfl ?_
    refine s_getr (q := 15) hX dX5_add_12 rfl gfl_5_11 (by assumption) rfl ?_
    refine s_aload_n (q := 16) hX dX5_add_15 rfl rfl ?_
    refine s_geti (q := 19) hX dX5_add_16 rfl gfl_5_30 (by assumption) rfl ?_
    refine s_topi (v := nI (N.n)) n1 ?_
    refine s_iload_n (q := 20) hX dX5_add_19 rfl rfl ?_
    refine s_iast (k := N.n) (q := 21) hX dX5_add_20 rfl (by assumption) rfl (by omega) (by omega) ?_
    refine s_aload_n (q := 22) hX dX5_add_21 rfl rfl ?_
    refine s_getr (q := 25) hX dX5_add_22 rfl gfl_5_15 (by assumption) rfl ?_
    refine s_aload_n (q := 26) hX dX5_add_25 rfl rfl ?_
    refine s_geti (q := 29) hX dX5_add_26 rfl gfl_5_30 (by assumption) rfl ?_
    refine s_topi (v := nI (N.n)) (by rw [gsr_n _ _ (by omega)]; exact n1) ?_
    refine s_iload_n (q := 30) hX dX5_add_29 rfl rfl ?_
    refine s_iast (k := N.n) (q := 31) hX dX5_add_30 rfl (by assumption) rfl (by omega) (by omega) ?_
    refine s_aload_n (q := 32) hX dX5_add_31 rfl rfl ?_
    refine s_getr (q := 35) hX dX5_add_32 rfl gfl_5_18 (by assumption) rfl ?_
    refine s_aload_n (q := 36) hX dX5_add_35 rfl rfl ?_
    refine s_geti (q := 39) hX dX5_add_36 rfl gfl_5_30 (by assumption) rfl ?_
    refine s_topi (v := nI (N.n)) (by rw [gsr_n _ _ (by omega), gsr_n _ _ (by omega)]; exact n1) ?_
    refine s_iload_n (q := 40) hX dX5_add_39 rfl rfl ?_
    refine s_iast (k := N.n) (q := 41) hX dX5_add_40 rfl (by assumption) rfl (by omega) (by omega) ?_
    refine s_aload_n (q := 42) hX dX5_add_41 rfl rfl ?_
    refine s_dup (q := 43) hX dX5_add_42 rfl rfl ?_
    refine s_geti (q := 46) hX dX5_add_43 rfl gfl_5_30 (by assumption) rfl ?_
    refine s_topi (v := nI (N.n)) (by rw [gsr_n _ _ (by omega), gsr_n _ _ (by omega), gsr_n _ _ (by omega)]; exact n1) ?_
    refine s_iconst (q := 47) (v := 1) hX dX5_add_46 rfl rfl ?_
    refine s_iadd (q := 48) (v := nI (N.n + 1)) hX dX5_add_47 rfl (nI_add (N.n) (1)) ?_
    refine s_puti (q := 51) hX dX5_add_48 rfl gfl_5_30 (by assumption) rfl ?_
    refine s_iconst (q := 52) (v := 1) hX dX5_add_51 rfl rfl ?_
    refine s_iret hX dX5_add_52 (Or.inr ⟨rfl, Or.inr rfl⟩) ⟨Nat.le_refl _, Nat.le_refl _, Nat.le_refl _, ?_⟩
    refine hcon1 (by omega) _ ⟨?_, fun j hj => ⟨?_, ?_, ?_⟩⟩ (fun c h0 h1 h2 h3 => ?_)
    · rw [gsr_s, pk_us]; rfl
    · rw [gsr_n _ _ (by omega), gsr_n _ _ (by omega), gsr_n _ _ (by omega), gsr_s]
      show _ = nI (if j = N.n then i else N.wh j)
      have hj : j < N.n + 1 := hj
      by_cases z : j = N.n
      · rw [if_pos z, z, pk_us]
      · rw [if_neg z, pk_un z]; exact (n2 j (by omega)).1
    · rw [gsr_n _ _ (by omega), gsr_n _ _ (by omega), gsr_s, gsr_n _ _ (by omega)]
      show _ = nI (if j = N.n then dy else N.wn j)
      have hj : j < N.n + 1 := hj
      by_cases z : j = N.n
      · rw [if_pos z, z, pk_us]
      · rw [if_neg z, pk_un z]; exact (n2 j (by omega)).2.1
    · rw [gsr_n _ _ (by omega), gsr_s, gsr_n _ _ (by omega), gsr_n _ _ (by omega)]
      show _ = nI (if j = N.n then u else N.hu j)
      have hj : j < N.n + 1 := hj
      by_cases z : j = N.n
      · rw [if_pos z, z, pk_us]
      · rw [if_neg z, pk_un z]; exact (n2 j (by omega)).2.2
    · rw [gsr_n _ _ h0, gsr_n _ _ h3, gsr_n _ _ h2, gsr_n _ _ h1]
  · refine s_iconst (q := 10) (v := 0) hX dX5_add_9 rfl rfl ?_
    refine s_iret hX dX5_add_10 (Or.inr ⟨rfl, Or.inl rfl⟩) ⟨Nat.le_refl _, Nat.le_refl _, Nat.le_refl _, ?_⟩
    exact hcon0 (by omega)
set_option maxHeartbeats 4000000 in
set_option maxRecDepth 100000 in
theorem c_lastDay {d e i : Nat} {N : gN} {sh : List gS} {M : gM} {Q : Option Value → List gS → gM → Prop} (hd : 1 ≤ d) (hE : isWit sh e) (hN : WIT M e N) (hok : N.ok) (hi : i < 6) (hcon : Q (some (.int (nI (N.la i N.n)))) sh M) : gC mX5_lastDay d 0 0 [.ref e, .int (nI i)] sh M Q := by
  obtain ⟨v0, v1, v2, v3, v4, v5, v6⟩ := hE
  obtain ⟨n1, n2⟩ := hN
  have k1 := hok.1
  refine gC_of (rt := 1) (ini := false) gm_X5_lastDay rfl (by decide) (Nat.le_of_ble_eq_true rfl) (fun X hX => ?_)
  have L : ∀ (m j : Nat), j ≤ N.n → N.n < j + m → X 4 [(0, .ref e), (1, .int (nI i)), (2, .int (nI (N.la i j))), (3, .int (nI j))] [] sh M 0 0 := by
    intro m
    induction m with
    | zero => intro j h1 h2; omega
    | succ m ih =>
      intro j hj hm
      have hla := gN.la_le hok i j hj
      have hst : N.la i (j + 1) = if N.wh j = i then (if N.la i j < N.wn j then N.wn j else N.la i j) else N.la i j := rfl
      refine s_iload_n (q := 5) hX dX5_lastDay_4 rfl rfl ?_
      refine s_aload_n (q := 6) hX dX5_lastDay_5 rfl rfl ?_
      refine s_geti (q := 9) hX dX5_lastDay_6 rfl gfl_5_30 (by assumption) rfl ?_
      refine s_topi (v := nI (N.n)) n1 ?_
      refine s_nicmp_ge (a := j) (b := N.n) (q := 12) (r := 39) hX dX5_lastDay_9 rfl rfl rfl rfl (by omega) (by omega) (fun c9 => ?_) (fun c9 => ?_)
      · refine s_iload_n (q := 40) hX dX5_lastDay_39 rfl rfl ?_
        refine s_iret hX dX5_lastDay_40 (Or.inl rfl) ⟨Nat.le_refl _, Nat.le_refl _, Nat.le_refl _, ?_⟩
        have z : j = N.n := by omega
        subst z
        exact hcon
      · have hk := hok.2 j (by omega)
        have hr := n2 j (by omega)
        refine s_aload_n (q := 13) hX dX5_lastDay_12 rfl rfl ?_
        refine s_getr (q := 16) hX dX5_lastDay_13 rfl gfl_5_11 (by assumption) rfl ?_
        refine s_iload_n (q := 17) hX dX5_lastDay_16 rfl rfl ?_
        refine s_iald (k := j) (q := 18) hX dX5_lastDay_17 rfl (by assumption) rfl (by omega) (by omega) ?_
        refine s_topi (v := nI (N.wh j)) hr.1 ?_
        refine s_iload_n (q := 19) hX dX5_lastDay_18 rfl rfl ?_
        refine s_nicmp_ne (a := N.wh j) (b := i) (q := 22) (r := 33) hX dX5_lastDay_19 rfl rfl rfl rfl (by omega) (by omega) (fun c19 => ?_) (fun c19 => ?_)
        · refine s_iinc (q := 36) (v := nI (j + 1)) (lv' := [(0, _), (1, _), (2, _), (3, _)]) hX dX5_lastDay_33 rfl rfl (nI_add (j) 1) (Nat.le_of_ble_eq_true rfl) rfl ?_
          refine s_goto (q := 4) hX dX5_lastDay_36 rfl ?_
          have hi2 := ih (j + 1) (by omega) (by omega)
          rw [hst, if_neg (by omega)] at hi2
          exact hi2
        · refine s_iload_n (q := 23) hX dX5_lastDay_22 rfl rfl ?_
          refine s_aload_n (q := 24) hX dX5_lastDay_23 rfl rfl ?_
          refine s_getr (q := 27) hX dX5_lastDay_24 rfl gfl_5_15 (by assumption) rfl ?_
          refine s_iload_n (q := 28) hX dX5_lastDay_27 rfl rfl ?_
          refine s_iald (k := j) (q := 29) hX dX5_lastDay_28 rfl (by assumption) rfl (by omega) (by omega) ?_
          refine s_topi (v := nI (N.wn j)) hr.2.1 ?_
          refine s_invs2_1 (q := 32) hX dX5_lastDay_29 rfl glk_5_34 (by decide) (Nat.le_of_ble_eq_true rfl) ⟨Nat.le_refl _, Nat.le_refl _⟩ (by omega) (c_max (d := 0) ?_) 
          refine ⟨_, rfl, ?_⟩
          refine s_topi (v := nI (if N.la i j < N.wn j then N.wn j else N.la i j)) (gmax (by omega) (by omega)) ?_
          refine s_istore_n (q := 33) (lv' := [(0, _), (1, _), (2, _), (3, _)]) hX dX5_lastDay_32 rfl (Nat.le_of_ble_eq_true rfl) rfl ?_
          refine s_iinc (q := 36) (v := nI (j + 1)) (lv' := [(0, _), (1, _), (2, _), (3, _)]) hX dX5_lastDay_33 rfl rfl (nI_add (j) 1) (Nat.le_of_ble_eq_true rfl) rfl ?_
          refine s_goto (q := 4) hX dX5_lastDay_36 rfl ?_
          have hi2 := ih (j + 1) (by omega) (by omega)
          rw [hst, if_pos (by omega)] at hi2
          exact hi2
  refine s_iconst (q := 1) (v := 0) hX dX5_lastDay_0 rfl rfl ?_
  refine s_istore_n (q := 2) (lv' := [(0, _), (1, _), (2, _)]) hX dX5_lastDay_1 rfl (Nat.le_of_ble_eq_true rfl) rfl ?_
  refine s_iconst (q := 3) (v := 0) hX dX5_lastDay_2 rfl rfl ?_
  refine s_istore_n (q := 4) (lv' := [(0, _), (1, _), (2, _), (3, _)]) hX dX5_lastDay_3 rfl (Nat.le_of_ble_eq_true rfl) rfl ?_
  exact L (N.n + 1) 0 (by omega) (by omega)
set_option maxHeartbeats 4000000 in
set_option maxRecDepth 100000 in
theorem c_agrees {d e i dy u : Nat} {N : gN} {sh : List gS} {M : gM} {Q : Option Value → List gS → gM → Prop} (hE : isWit sh e) (hN : WIT M e N) (hok : N.ok) (hi : i < 6) (hdy : dy ≤ 10) (hu : u ≤ 7) (hcon : Q (some (.int (if N.ag i dy u N.n = true then 1 else 0))) sh M) : gC mX5_agrees d 0 0 [.ref e, .int (nI i), .int (nI dy), .int (nI u)] sh M Q := by
  obtain ⟨v0, v1, v2, v3, v4, v5, v6⟩ := hE
  obtain ⟨n1, n2⟩ := hN
  have k1 := hok.1
  refine gC_of (rt := 2) (ini := false) gm_X5_agrees rfl (by decide) (Nat.le_of_ble_eq_true rfl) (fun X hX => ?_)
  have L : ∀ (m j : Nat), j ≤ N.n → N.n < j + m → N.ag i dy u j = true → X 3 [(0, .ref e), (1, .int (nI i)), (2, .int (nI dy)), (3, .int (nI u)), (4, .int (nI j))] [] sh M 0 0 := by
    intro m
    induction m with
    | zero => intro j h1 h2; omega
    | succ m ih =>
      intro j hj hm hag
      have hst : N.ag i dy u (j + 1) = (N.ag i dy u j && !(decide (N.wh j = i) && decide (N.wn j = dy) && !decide (N.hu j = u))) := rfl
      refine s_iload (q := 5) hX dX5_agrees_3 rfl rfl ?_
      refine s_aload_n (q := 6) hX dX5_agrees_5 rfl rfl ?_
      refine s_geti (q := 9) hX dX5_agrees_6 rfl gfl_5_30 (by assumption) rfl ?_
      refine s_topi (v := nI (N.n)) n1 ?_
      refine s_nicmp_ge (a := j) (b := N.n) (q := 12) (r := 53) hX dX5_agrees_9 rfl rfl rfl rfl (by omega) (by omega) (fun c9 => ?_) (fun c9 => ?_)
      · refine s_iconst (q := 54) (v := 1) hX dX5_agrees_53 rfl rfl ?_
        refine s_iret hX dX5_agrees_54 (Or.inr ⟨rfl, Or.inr rfl⟩) ⟨Nat.le_refl _, Nat.le_refl _, Nat.le_refl _, ?_⟩
        have z : j = N.n := by omega
        subst z
        rw [if_pos hag] at hcon
        exact hcon
      · have hk := hok.2 j (by omega)
        have hr := n2 j (by omega)
        refine s_aload_n (q := 13) hX dX5_agrees_12 rfl rfl ?_
        refine s_getr (q := 16) hX dX5_agrees_13 rfl gfl_5_11 (by assumption) rfl ?_
        refine s_iload (q := 18) hX dX5_agrees_16 rfl rfl ?_
        refine s_iald (k := j) (q := 19) hX dX5_agrees_18 rfl (by assumption) rfl (by omega) (by omega) ?_
        refine s_topi (v := nI (N.wh j)) hr.1 ?_
        refine s_iload_n (q := 20) hX dX5_agrees_19 rfl rfl ?_
        refine s_nicmp_ne (a := N.wh j) (b := i) (q := 23) (r := 47) hX dX5_agrees_20 rfl rfl rfl rfl (by omega) (by omega) (fun c20 => ?_) (fun c20 => ?_)
        · refine s_iinc (q := 50) (v := nI (j + 1)) (lv' := [(0, _), (1, _), (2, _), (3, _), (4, _)]) hX dX5_agrees_47 rfl rfl (nI_add (j) 1) (Nat.le_of_ble_eq_true rfl) rfl ?_
          refine s_goto (q := 3) hX dX5_agrees_50 rfl ?_
          refine ih (j + 1) (by omega) (by omega) ?_
          rw [hst, hag]
          first
            | (simp [c20]; done)
            | (simp [c31]; done)
            | (simp [c42]; done)
        · refine s_aload_n (q := 24) hX dX5_agrees_23 rfl rfl ?_
          refine s_getr (q := 27) hX dX5_agrees_24 rfl gfl_5_15 (by assumption) rfl ?_
          refine s_iload (q := 29) hX dX5_agrees_27 rfl rfl ?_
          refine s_iald (k := j) (q := 30) hX dX5_agrees_29 rfl (by assumption) rfl (by omega) (by omega) ?_
          refine s_topi (v := nI (N.wn j)) hr.2.1 ?_
          refine s_iload_n (q := 31) hX dX5_agrees_30 rfl rfl ?_
          refine s_nicmp_ne (a := N.wn j) (b := dy) (q := 34) (r := 47) hX dX5_agrees_31 rfl rfl rfl rfl (by omega) (by omega) (fun c31 => ?_) (fun c31 => ?_)
          · refine s_iinc (q := 50) (v := nI (j + 1)) (lv' := [(0, _), (1, _), (2, _), (3, _), (4, _)]) hX dX5_agrees_47 rfl rfl (nI_add (j) 1) (Nat.le_of_ble_eq_true rfl) rfl ?_
            refine s_goto (q := 3) hX dX5_agrees_50 rfl ?_
            refine ih (j + 1) (by omega) (by omega) ?_
            rw [hst, hag]
            first
              | (simp [c20]; done)
              | (simp [c31]; done)
              | (simp [c42]; done)
          · refine s_aload_n (q := 35) hX dX5_agrees_34 rfl rfl ?_
            refine s_getr (q := 38) hX dX5_agrees_35 rfl gfl_5_18 (by assumption) rfl ?_
            refine s_iload (q := 40) hX dX5_agrees_38 rfl rfl ?_
            refine s_iald (k := j) (q := 41) hX dX5_agrees_40 rfl (by assumption) rfl (by omega) (by omega) ?_
            refine s_topi (v := nI (N.hu j)) hr.2.2 ?_
            refine s_iload_n (q := 42) hX dX5_agrees_41 rfl rfl ?_
            refine s_nicmp_eq (a := N.hu j) (b := u) (q := 45) (r := 47) hX dX5_agrees_42 rfl rfl rfl rfl (by omega) (by omega) (fun c42 => ?_) (fun c42 => ?_)
            · refine s_iinc (q := 50) (v := nI (j + 1)) (lv' := [(0, _), (1, _), (2, _), (3, _), (4, _)]) hX dX5_agrees_47 rfl rfl (nI_add (j) 1) (Nat.le_of_ble_eq_true rfl) rfl ?_
              refine s_goto (q := 3) hX dX5_agrees_50 rfl ?_
              refine ih (j + 1) (by omega) (by omega) ?_
              rw [hst, hag]
              first
                | (simp [c20]; done)
                | (simp [c31]; done)
                | (simp [c42]; done)
            · refine s_iconst (q := 46) (v := 0) hX dX5_agrees_45 rfl rfl ?_
              refine s_iret hX dX5_agrees_46 (Or.inr ⟨rfl, Or.inl rfl⟩) ⟨Nat.le_refl _, Nat.le_refl _, Nat.le_refl _, ?_⟩
              have z := gN.ag_no (N := N) (i := i) (d := dy) (u := u) (k := j) ⟨by omega, by omega, c42⟩ (show j < N.n by omega)
              rw [if_neg (by rw [z]; decide)] at hcon
              exact hcon
  refine s_iconst (q := 1) (v := 0) hX dX5_agrees_0 rfl rfl ?_
  refine s_istore (q := 3) (lv' := [(0, _), (1, _), (2, _), (3, _), (4, _)]) hX dX5_agrees_1 rfl (Nat.le_of_ble_eq_true rfl) rfl ?_
  exact L (N.n + 1) 0 (by omega) (by omega) rfl
