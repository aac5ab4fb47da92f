/-! TOWN: what is told of it -/
set_option maxHeartbeats 4000000 in
set_option maxRecDepth 100000 in
theorem c_eachUpTo {d f a n m : Nat} {v : Nat → Nat} {sh : List gS} {M : gM} {Q : Option Value → List gS → gM → Prop} (hf : sh[f]? = some (.inr (.inl (0, n)))) (hn : n ≤ 1000) (ha : a + 3 ≤ n) (hm : m ≤ 99) (hv : ∀ s, s < 3 → M f (a + s) = nI (v (a + s))) (hv9 : ∀ s, s < 3 → v (a + s) ≤ 99) (hcon : Q (some (.int (if v (a + 0) ≤ m ∧ v (a + 1) ≤ m ∧ v (a + 2) ≤ m then 1 else 0))) sh M) : gC mX4_eachUpTo d 0 0 [.int (nI m), .ref f, .int (nI a)] sh M Q := by
  have b0 := hv9 0 (by omega)
  have b1 := hv9 1 (by omega)
  have b2 := hv9 2 (by omega)
  refine gC_of (rt := 2) (ini := false) gm_X4_eachUpTo rfl (by decide) (Nat.le_of_ble_eq_true rfl) (fun X hX => ?_)
  refine s_iconst (q := 1) (v := 0) hX dX4_eachUpTo_0 rfl rfl ?_
  refine s_istore_n (q := 2) (lv' := [(0, _), (1, _), (2, _), (3, _)]) hX dX4_eachUpTo_1 rfl (Nat.le_of_ble_eq_true rfl) rfl ?_
  refine s_iload_n (q := 3) hX dX4_eachUpTo_2 rfl rfl ?_
  refine s_iconst (q := 4) (v := 3) hX dX4_eachUpTo_3 rfl rfl ?_
  refine s_icmp_ge_f (q := 7) (r := 24) hX dX4_eachUpTo_4 rfl rfl (by decide) ?_
  refine s_aload_n (q := 8) hX dX4_eachUpTo_7 rfl rfl ?_
  refine s_iload_n (q := 9) hX dX4_eachUpTo_8 rfl rfl ?_
  refine s_iload_n (q := 10) hX dX4_eachUpTo_9 rfl rfl ?_
  refine s_iadd (q := 11) (v := nI (a + 0)) hX dX4_eachUpTo_10 rfl (nI_add (a) (0)) ?_
  refine s_iald (k := a + 0) (q := 12) hX dX4_eachUpTo_11 rfl (by assumption) rfl (by omega) (by omega) ?_
  refine s_topi (v := nI (v (a + 0))) (hv 0 (by omega)) ?_
  refine s_iload_n (q := 13) hX dX4_eachUpTo_12 rfl rfl ?_
  refine s_nicmp_le (a := v (a + 0)) (b := m) (q := 16) (r := 18) hX dX4_eachUpTo_13 rfl rfl rfl rfl (by omega) (by omega) (fun c13 => ?_) (fun c13 => ?_)
  · refine s_iinc (q := 21) (v := 1) (lv' := [(0, _), (1, _), (2, _), (3, _)]) hX dX4_eachUpTo_18 rfl rfl (by decide) (Nat.le_of_ble_eq_true rfl) rfl ?_
    refine s_goto (q := 2) hX dX4_eachUpTo_21 rfl ?_
    refine s_iload_n (q := 3) hX dX4_eachUpTo_2 rfl rfl ?_
    refine s_iconst (q := 4) (v := 3) hX dX4_eachUpTo_3 rfl rfl ?_
    refine s_icmp_ge_f (q := 7) (r := 24) hX dX4_eachUpTo_4 rfl rfl (by decide) ?_
    refine s_aload_n (q := 8) hX dX4_eachUpTo_7 rfl rfl ?_
    refine s_iload_n (q := 9) hX dX4_eachUpTo_8 rfl rfl ?_
    refine s_iload_n (q := 10) hX dX4_eachUpTo_9 rfl rfl ?_
    refine s_iadd (q := 11) (v := nI (a + 1)) hX dX4_eachUpTo_10 rfl (nI_add (a) (1)) ?_
    refine s_iald (k := a + 1) (q := 12) hX dX4_eachUpTo_11 rfl (by assumption) rfl (by omega) (by omega) ?_
    refine s_topi (v := nI (v (a + 1))) (hv 1 (by omega)) ?_
    refine s_iload_n (q := 13) hX dX4_eachUpTo_12 rfl rfl ?_
    refine s_nicmp_le (a := v (a + 1)) (b := m) (q := 16) (r := 18) hX dX4_eachUpTo_13 rfl rfl rfl rfl (by omega) (by omega) (fun c13_1 => ?_) (fun c13_1 => ?_)
    · refine s_iinc (q := 21) (v := 2) (lv' := [(0, _), (1, _), (2, _), (3, _)]) hX dX4_eachUpTo_18 rfl rfl (by decide) (Nat.le_of_ble_eq_true rfl) rfl ?_
      refine s_goto (q := 2) hX dX4_eachUpTo_21 rfl ?_
      refine s_iload_n (q := 3) hX dX4_eachUpTo_2 rfl rfl ?_
      refine s_iconst (q := 4) (v := 3) hX dX4_eachUpTo_3 rfl rfl ?_
      refine s_icmp_ge_f (q := 7) (r := 24) hX dX4_eachUpTo_4 rfl rfl (by decide) ?_
      refine s_aload_n (q := 8) hX dX4_eachUpTo_7 rfl rfl ?_
      refine s_iload_n (q := 9) hX dX4_eachUpTo_8 rfl rfl ?_
      refine s_iload_n (q := 10) hX dX4_eachUpTo_9 rfl rfl ?_
      refine s_iadd (q := 11) (v := nI (a + 2)) hX dX4_eachUpTo_10 rfl (nI_add (a) (2)) ?_
      refine s_iald (k := a + 2) (q := 12) hX dX4_eachUpTo_11 rfl (by assumption) rfl (by omega) (by omega) ?_
      refine s_topi (v := nI (v (a + 2))) (hv 2 (by omega)) ?_
      refine s_iload_n (q := 13) hX dX4_eachUpTo_12 rfl rfl ?_
      refine s_nicmp_le (a := v (a + 2)) (b := m) (q := 16) (r := 18) hX dX4_eachUpTo_13 rfl rfl rfl rfl (by omega) (by omega) (fun c13_2 => ?_) (fun c13_2 => ?_)
      · refine s_iinc (q := 21) (v := 3) (lv' := [(0, _), (1, _), (2, _), (3, _)]) hX dX4_eachUpTo_18 rfl rfl (by decide) (Nat.le_of_ble_eq_true rfl) rfl ?_
        refine s_goto (q := 2) hX dX4_eachUpTo_21 rfl ?_
        refine s_iload_n (q := 3) hX dX4_eachUpTo_2 rfl rfl ?_
        refine s_iconst (q := 4) (v := 3) hX dX4_eachUpTo_3 rfl rfl ?_
        refine s_icmp_ge_t (q := 7) (r := 24) hX dX4_eachUpTo_4 rfl rfl (by decide) ?_
        refine s_iconst (q := 25) (v := 1) hX dX4_eachUpTo_24 rfl rfl ?_
        refine s_iret hX dX4_eachUpTo_25 (Or.inr ⟨rfl, Or.inr rfl⟩) ⟨Nat.le_refl _, Nat.le_refl _, Nat.le_refl _, ?_⟩
        refine gqv hcon ?_ rfl
        first | rw [if_pos ⟨by omega, by omega, by omega⟩] | rw [if_neg (by omega)]
      · refine s_iconst (q := 17) (v := 0) hX dX4_eachUpTo_16 rfl rfl ?_
        refine s_iret hX dX4_eachUpTo_17 (Or.inr ⟨rfl, Or.inl rfl⟩) ⟨Nat.le_refl _, Nat.le_refl _, Nat.le_refl _, ?_⟩
        refine gqv hcon ?_ rfl
        first | rw [if_pos ⟨by omega, by omega, by omega⟩] | rw [if_neg (by omega)]
    · refine s_iconst (q := 17) (v := 0) hX dX4_eachUpTo_16 rfl rfl ?_
      refine s_iret hX dX4_eachUpTo_17 (Or.inr ⟨rfl, Or.inl rfl⟩) ⟨Nat.le_refl _, Nat.le_refl _, Nat.le_refl _, ?_⟩
      refine gqv hcon ?_ rfl
      first | rw [if_pos ⟨by omega, by omega, by omega⟩] | rw [if_neg (by omega)]
  · refine s_iconst (q := 17) (v := 0) hX dX4_eachUpTo_16 rfl rfl ?_
    refine s_iret hX dX4_eachUpTo_17 (Or.inr ⟨rfl, Or.inl rfl⟩) ⟨Nat.le_refl _, Nat.le_refl _, Nat.le_refl _, ?_⟩
    refine gqv hcon ?_ rfl
    first | rw [if_pos ⟨by omega, by omega, by omega⟩] | rw [if_neg (by omega)]
set_option maxHeartbeats 4000000 in
set_option maxRecDepth 100000 in
theorem c_empty {d t : Nat} {sh : List gS} {M : gM} {Q : Option Value → List gS → gM → Prop} (hT : isTown sh t) (hcon : ∀ M', DRF M' t gT.e0 → (∀ c, (c < t ∨ t + 5 < c) → M' c = M c) → Q none sh M') : gC mX4_empty d 0 0 [.ref t] sh M Q := by
  obtain ⟨z0, z1, z2, z3, z4, z5, z6⟩ := hT
  refine gC_of (rt := 0) (ini := false) gm_X4_empty rfl (by decide) (Nat.le_of_ble_eq_true rfl) (fun X hX => ?_)
  have L : ∀ (m i : Nat) (M' : gM), i ≤ 42 → 42 < i + m → M' t 6 = nI 0 → M' t 7 = nI 0 → M' t 8 = nI 1 → (∀ j, j < i → M' (t + 5) j = -4) → (∀ c, (c < t ∨ t + 5 < c) → M' c = M c) → X 17 [(0, .ref t), (1, .int (nI i))] [] sh M' 0 0 := by
    intro m
    induction m with
    | zero => intro i M' h1 h2; omega
    | succ m ih =>
      intro i M' hi hm h6 h7 h8 hj hfr
      refine s_iload_n (q := 18) hX dX4_empty_17 rfl rfl ?_
      refine s_aload_n (q := 19) hX dX4_empty_18 rfl rfl ?_
      refine s_getr (q := 22) hX dX4_empty_19 rfl gfl_4_24 (by assumption) rfl ?_
      refine s_alen (q := 23) hX dX4_empty_22 rfl (by assumption) (by decide) ?_
      refine s_nicmp_ge (a := i) (b := 42) (q := 26) (r := 40) hX dX4_empty_23 rfl rfl rfl rfl (by omega) (by omega) (fun c23 => ?_) (fun c23 => ?_)
      · refine s_ret hX dX4_empty_40 rfl ⟨Nat.le_refl _, Nat.le_refl _, Nat.le_refl _, ?_⟩
        have e : i = 42 := by omega
        subst e
        exact hcon M' ⟨⟨h6, h7, h8, (fun i hi => by cases hi), (fun j hj => by cases hj), (fun j hj => by cases hj), (fun j hj => by cases hj), (fun j hj => by cases hj)⟩, fun j _ h2 => hj j h2⟩ hfr
      · refine s_aload_n (q := 27) hX dX4_empty_26 rfl rfl ?_
        refine s_getr (q := 30) hX dX4_empty_27 rfl gfl_4_24 (by assumption) rfl ?_
        refine s_iload_n (q := 31) hX dX4_empty_30 rfl rfl ?_
        refine s_bipush (q := 33) (v := (-4)) hX dX4_empty_31 rfl rfl (by decide) ?_
        refine s_iast (k := i) (q := 34) hX dX4_empty_33 rfl (by assumption) rfl (by omega) (by omega) ?_
        refine s_iinc (q := 37) (v := nI (i + 1)) (lv' := [(0, _), (1, _)]) hX dX4_empty_34 rfl rfl (nI_add (i) 1) (Nat.le_of_ble_eq_true rfl) rfl ?_
        refine s_goto (q := 17) hX dX4_empty_37 rfl ?_
        refine ih (i + 1) _ (by omega) (by omega) ?_ ?_ ?_ (fun j hj2 => ?_) (fun c hc => ?_)
        · rw [gsr_n _ _ (by omega)]; exact h6
        · rw [gsr_n _ _ (by omega)]; exact h7
        · rw [gsr_n _ _ (by omega)]; exact h8
        · rw [gsr_s]
          by_cases e : j = i
          · subst e; exact pk_us
          · rw [pk_un e]; exact hj j (by omega)
        · rw [gsr_n _ _ (by omega)]; exact hfr c hc
  refine s_aload_n (q := 1) hX dX4_empty_0 rfl rfl ?_
  refine s_iconst (q := 2) (v := 0) hX dX4_empty_1 rfl rfl ?_
  refine s_puti (q := 5) hX dX4_empty_2 rfl gfl_4_30 (by assumption) rfl ?_
  refine s_aload_n (q := 6) hX dX4_empty_5 rfl rfl ?_
  refine s_iconst (q := 7) (v := 0) hX dX4_empty_6 rfl rfl ?_
  refine s_puti (q := 10) hX dX4_empty_7 rfl gfl_4_34 (by assumption) rfl ?_
  refine s_aload_n (q := 11) hX dX4_empty_10 rfl rfl ?_
  refine s_iconst (q := 12) (v := 1) hX dX4_empty_11 rfl rfl ?_
  refine s_puti (q := 15) hX dX4_empty_12 rfl gfl_4_37 (by assumption) rfl ?_
  refine s_iconst (q := 16) (v := 0) hX dX4_empty_15 rfl rfl ?_
  refine s_istore_n (q := 17) (lv' := [(0, _), (1, _)]) hX dX4_empty_16 rfl (Nat.le_of_ble_eq_true rfl) rfl ?_
  refine L 43 0 _ (by omega) (by omega) ?_ ?_ ?_ (fun j hj => by omega) (fun c hc => ?_)
  · simp only [gsr_s, gsr_gsr]; rw [pk_un (by decide), pk_un (by decide), pk_us]; rfl
  · simp only [gsr_s, gsr_gsr]; rw [pk_un (by decide), pk_us]; rfl
  · simp only [gsr_s, gsr_gsr]; rw [pk_us]; rfl
  · rw [gsr_n _ _ (by omega), gsr_n _ _ (by omega), gsr_n _ _ (by omega)]
set_option maxHeartbeats 4000000 in
set_option maxRecDepth 100000 in
theorem c_takePerson {d t f : Nat} {T : gT} {v : Nat → Nat} {sh : List gS} {M : gM} {Q : Option Value → List gS → gM → Prop} (hd : 1 ≤ d) (hT : isTown sh t) (hD : DRF M t T) (hok : T.dr) (hf : sh[f]? = some (.inr (.inl (0, 4)))) (hft : f < t ∨ t + 6 < f) (hv : ∀ s, s < 4 → M f s = nI (v s)) (hv9 : ∀ s, s < 4 → v s ≤ 99) (hn : T.tkP v = none → Q (some (.int 0)) sh M) (hs : ∀ T', T.tkP v = some T' → ∀ M', DRF M' t T' → (∀ c, (c < t ∨ t + 5 < c) → M' c = M c) → Q (some (.int 1)) sh M') : gC mX4_takePerson d 0 0 [.ref t, .ref f] sh M Q := by
  obtain ⟨z0, z1, z2, z3, z4, z5, z6⟩ := hT
  obtain ⟨⟨w1, w2, w3, w4, w5, w6, w7, w8⟩, hp⟩ := hD
  obtain ⟨⟨o1, o2, o3, o4, o5, o6, o7, o8⟩, op⟩ := hok
  have e0 := hv 0 (by omega)
  have b0 := hv9 0 (by omega)
  have e1 := hv 1 (by omega)
  have b1 := hv9 1 (by omega)
  have e2 := hv 2 (by omega)
  have b2 := hv9 2 (by omega)
  have e3 := hv 3 (by omega)
  have b3 := hv9 3 (by omega)
  unfold gT.tkP at hn hs
  refine gC_of (rt := 2) (ini := false) gm_X4_takePerson rfl (by decide) (Nat.le_of_ble_eq_true rfl) (fun X hX => ?_)
  refine s_aload_n (q := 1) hX dX4_takePerson_0 rfl rfl ?_
  refine s_geti (q := 4) hX dX4_takePerson_1 rfl gfl_4_30 (by assumption) rfl ?_
  refine s_topi (v := nI (T.P)) w1 ?_
  refine s_bipush (q := 6) (v := 6) hX dX4_takePerson_4 rfl rfl (by decide) ?_
  refine s_nicmp_ge (a := T.P) (b := 6) (q := 9) (r := 26) hX dX4_takePerson_6 rfl rfl rfl rfl (by omega) (by omega) (fun c6 => ?_) (fun c6 => ?_)
  · refine s_iconst (q := 27) (v := 0) hX dX4_takePerson_26 rfl rfl ?_
    refine s_iret hX dX4_takePerson_27 (Or.inr ⟨rfl, Or.inl rfl⟩) ⟨Nat.le_refl _, Nat.le_refl _, Nat.le_refl _, ?_⟩
    first
      | exact hn (if_neg (by omega))
      | (have c23f : ¬ (v 1 ≤ 9 ∧ v 2 ≤ 9 ∧ v 3 ≤ 9) := gif_f2 c23
         exact hn (if_neg (by omega)))
  · refine s_aload_n (q := 10) hX dX4_takePerson_9 rfl rfl ?_
    refine s_iconst (q := 11) (v := 0) hX dX4_takePerson_10 rfl rfl ?_
    refine s_iald (k := 0) (q := 12) hX dX4_takePerson_11 rfl (by assumption) rfl (by omega) (by omega) ?_
    refine s_topi (v := nI (v 0)) e0 ?_
    refine s_iconst (q := 13) (v := 4) hX dX4_takePerson_12 rfl rfl ?_
    refine s_nicmp_gt (a := v 0) (b := 4) (q := 16) (r := 26) hX dX4_takePerson_13 rfl rfl rfl rfl (by omega) (by omega) (fun c13 => ?_) (fun c13 => ?_)
    · refine s_iconst (q := 27) (v := 0) hX dX4_takePerson_26 rfl rfl ?_
      refine s_iret hX dX4_takePerson_27 (Or.inr ⟨rfl, Or.inl rfl⟩) ⟨Nat.le_refl _, Nat.le_refl _, Nat.le_refl _, ?_⟩
      first
        | exact hn (if_neg (by omega))
        | (have c23f : ¬ (v 1 ≤ 9 ∧ v 2 ≤ 9 ∧ v 3 ≤ 9) := gif_f2 c23
           exact hn (if_neg (by omega)))
    · refine s_bipush (q := 18) (v := 9) hX dX4_takePerson_16 rfl rfl (by decide) ?_
      refine s_aload_n (q := 19) hX dX4_takePerson_18 rfl rfl ?_
      refine s_iconst (q := 20) (v := 1) hX dX4_takePerson_19 rfl rfl ?_
      refine s_invs3_1 (q := 23) hX dX4_takePerson_20 rfl glk_4_53 (by decide) (Nat.le_of_ble_eq_true rfl) ⟨Nat.le_refl _, Nat.le_refl _⟩ (by omega) (c_eachUpTo (d := 0) (m := 9) (a := 1) (v := v) hf (by omega) (by omega) (by omega) (fun s hs => by rcases (show s = 0 ∨ s = 1 ∨ s = 2 by omega) with rfl | rfl | rfl; exact e1; exact e2; exact e3) (fun s hs => hv9 _ (by omega)) ?_) 
      refine ⟨_, rfl, ?_⟩
      refine s_if_ne (q := 26) (r := 28) hX dX4_takePerson_23 rfl rfl (fun c23 => ?_) (fun c23 => ?_)
      · have c23t : v 1 ≤ 9 ∧ v 2 ≤ 9 ∧ v 3 ≤ 9 := gif_t c23
        refine s_aload_n (q := 29) hX dX4_takePerson_28 rfl rfl ?_
        refine s_getr (q := 32) hX dX4_takePerson_29 rfl gfl_4_9 (by assumption) rfl ?_
        refine s_aload_n (q := 33) hX dX4_takePerson_32 rfl rfl ?_
        refine s_geti (q := 36) hX dX4_takePerson_33 rfl gfl_4_30 (by assumption) rfl ?_
        refine s_topi (v := nI (T.P)) w1 ?_
        refine s_aload_n (q := 37) hX dX4_takePerson_36 rfl rfl ?_
        refine s_iconst (q := 38) (v := 0) hX dX4_takePerson_37 rfl rfl ?_
        refine s_iald (k := 0) (q := 39) hX dX4_takePerson_38 rfl (by assumption) rfl (by omega) (by omega) ?_
        refine s_topi (v := nI (v 0)) e0 ?_
        refine s_iast (k := T.P) (q := 40) hX dX4_takePerson_39 rfl (by assumption) rfl (by omega) (by omega) ?_
        refine s_aload_n (q := 41) hX dX4_takePerson_40 rfl rfl ?_
        refine s_iconst (q := 42) (v := 1) hX dX4_takePerson_41 rfl rfl ?_
        refine s_aload_n (q := 43) hX dX4_takePerson_42 rfl rfl ?_
        refine s_getr (q := 46) hX dX4_takePerson_43 rfl gfl_4_15 (by assumption) rfl ?_
        refine s_aload_n (q := 47) hX dX4_takePerson_46 rfl rfl ?_
        refine s_geti (q := 50) hX dX4_takePerson_47 rfl gfl_4_30 (by assumption) rfl ?_
        refine s_topi (v := nI (T.P)) (by rw [gsr_n _ _ (by omega)]; exact w1) ?_
        refine s_iconst (q := 51) (v := 3) hX dX4_takePerson_50 rfl rfl ?_
        refine s_imul (q := 52) (v := nI ((T.P) * 3)) hX dX4_takePerson_51 rfl (pk_mul (T.P) (3)) ?_
        refine s_iconst (q := 53) (v := 3) hX dX4_takePerson_52 rfl rfl ?_
        refine s_cpy (k0 := 1) (k1 := (T.P) * 3) (n := 3) (q := 56) hX dX4_takePerson_53 rfl glk_4_57 (by omega) (Nat.le_of_ble_eq_true rfl) (by assumption) (by assumption) rfl rfl rfl (by omega) (by omega) (by omega) (by omega) ?_
        refine s_aload_n (q := 57) hX dX4_takePerson_56 rfl rfl ?_
        refine s_dup (q := 58) hX dX4_takePerson_57 rfl rfl ?_
        refine s_geti (q := 61) hX dX4_takePerson_58 rfl gfl_4_30 (by assumption) rfl ?_
        refine s_topi (v := nI (T.P)) (by rw [gsr_n _ _ (by omega), gsr_n _ _ (by omega)]; exact w1) ?_
        refine s_iconst (q := 62) (v := 1) hX dX4_takePerson_61 rfl rfl ?_
        refine s_iadd (q := 63) (v := nI (T.P + 1)) hX dX4_takePerson_62 rfl (nI_add (T.P) (1)) ?_
        refine s_puti (q := 66) hX dX4_takePerson_63 rfl gfl_4_30 (by assumption) rfl ?_
        refine s_iconst (q := 67) (v := 1) hX dX4_takePerson_66 rfl rfl ?_
        refine s_iret hX dX4_takePerson_67 (Or.inr ⟨rfl, Or.inr rfl⟩) ⟨Nat.le_refl _, Nat.le_refl _, Nat.le_refl _, ?_⟩
        refine hs _ (if_pos ⟨by omega, by omega, by omega, by omega, by omega⟩) _ ⟨⟨?_, ?_, ?_, fun i hi => ?_, fun j hj => ?_, fun j hj => ?_, fun j hj => ?_, fun j hj => ?_⟩, fun j h1 h2 => ?_⟩ (fun c hc => ?_)
        · rw [gsr_s, pk_us]; rfl
        · rw [gsr_s, pk_un (by decide), gsr_n _ _ (by omega), gsr_n _ _ (by omega)]; exact w2
        · rw [gsr_s, pk_un (by decide), gsr_n _ _ (by omega), gsr_n _ _ (by omega)]; exact w3
        · rw [gsr_n _ _ (by omega), gsr_n _ _ (by omega), gsr_s]
          show _ = nI (if i = T.P then v 0 else T.kd i)
          have hi : i < T.P + 1 := hi
          by_cases e : i = T.P
          · rw [if_pos e, e, pk_us]
          · rw [if_neg e, pk_un e]; exact w4 i (by omega)
        · rw [gsr_n _ _ (by omega), gsr_s, gsr_n _ _ (by omega), gsr_n _ _ (by omega)]
          show _ = nI (if j / 3 = T.P then v (j % 3 + 1) else T.ra j)
          have hj : j < 3 * (T.P + 1) := hj
          by_cases e : j / 3 = T.P
          · rw [if_pos e, pk_cpy_in (by omega) (by omega), show 1 + (j - T.P * 3) = j % 3 + 1 by omega]
            exact hv _ (by omega)
          · rw [if_neg e, pk_cpy_out (by omega)]; exact w5 j (by omega)
        · rw [gsr_n _ _ (by omega), gsr_n _ _ (by omega), gsr_n _ _ (by omega)]; exact w6 j hj
        · rw [gsr_n _ _ (by omega), gsr_n _ _ (by omega), gsr_n _ _ (by omega)]; exact w7 j hj
        · rw [gsr_n _ _ (by omega), gsr_n _ _ (by omega), gsr_n _ _ (by omega)]
          have hj : j < 7 * (T.P + 1) := hj
          show _ = T.pl j
          rcases Nat.lt_or_ge j (7 * T.P) with z | z
          · exact w8 j z
          · rw [hp j z (by omega), op j z (by omega)]
        · rw [gsr_n _ _ (by omega), gsr_n _ _ (by omega), gsr_n _ _ (by omega)]
          have h1 : 7 * (T.P + 1) ≤ j := h1
          exact hp j (by omega) h2
        · rw [gsr_n _ _ (by omega), gsr_n _ _ (by omega), gsr_n _ _ (by omega)]
      · refine s_iconst (q := 27) (v := 0) hX dX4_takePerson_26 rfl rfl ?_
        refine s_iret hX dX4_takePerson_27 (Or.inr ⟨rfl, Or.inl rfl⟩) ⟨Nat.le_refl _, Nat.le_refl _, Nat.le_refl _, ?_⟩
        first
          | exact hn (if_neg (by omega))
          | (have c23f : ¬ (v 1 ≤ 9 ∧ v 2 ≤ 9 ∧ v 3 ≤ 9) := gif_f2 c23
             exact hn (if_neg (by omega)))
set_option maxHeartbeats 4000000 in
set_option maxRecDepth 100000 in
theorem c_takeDeed {d t f : Nat} {T : gT} {v : Nat → Nat} {sh : List gS} {M : gM} {Q : Option Value → List gS → gM → Prop} (hd : 1 ≤ d) (hT : isTown sh t) (hD : DRF M t T) (hok : T.dr) (hf : sh[f]? = some (.inr (.inl (0, 4)))) (hft : f < t ∨ t + 6 < f) (hv : ∀ s, s < 4 → M f s = nI (v s)) (hv9 : ∀ s, s < 4 → v s ≤ 99) (hn : T.tkD v = none → Q (some (.int 0)) sh M) (hs : ∀ T', T.tkD v = some T' → ∀ M', DRF M' t T' → (∀ c, (c < t ∨ t + 5 < c) → M' c = M c) → Q (some (.int 1)) sh M') : gC mX4_takeDeed d 0 0 [.ref t, .ref f] sh M Q := by
  obtain ⟨z0, z1, z2, z3, z4, z5, z6⟩ := hT
  obtain ⟨⟨w1, w2, w3, w4, w5, w6, w7, w8⟩, hp⟩ := hD
  obtain ⟨⟨o1, o2, o3, o4, o5, o6, o7, o8⟩, op⟩ := hok
  have e0 := hv 0 (by omega)
  have b0 := hv9 0 (by omega)
  have e1 := hv 1 (by omega)
  have b1 := hv9 1 (by omega)
  have e2 := hv 2 (by omega)
  have b2 := hv9 2 (by omega)
  have e3 := hv 3 (by omega)
  have b3 := hv9 3 (by omega)
  unfold gT.tkD at hn hs
  refine gC_of (rt := 2) (ini := false) gm_X4_takeDeed rfl (by decide) (Nat.le_of_ble_eq_true rfl) (fun X hX => ?_)
  refine s_aload_n (q := 1) hX dX4_takeDeed_0 rfl rfl ?_
  refine s_geti (q := 4) hX dX4_takeDeed_1 rfl gfl_4_34 (by assumption) rfl ?_
  refine s_topi (v := nI (T.D)) w2 ?_
  refine s_bipush (q := 6) (v := 6) hX dX4_takeDeed_4 rfl rfl (by decide) ?_
  refine s_nicmp_ge (a := T.D) (b := 6) (q := 9) (r := 41) hX dX4_takeDeed_6 rfl rfl rfl rfl (by omega) (by omega) (fun c6 => ?_) (fun c6 => ?_)
  · refine s_iconst (q := 42) (v := 0) hX dX4_takeDeed_41 rfl rfl ?_
    refine s_iret hX dX4_takeDeed_42 (Or.inr ⟨rfl, Or.inl rfl⟩) ⟨Nat.le_refl _, Nat.le_refl _, Nat.le_refl _, ?_⟩
    first
      | exact hn (if_neg (by omega))
      | (have c15f : ¬ (v 0 ≤ 4 ∧ v 1 ≤ 4 ∧ v 2 ≤ 4) := gif_f c15
         exact hn (if_neg (by omega)))
  · refine s_iconst (q := 10) (v := 4) hX dX4_takeDeed_9 rfl rfl ?_
    refine s_aload_n (q := 11) hX dX4_takeDeed_10 rfl rfl ?_
    refine s_iconst (q := 12) (v := 0) hX dX4_takeDeed_11 rfl rfl ?_
    refine s_invs3_1 (q := 15) hX dX4_takeDeed_12 rfl glk_4_53 (by decide) (Nat.le_of_ble_eq_true rfl) ⟨Nat.le_refl _, Nat.le_refl _⟩ (by omega) (c_eachUpTo (d := 0) (m := 4) (a := 0) (v := v) hf (by omega) (by omega) (by omega) (fun s hs => by rw [Nat.zero_add]; exact hv s (by omega)) (fun s hs => hv9 _ (by omega)) ?_) 
    refine ⟨_, rfl, ?_⟩
    refine s_if_eq (q := 18) (r := 41) hX dX4_takeDeed_15 rfl rfl (fun c15 => ?_) (fun c15 => ?_)
    · refine s_iconst (q := 42) (v := 0) hX dX4_takeDeed_41 rfl rfl ?_
      refine s_iret hX dX4_takeDeed_42 (Or.inr ⟨rfl, Or.inl rfl⟩) ⟨Nat.le_refl _, Nat.le_refl _, Nat.le_refl _, ?_⟩
      first
        | exact hn (if_neg (by omega))
        | (have c15f : ¬ (v 0 ≤ 4 ∧ v 1 ≤ 4 ∧ v 2 ≤ 4) := gif_f c15
           exact hn (if_neg (by omega)))
    · have c15t : v 0 ≤ 4 ∧ v 1 ≤ 4 ∧ v 2 ≤ 4 := gif_t c15
      refine s_aload_n (q := 19) hX dX4_takeDeed_18 rfl rfl ?_
      refine s_iconst (q := 20) (v := 3) hX dX4_takeDeed_19 rfl rfl ?_
      refine s_iald (k := 3) (q := 21) hX dX4_takeDeed_20 rfl (by assumption) rfl (by omega) (by omega) ?_
      refine s_topi (v := nI (v 3)) e3 ?_
      refine s_bipush (q := 23) (v := 9) hX dX4_takeDeed_21 rfl rfl (by decide) ?_
      refine s_nicmp_gt (a := v 3) (b := 9) (q := 26) (r := 41) hX dX4_takeDeed_23 rfl rfl rfl rfl (by omega) (by omega) (fun c23 => ?_) (fun c23 => ?_)
      · refine s_iconst (q := 42) (v := 0) hX dX4_takeDeed_41 rfl rfl ?_
        refine s_iret hX dX4_takeDeed_42 (Or.inr ⟨rfl, Or.inl rfl⟩) ⟨Nat.le_refl _, Nat.le_refl _, Nat.le_refl _, ?_⟩
        first
          | exact hn (if_neg (by omega))
          | (have c15f : ¬ (v 0 ≤ 4 ∧ v 1 ≤ 4 ∧ v 2 ≤ 4) := gif_f c15
             exact hn (if_neg (by omega)))
      · refine s_aload_n (q := 27) hX dX4_takeDeed_26 rfl rfl ?_
        refine s_iconst (q := 28) (v := 0) hX dX4_takeDeed_27 rfl rfl ?_
        refine s_iald (k := 0) (q := 29) hX dX4_takeDeed_28 rfl (by assumption) rfl (by omega) (by omega) ?_
        refine s_topi (v := nI (v 0)) e0 ?_
        refine s_aload_n (q := 30) hX dX4_takeDeed_29 rfl rfl ?_
        refine s_iconst (q := 31) (v := 1) hX dX4_takeDeed_30 rfl rfl ?_
        refine s_iald (k := 1) (q := 32) hX dX4_takeDeed_31 rfl (by assumption) rfl (by omega) (by omega) ?_
        refine s_topi (v := nI (v 1)) e1 ?_
        refine s_iadd (q := 33) (v := nI (v 0 + (v 1))) hX dX4_takeDeed_32 rfl (nI_add (v 0) (v 1)) ?_
        refine s_aload_n (q := 34) hX dX4_takeDeed_33 rfl rfl ?_
        refine s_iconst (q := 35) (v := 2) hX dX4_takeDeed_34 rfl rfl ?_
        refine s_iald (k := 2) (q := 36) hX dX4_takeDeed_35 rfl (by assumption) rfl (by omega) (by omega) ?_
        refine s_topi (v := nI (v 2)) e2 ?_
        refine s_iadd (q := 37) (v := nI (v 0 + (v 1) + (v 2))) hX dX4_takeDeed_36 rfl (nI_add (v 0 + (v 1)) (v 2)) ?_
        refine s_iconst (q := 38) (v := 1) hX dX4_takeDeed_37 rfl rfl ?_
        refine s_nicmp_ge (a := v 0 + (v 1) + (v 2)) (b := 1) (q := 41) (r := 43) hX dX4_takeDeed_38 rfl rfl rfl rfl (by omega) (by omega) (fun c38 => ?_) (fun c38 => ?_)
        · refine s_aload_n (q := 44) hX dX4_takeDeed_43 rfl rfl ?_
          refine s_iconst (q := 45) (v := 0) hX dX4_takeDeed_44 rfl rfl ?_
          refine s_aload_n (q := 46) hX dX4_takeDeed_45 rfl rfl ?_
          refine s_getr (q := 49) hX dX4_takeDeed_46 rfl gfl_4_18 (by assumption) rfl ?_
          refine s_aload_n (q := 50) hX dX4_takeDeed_49 rfl rfl ?_
          refine s_geti (q := 53) hX dX4_takeDeed_50 rfl gfl_4_34 (by assumption) rfl ?_
          refine s_topi (v := nI (T.D)) w2 ?_
          refine s_iconst (q := 54) (v := 3) hX dX4_takeDeed_53 rfl rfl ?_
          refine s_imul (q := 55) (v := nI ((T.D) * 3)) hX dX4_takeDeed_54 rfl (pk_mul (T.D) (3)) ?_
          refine s_iconst (q := 56) (v := 3) hX dX4_takeDeed_55 rfl rfl ?_
          refine s_cpy (k0 := 0) (k1 := (T.D) * 3) (n := 3) (q := 59) hX dX4_takeDeed_56 rfl glk_4_57 (by omega) (Nat.le_of_ble_eq_true rfl) (by assumption) (by assumption) rfl rfl rfl (by omega) (by omega) (by omega) (by omega) ?_
          refine s_aload_n (q := 60) hX dX4_takeDeed_59 rfl rfl ?_
          refine s_getr (q := 63) hX dX4_takeDeed_60 rfl gfl_4_21 (by assumption) rfl ?_
          refine s_aload_n (q := 64) hX dX4_takeDeed_63 rfl rfl ?_
          refine s_geti (q := 67) hX dX4_takeDeed_64 rfl gfl_4_34 (by assumption) rfl ?_
          refine s_topi (v := nI (T.D)) (by rw [gsr_n _ _ (by omega)]; exact w2) ?_
          refine s_aload_n (q := 68) hX dX4_takeDeed_67 rfl rfl ?_
          refine s_iconst (q := 69) (v := 3) hX dX4_takeDeed_68 rfl rfl ?_
          refine s_iald (k := 3) (q := 70) hX dX4_takeDeed_69 rfl (by assumption) rfl (by omega) (by omega) ?_
          refine s_topi (v := nI (v 3)) (by rw [gsr_n _ _ (by omega)]; exact e3) ?_
          refine s_iast (k := T.D) (q := 71) hX dX4_takeDeed_70 rfl (by assumption) rfl (by omega) (by omega) ?_
          refine s_aload_n (q := 72) hX dX4_takeDeed_71 rfl rfl ?_
          refine s_dup (q := 73) hX dX4_takeDeed_72 rfl rfl ?_
          refine s_geti (q := 76) hX dX4_takeDeed_73 rfl gfl_4_34 (by assumption) rfl ?_
          refine s_topi (v := nI (T.D)) (by rw [gsr_n _ _ (by omega), gsr_n _ _ (by omega)]; exact w2) ?_
          refine s_iconst (q := 77) (v := 1) hX dX4_takeDeed_76 rfl rfl ?_
          refine s_iadd (q := 78) (v := nI (T.D + 1)) hX dX4_takeDeed_77 rfl (nI_add (T.D) (1)) ?_
          refine s_puti (q := 81) hX dX4_takeDeed_78 rfl gfl_4_34 (by assumption) rfl ?_
          refine s_iconst (q := 82) (v := 1) hX dX4_takeDeed_81 rfl rfl ?_
          refine s_iret hX dX4_takeDeed_82 (Or.inr ⟨rfl, Or.inr rfl⟩) ⟨Nat.le_refl _, Nat.le_refl _, Nat.le_refl _, ?_⟩
          refine hs _ (if_pos ⟨by omega, by omega, by omega, by omega, by omega, by omega⟩) _ ⟨⟨?_, ?_, ?_, fun i hi => ?_, fun j hj => ?_, fun j hj => ?_, fun j hj => ?_, fun j hj => ?_⟩, fun j h1 h2 => ?_⟩ (fun c hc => ?_)
          · rw [gsr_s, pk_un (by decide), gsr_n _ _ (by omega), gsr_n _ _ (by omega)]; exact w1
          · rw [gsr_s, pk_us]; rfl
          · rw [gsr_s, pk_un (by decide), gsr_n _ _ (by omega), gsr_n _ _ (by omega)]; exact w3
          · rw [gsr_n _ _ (by omega), gsr_n _ _ (by omega), gsr_n _ _ (by omega)]; exact w4 i hi
          · rw [gsr_n _ _ (by omega), gsr_n _ _ (by omega), gsr_n _ _ (by omega)]; exact w5 j hj
          · rw [gsr_n _ _ (by omega), gsr_n _ _ (by omega), gsr_s]
            show _ = nI (if j / 3 = T.D then v (j % 3) else T.co j)
            have hj : j < 3 * (T.D + 1) := hj
            by_cases e : j / 3 = T.D
            · rw [if_pos e, pk_cpy_in (by omega) (by omega), show 0 + (j - T.D * 3) = j % 3 by omega]
              exact hv _ (by omega)
            · rw [if_neg e, pk_cpy_out (by omega)]; exact w6 j (by omega)
          · rw [gsr_n _ _ (by omega), gsr_s]
            show _ = nI (if j = T.D then v 3 else T.wo j)
            have hj : j < T.D + 1 := hj
            by_cases e : j = T.D
            · rw [if_pos e, e, pk_us]
            · rw [if_neg e, pk_un e, gsr_n _ _ (by omega)]; exact w7 j (by omega)
          · rw [gsr_n _ _ (by omega), gsr_n _ _ (by omega), gsr_n _ _ (by omega)]; exact w8 j hj
          · rw [gsr_n _ _ (by omega), gsr_n _ _ (by omega), gsr_n _ _ (by omega)]; exact hp j h1 h2
          · rw [gsr_n _ _ (by omega), gsr_n _ _ (by omega), gsr_n _ _ (by omega)]
        · refine s_iconst (q := 42) (v := 0) hX dX4_takeDeed_41 rfl rfl ?_
          refine s_iret hX dX4_takeDeed_42 (Or.inr ⟨rfl, Or.inl rfl⟩) ⟨Nat.le_refl _, Nat.le_refl _, Nat.le_refl _, ?_⟩
          first
            | exact hn (if_neg (by omega))
            | (have c15f : ¬ (v 0 ≤ 4 ∧ v 1 ≤ 4 ∧ v 2 ≤ 4) := gif_f c15
               exact hn (if_neg (by omega)))
set_option maxHeartbeats 4000000 in
set_option maxRecDepth 100000 in
theorem c_takeHabit {d t f : Nat} {T : gT} {v : Nat → Nat} {sh : List gS} {M : gM} {Q : Option Value → List gS → gM → Prop} (hT : isTown sh t) (hD : DRF M t T) (hok : T.dr) (hf : sh[f]? = some (.inr (.inl (0, 4)))) (hft : f < t ∨ t + 6 < f) (hv : ∀ s, s < 3 → M f s = nI (v s)) (hv9 : ∀ s, s < 3 → v s ≤ 99) (hn : T.tkH v = none → Q (some (.int 0)) sh M) (hs : ∀ T', T.tkH v = some T' → ∀ M', DRF M' t T' → (∀ c, (c < t ∨ t + 5 < c) → M' c = M c) → Q (some (.int 1)) sh M') : gC mX4_takeHabit d 0 0 [.ref t, .ref f] sh M Q := by
  obtain ⟨z0, z1, z2, z3, z4, z5, z6⟩ := hT
  obtain ⟨⟨w1, w2, w3, w4, w5, w6, w7, w8⟩, hp⟩ := hD
  obtain ⟨⟨o1, o2, o3, o4, o5, o6, o7, o8⟩, op⟩ := hok
  have e0 := hv 0 (by omega)
  have b0 := hv9 0 (by omega)
  have e1 := hv 1 (by omega)
  have b1 := hv9 1 (by omega)
  have e2 := hv 2 (by omega)
  have b2 := hv9 2 (by omega)
  unfold gT.tkH at hn hs
  refine gC_of (rt := 2) (ini := false) gm_X4_takeHabit rfl (by decide) (Nat.le_of_ble_eq_true rfl) (fun X hX => ?_)
  refine s_aload_n (q := 1) hX dX4_takeHabit_0 rfl rfl ?_
  refine s_iconst (q := 2) (v := 0) hX dX4_takeHabit_1 rfl rfl ?_
  refine s_iald (k := 0) (q := 3) hX dX4_takeHabit_2 rfl (by assumption) rfl (by omega) (by omega) ?_
  refine s_topi (v := nI (v 0)) e0 ?_
  refine s_aload_n (q := 4) hX dX4_takeHabit_3 rfl rfl ?_
  refine s_geti (q := 7) hX dX4_takeHabit_4 rfl gfl_4_30 (by assumption) rfl ?_
  refine s_topi (v := nI (T.P)) w1 ?_
  refine s_nicmp_ge (a := v 0) (b := T.P) (q := 10) (r := 28) hX dX4_takeHabit_7 rfl rfl rfl rfl (by omega) (by omega) (fun c7 => ?_) (fun c7 => ?_)
  · refine s_iconst (q := 29) (v := 0) hX dX4_takeHabit_28 rfl rfl ?_
    refine s_iret hX dX4_takeHabit_29 (Or.inr ⟨rfl, Or.inl rfl⟩) ⟨Nat.le_refl _, Nat.le_refl _, Nat.le_refl _, ?_⟩
    exact hn (if_neg (by omega))
  · refine s_aload_n (q := 11) hX dX4_takeHabit_10 rfl rfl ?_
    refine s_iconst (q := 12) (v := 1) hX dX4_takeHabit_11 rfl rfl ?_
    refine s_iald (k := 1) (q := 13) hX dX4_takeHabit_12 rfl (by assumption) rfl (by omega) (by omega) ?_
    refine s_topi (v := nI (v 1)) e1 ?_
    refine s_bipush (q := 15) (v := 7) hX dX4_takeHabit_13 rfl rfl (by decide) ?_
    refine s_nicmp_ge (a := v 1) (b := 7) (q := 18) (r := 28) hX dX4_takeHabit_15 rfl rfl rfl rfl (by omega) (by omega) (fun c15 => ?_) (fun c15 => ?_)
    · refine s_iconst (q := 29) (v := 0) hX dX4_takeHabit_28 rfl rfl ?_
      refine s_iret hX dX4_takeHabit_29 (Or.inr ⟨rfl, Or.inl rfl⟩) ⟨Nat.le_refl _, Nat.le_refl _, Nat.le_refl _, ?_⟩
      exact hn (if_neg (by omega))
    · refine s_aload_n (q := 19) hX dX4_takeHabit_18 rfl rfl ?_
      refine s_iconst (q := 20) (v := 2) hX dX4_takeHabit_19 rfl rfl ?_
      refine s_iald (k := 2) (q := 21) hX dX4_takeHabit_20 rfl (by assumption) rfl (by omega) (by omega) ?_
      refine s_topi (v := nI (v 2)) e2 ?_
      refine s_aload_n (q := 22) hX dX4_takeHabit_21 rfl rfl ?_
      refine s_geti (q := 25) hX dX4_takeHabit_22 rfl gfl_4_34 (by assumption) rfl ?_
      refine s_topi (v := nI (T.D)) w2 ?_
      refine s_nicmp_lt (a := v 2) (b := T.D) (q := 28) (r := 30) hX dX4_takeHabit_25 rfl rfl rfl rfl (by omega) (by omega) (fun c25 => ?_) (fun c25 => ?_)
      · refine s_aload_n (q := 31) hX dX4_takeHabit_30 rfl rfl ?_
        refine s_getr (q := 34) hX dX4_takeHabit_31 rfl gfl_4_24 (by assumption) rfl ?_
        refine s_aload_n (q := 35) hX dX4_takeHabit_34 rfl rfl ?_
        refine s_iconst (q := 36) (v := 0) hX dX4_takeHabit_35 rfl rfl ?_
        refine s_iald (k := 0) (q := 37) hX dX4_takeHabit_36 rfl (by assumption) rfl (by omega) (by omega) ?_
        refine s_topi (v := nI (v 0)) e0 ?_
        refine s_bipush (q := 39) (v := 7) hX dX4_takeHabit_37 rfl rfl (by decide) ?_
        refine s_imul (q := 40) (v := nI ((v 0) * 7)) hX dX4_takeHabit_39 rfl (pk_mul (v 0) (7)) ?_
        refine s_aload_n (q := 41) hX dX4_takeHabit_40 rfl rfl ?_
        refine s_iconst (q := 42) (v := 1) hX dX4_takeHabit_41 rfl rfl ?_
        refine s_iald (k := 1) (q := 43) hX dX4_takeHabit_42 rfl (by assumption) rfl (by omega) (by omega) ?_
        refine s_topi (v := nI (v 1)) e1 ?_
        refine s_iadd (q := 44) (v := nI ((v 0) * 7 + (v 1))) hX dX4_takeHabit_43 rfl (nI_add ((v 0) * 7) (v 1)) ?_
        refine s_aload_n (q := 45) hX dX4_takeHabit_44 rfl rfl ?_
        refine s_iconst (q := 46) (v := 2) hX dX4_takeHabit_45 rfl rfl ?_
        refine s_iald (k := 2) (q := 47) hX dX4_takeHabit_46 rfl (by assumption) rfl (by omega) (by omega) ?_
        refine s_topi (v := nI (v 2)) e2 ?_
        refine s_iast (k := (v 0) * 7 + (v 1)) (q := 48) hX dX4_takeHabit_47 rfl (by assumption) rfl (by omega) (by omega) ?_
        refine s_iconst (q := 49) (v := 1) hX dX4_takeHabit_48 rfl rfl ?_
        refine s_iret hX dX4_takeHabit_49 (Or.inr ⟨rfl, Or.inr rfl⟩) ⟨Nat.le_refl _, Nat.le_refl _, Nat.le_refl _, ?_⟩
        refine hs _ (if_pos ⟨by omega, by omega, by omega⟩) _ ⟨⟨?_, ?_, ?_, fun i hi => ?_, fun j hj => ?_, fun j hj => ?_, fun j hj => ?_, fun j hj => ?_⟩, fun j h1 h2 => ?_⟩ (fun c hc => gsr_n _ _ (by omega))
        · rw [gsr_n _ _ (by omega)]; exact w1
        · rw [gsr_n _ _ (by omega)]; exact w2
        · rw [gsr_n _ _ (by omega)]; exact w3
        · rw [gsr_n _ _ (by omega)]; exact w4 i hi
        · rw [gsr_n _ _ (by omega)]; exact w5 j hj
        · rw [gsr_n _ _ (by omega)]; exact w6 j hj
        · rw [gsr_n _ _ (by omega)]; exact w7 j hj
        · rw [gsr_s]
          show _ = (if j = 7 * v 0 + v 1 then nI (v 2) else T.pl j)
          by_cases e : j = 7 * v 0 + v 1
          · rw [if_pos e, e, show 7 * v 0 + v 1 = v 0 * 7 + v 1 by omega, pk_us]
          · rw [if_neg e, pk_un (by omega)]; exact w8 j hj
        · have h1 : 7 * T.P ≤ j := h1
          rw [gsr_s, pk_un (by omega)]; exact hp j h1 h2
      · refine s_iconst (q := 29) (v := 0) hX dX4_takeHabit_28 rfl rfl ?_
        refine s_iret hX dX4_takeHabit_29 (Or.inr ⟨rfl, Or.inl rfl⟩) ⟨Nat.le_refl _, Nat.le_refl _, Nat.le_refl _, ?_⟩
        exact hn (if_neg (by omega))
set_option maxHeartbeats 4000000 in
set_option maxRecDepth 100000 in
theorem c_takePrice {d t f : Nat} {T : gT} {v : Nat → Nat} {sh : List gS} {M : gM} {Q : Option Value → List gS → gM → Prop} (hT : isTown sh t) (hD : DRF M t T) (hok : T.dr) (hf : sh[f]? = some (.inr (.inl (0, 4)))) (hft : f < t ∨ t + 6 < f) (hv : ∀ s, s < 1 → M f s = nI (v s)) (hv9 : ∀ s, s < 1 → v s ≤ 99) (hn : T.tkC v = none → Q (some (.int 0)) sh M) (hs : ∀ T', T.tkC v = some T' → ∀ M', DRF M' t T' → (∀ c, (c < t ∨ t + 5 < c) → M' c = M c) → Q (some (.int 1)) sh M') : gC mX4_takePrice d 0 0 [.ref t, .ref f] sh M Q := by
  obtain ⟨z0, z1, z2, z3, z4, z5, z6⟩ := hT
  obtain ⟨⟨w1, w2, w3, w4, w5, w6, w7, w8⟩, hp⟩ := hD
  obtain ⟨⟨o1, o2, o3, o4, o5, o6, o7, o8⟩, op⟩ := hok
  have e0 := hv 0 (by omega)
  have b0 := hv9 0 (by omega)
  unfold gT.tkC at hn hs
  refine gC_of (rt := 2) (ini := false) gm_X4_takePrice rfl (by decide) (Nat.le_of_ble_eq_true rfl) (fun X hX => ?_)
  refine s_aload_n (q := 1) hX dX4_takePrice_0 rfl rfl ?_
  refine s_iconst (q := 2) (v := 0) hX dX4_takePrice_1 rfl rfl ?_
  refine s_iald (k := 0) (q := 3) hX dX4_takePrice_2 rfl (by assumption) rfl (by omega) (by omega) ?_
  refine s_topi (v := nI (v 0)) e0 ?_
  refine s_bipush (q := 5) (v := 9) hX dX4_takePrice_3 rfl rfl (by decide) ?_
  refine s_nicmp_le (a := v 0) (b := 9) (q := 8) (r := 10) hX dX4_takePrice_5 rfl rfl rfl rfl (by omega) (by omega) (fun c5 => ?_) (fun c5 => ?_)
  · refine s_aload_n (q := 11) hX dX4_takePrice_10 rfl rfl ?_
    refine s_aload_n (q := 12) hX dX4_takePrice_11 rfl rfl ?_
    refine s_iconst (q := 13) (v := 0) hX dX4_takePrice_12 rfl rfl ?_
    refine s_iald (k := 0) (q := 14) hX dX4_takePrice_13 rfl (by assumption) rfl (by omega) (by omega) ?_
    refine s_topi (v := nI (v 0)) e0 ?_
    refine s_puti (q := 17) hX dX4_takePrice_14 rfl gfl_4_37 (by assumption) rfl ?_
    refine s_iconst (q := 18) (v := 1) hX dX4_takePrice_17 rfl rfl ?_
    refine s_iret hX dX4_takePrice_18 (Or.inr ⟨rfl, Or.inr rfl⟩) ⟨Nat.le_refl _, Nat.le_refl _, Nat.le_refl _, ?_⟩
    refine hs _ (if_pos (by omega)) _ ⟨⟨?_, ?_, ?_, fun i hi => ?_, fun j hj => ?_, fun j hj => ?_, fun j hj => ?_, fun j hj => ?_⟩, fun j h1 h2 => ?_⟩ (fun c hc => gsr_n _ _ (by omega))
    · rw [gsr_s, pk_un (by decide)]; exact w1
    · rw [gsr_s, pk_un (by decide)]; exact w2
    · rw [gsr_s, pk_us]; rfl
    · rw [gsr_n _ _ (by omega)]; exact w4 i hi
    · rw [gsr_n _ _ (by omega)]; exact w5 j hj
    · rw [gsr_n _ _ (by omega)]; exact w6 j hj
    · rw [gsr_n _ _ (by omega)]; exact w7 j hj
    · rw [gsr_n _ _ (by omega)]; exact w8 j hj
    · rw [gsr_n _ _ (by omega)]; exact hp j h1 h2
  · refine s_iconst (q := 9) (v := 0) hX dX4_takePrice_8 rfl rfl ?_
    refine s_iret hX dX4_takePrice_9 (Or.inr ⟨rfl, Or.inl rfl⟩) ⟨Nat.le_refl _, Nat.le_refl _, Nat.le_refl _, ?_⟩
    exact hn (if_neg (by omega))
