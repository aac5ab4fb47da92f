/-! STREET: the end of a day, copies, counts -/
set_option maxHeartbeats 4000000 in
set_option maxRecDepth 100000 in
theorem c_fade {d t s : Nat} {T : gT} {U : gU} {sh : List gS} {M : gM} {Q : Option Value → List gS → gM → Prop} (hd : 1 ≤ d) (hT : isTown sh t) (hW : TWN M t T) (hok : T.ok) (hS : isStreet sh s) (hU : STR M s T.P U) (hUk : U.ok T.P) (hap : apart t s) (hcon : ∀ M', STR M' s T.P (T.sea U) → FR M M' t s → Q none sh M') : gC mX3_fade d 0 0 [.ref s, .ref t] sh M Q := by
  have hT0 := hT
  have hok0 := hok
  have hS0 := hS
  obtain ⟨z0, z1, z2, z3, z4, z5, z6⟩ := hT
  obtain ⟨y0, y1, y2, y3⟩ := hS
  obtain ⟨o1, o2, o3, o4, o5, o6, o7, o8⟩ := hok
  have hap2 := hap
  unfold apart at hap2
  refine gC_of (rt := 0) (ini := false) gm_X3_fade rfl (by decide) (Nat.le_of_ble_eq_true rfl) (fun X hX => ?_)
  have L : ∀ (m i : Nat) (M' : gM), i ≤ T.P → T.P < i + m → STR M' s T.P (T.seaN i U) → FR M M' t s → X 2 [(0, .ref s), (1, .ref t), (2, .int (nI i))] [] sh M' 0 0 := by
    intro m
    induction m with
    | zero => intro i M' h1 h2; omega
    | succ m ih =>
      intro i M' hi hm hU' hF
      have hW' := hF.twn hap hW
      have h99 : ∀ j, j < 3 * T.P → (T.seaN i U).h j ≤ 99 := by
        intro j hj
        have h0 := hUk.1 j hj
        show (if j / 3 < i ∧ T.kd (j / 3) = 2 ∧ j % 3 = 2 then U.h j - 1 else U.h j) ≤ 99
        split
        · exact Nat.le_trans (Nat.sub_le _ _) h0
        · exact h0
      refine s_iload_n (q := 3) hX dX3_fade_2 rfl rfl ?_
      refine s_aload_n (q := 4) hX dX3_fade_3 rfl rfl ?_
      refine s_geti (q := 7) hX dX3_fade_4 rfl gfl_3_65 (by assumption) rfl ?_
      refine s_topi (v := nI (T.P)) hW'.1 ?_
      refine s_nicmp_ge (a := i) (b := T.P) (q := 10) (r := 28) hX dX3_fade_7 rfl rfl rfl rfl (by omega) (by omega) (fun c7 => ?_) (fun c7 => ?_)
      · refine s_ret hX dX3_fade_28 rfl ⟨Nat.le_refl _, Nat.le_refl _, Nat.le_refl _, ?_⟩
        have e : i = T.P := by omega
        subst e
        refine hcon M' ⟨hU'.1, fun j hj => ?_, hU'.2.2.1, hU'.2.2.2⟩ hF
        rw [hU'.2.1 j hj]
        congr 1
        show (if j / 3 < T.P ∧ T.kd (j / 3) = 2 ∧ j % 3 = 2 then U.h j - 1 else U.h j) = if T.kd (j / 3) = 2 ∧ j % 3 = 2 then U.h j - 1 else U.h j
        by_cases e3 : T.kd (j / 3) = 2 ∧ j % 3 = 2
        · rw [if_pos ⟨by omega, e3⟩, if_pos e3]
        · rw [if_neg (fun z => e3 z.2), if_neg e3]
      · refine s_aload_n (q := 11) hX dX3_fade_10 rfl rfl ?_
        refine s_iload_n (q := 12) hX dX3_fade_11 rfl rfl ?_
        refine s_aload_n (q := 13) hX dX3_fade_12 rfl rfl ?_
        refine s_getr (q := 16) hX dX3_fade_13 rfl gfl_3_9 (by assumption) rfl ?_
        refine s_iload_n (q := 17) hX dX3_fade_16 rfl rfl ?_
        refine s_iconst (q := 18) (v := 3) hX dX3_fade_17 rfl rfl ?_
        refine s_imul (q := 19) (v := nI (i * 3)) hX dX3_fade_18 rfl (pk_mul (i) (3)) ?_
        have hx9 := h99 (3 * i + 2)
        refine s_invv3_0 (q := 22) hX dX3_fade_19 rfl glk_3_95 (by assumption) (Nat.le_of_ble_eq_true rfl) ⟨Nat.le_refl _, Nat.le_refl _⟩ (by omega) (c_tfade (d := 0) (x := (T.seaN i U).h (3 * i + 2)) hT0 hW' hok0 (by omega) y1 (by omega) (by omega) (by rw [show i * 3 + 2 = 3 * i + 2 by omega]; exact hU'.2.1 _ (by omega)) (Nat.lt_of_le_of_lt (h99 _ (by omega)) (by omega)) ?_) 
        refine ⟨rfl, ?_⟩
        refine s_iinc (q := 25) (v := nI (i + 1)) (lv' := [(0, _), (1, _), (2, _)]) hX dX3_fade_22 rfl rfl (nI_add (i) 1) (Nat.le_of_ble_eq_true rfl) rfl ?_
        refine s_goto (q := 2) hX dX3_fade_25 rfl ?_
        refine ih (i + 1) _ (by omega) (by omega) ?_ ?_
        · have hx : (T.seaN i U).h (3 * i + 2) = U.h (3 * i + 2) := if_neg (by omega)
          rw [hx]
          have hrow : ∀ j, j < 3 * T.P → (T.seaN (i + 1) U).h j = if j = 3 * i + 2 ∧ T.kd i = 2 then U.h j - 1 else (T.seaN i U).h j := fun j _ => seaN_row T U i j
          by_cases e : T.kd i = 2 ∧ 0 < U.h (3 * i + 2)
          · rw [if_pos e]
            refine ⟨by rw [gsr_n _ _ (by omega)]; exact hU'.1, fun j hj => ?_, fun j hj => by rw [gsr_n _ _ (by omega)]; exact hU'.2.2.1 j hj, fun j hj => by rw [gsr_n _ _ (by omega)]; exact hU'.2.2.2 j hj⟩
            rw [gsr_s, hrow j hj]
            by_cases e2 : j = 3 * i + 2
            · rw [if_pos ⟨e2, e.1⟩, e2, show i * 3 + 2 = 3 * i + 2 by omega, pk_us]
            · rw [if_neg (fun z => e2 z.1), pk_un (by omega)]; exact hU'.2.1 j hj
          · rw [if_neg e]
            refine ⟨hU'.1, fun j hj => ?_, hU'.2.2.1, hU'.2.2.2⟩
            rw [hrow j hj]
            by_cases e2 : j = 3 * i + 2 ∧ T.kd i = 2
            · rw [if_pos e2, hU'.2.1 j hj, e2.1, hx]
              congr 1
              have : ¬ 0 < U.h (3 * i + 2) := fun z => e ⟨e2.2, z⟩
              omega
            · rw [if_neg e2]; exact hU'.2.1 j hj
        · intro c h1 h2
          split
          · rw [gsr_n _ _ (by omega)]; exact hF c h1 h2
          · exact hF c h1 h2
  refine s_iconst (q := 1) (v := 0) hX dX3_fade_0 rfl rfl ?_
  refine s_istore_n (q := 2) (lv' := [(0, _), (1, _), (2, _)]) hX dX3_fade_1 rfl (Nat.le_of_ble_eq_true rfl) rfl ?_
  refine L (T.P + 1) 0 M (by omega) (by omega) ⟨hU.1, fun j hj => ?_, hU.2.2.1, hU.2.2.2⟩ FR.rf
  rw [hU.2.1 j hj]
  congr 1
set_option maxHeartbeats 4000000 in
set_option maxRecDepth 100000 in
theorem c_endDay {d t s : Nat} {T : gT} {U : gU} {sh : List gS} {M : gM} {Q : Option Value → List gS → gM → Prop} (hd : 2 ≤ d) (hT : isTown sh t) (hW : TWN M t T) (hok : T.ok) (hS : isStreet sh s) (hU : STR M s T.P U) (hUk : U.ok T.P) (hap : apart t s) (hcon : ∀ M', STR M' s T.P (T.over U) → FR M M' t s → Q none sh M') : gC mX3_endDay d 0 0 [.ref s, .ref t] sh M Q := by
  have hT0 := hT
  have hok0 := hok
  have hS0 := hS
  obtain ⟨z0, z1, z2, z3, z4, z5, z6⟩ := hT
  obtain ⟨y0, y1, y2, y3⟩ := hS
  obtain ⟨o1, o2, o3, o4, o5, o6, o7, o8⟩ := hok
  have hap2 := hap
  unfold apart at hap2
  have hd9 := hUk.2
  refine gC_of (rt := 0) (ini := false) gm_X3_endDay rfl (by decide) (Nat.le_of_ble_eq_true rfl) (fun X hX => ?_)
  have E : ∀ (h' : Nat → Nat) (M' : gM), STR M' s T.P (h', U.c, U.w, U.d) → FR M M' t s → (∀ j, j < 3 * T.P → h' j = (T.over U).h j) → X 37 [(0, .ref s), (1, .ref t)] [] sh M' 0 0 := by
    intro h' M' hU' hF he
    have hdd : M' s 3 = nI U.d := hU'.1
    refine s_aload_n (q := 38) hX dX3_endDay_37 rfl rfl ?_
    refine s_dup (q := 39) hX dX3_endDay_38 rfl rfl ?_
    refine s_geti (q := 42) hX dX3_endDay_39 rfl gfl_3_21 (by assumption) rfl ?_
    refine s_topi (v := nI (U.d)) hdd ?_
    refine s_iconst (q := 43) (v := 1) hX dX3_endDay_42 rfl rfl ?_
    refine s_iadd (q := 44) (v := nI (U.d + 1)) hX dX3_endDay_43 rfl (nI_add (U.d) (1)) ?_
    refine s_puti (q := 47) hX dX3_endDay_44 rfl gfl_3_21 (by assumption) rfl ?_
    refine s_ret hX dX3_endDay_47 rfl ⟨Nat.le_refl _, Nat.le_refl _, Nat.le_refl _, ?_⟩
    refine hcon _ ⟨?_, fun j hj => ?_, fun j hj => ?_, fun j hj => ?_⟩ ?_
    · rw [gsr_s, pk_us]; rfl
    · rw [gsr_n _ _ (by omega), hU'.2.1 j hj]; congr 1; exact he j hj
    · rw [gsr_n _ _ (by omega)]; exact hU'.2.2.1 j hj
    · rw [gsr_n _ _ (by omega)]; exact hU'.2.2.2 j hj
    · intro c h1 h2
      rw [gsr_n _ _ (by omega)]; exact hF c h1 h2
  have L : ∀ (m i : Nat) (M' : gM), U.d % 7 = 6 → i ≤ T.P → T.P < i + m → STR M' s T.P (T.ovrN i U) → FR M M' t s → X 11 [(0, .ref s), (1, .ref t), (2, .int (nI i))] [] sh M' 0 0 := by
    intro m
    induction m with
    | zero => intro i M' h0 h1 h2; omega
    | succ m ih =>
      intro i M' h6 hi hm hU' hF
      have hW' := hF.twn hap hW
      have hrow : ∀ r, r < 3 → i < T.P → M' (s + 1) (i * 3 + r) = nI (U.tr i r) := by
        intro r hr hi2
        rw [hU'.2.1 _ (by omega)]
        congr 1
        show (if (i * 3 + r) / 3 < i then _ else U.h (i * 3 + r)) = U.h (3 * i + r)
        rw [if_neg (by omega), show i * 3 + r = 3 * i + r by omega]
      refine s_iload_n (q := 12) hX dX3_endDay_11 rfl rfl ?_
      refine s_aload_n (q := 13) hX dX3_endDay_12 rfl rfl ?_
      refine s_geti (q := 16) hX dX3_endDay_13 rfl gfl_3_65 (by assumption) rfl ?_
      refine s_topi (v := nI (T.P)) hW'.1 ?_
      refine s_nicmp_ge (a := i) (b := T.P) (q := 19) (r := 37) hX dX3_endDay_16 rfl rfl rfl rfl (by omega) (by omega) (fun c16 => ?_) (fun c16 => ?_)
      · have e : i = T.P := by omega
        subst e
        refine s_dl hX (E (T.ovrN T.P U).h M' hU' hF (fun j hj => ?_))
        show (if j / 3 < T.P then T.rn (j / 3) (U.tr (j / 3)) (j % 3) else U.h j) = (if U.d % 7 = 6 then (fun j => T.rn (j / 3) (U.tr (j / 3)) (j % 3)) else U.h) j
        rw [if_pos (by omega), if_pos h6]
      · refine s_aload_n (q := 20) hX dX3_endDay_19 rfl rfl ?_
        refine s_iload_n (q := 21) hX dX3_endDay_20 rfl rfl ?_
        refine s_aload_n (q := 22) hX dX3_endDay_21 rfl rfl ?_
        refine s_getr (q := 25) hX dX3_endDay_22 rfl gfl_3_9 (by assumption) rfl ?_
        refine s_iload_n (q := 26) hX dX3_endDay_25 rfl rfl ?_
        refine s_iconst (q := 27) (v := 3) hX dX3_endDay_26 rfl rfl ?_
        refine s_imul (q := 28) (v := nI (i * 3)) hX dX3_endDay_27 rfl (pk_mul (i) (3)) ?_
        refine s_invv3_0 (q := 31) hX dX3_endDay_28 rfl glk_3_98 (by assumption) (Nat.le_of_ble_eq_true rfl) ⟨Nat.le_refl _, Nat.le_refl _⟩ (by omega) (c_renew (d := 1) (h := U.tr i) (Nat.le_refl _) hT0 hW' hok0 (by omega) y1 (by omega) (by omega) (by omega) (fun r hr => hrow r hr (by omega)) (fun r hr => hUk.1 _ (by omega)) (fun g hg hg2 => ?_)) 
        refine ⟨rfl, ?_⟩
        refine s_iinc (q := 34) (v := nI (i + 1)) (lv' := [(0, _), (1, _), (2, _)]) hX dX3_endDay_31 rfl rfl (nI_add (i) 1) (Nat.le_of_ble_eq_true rfl) rfl ?_
        refine s_goto (q := 11) hX dX3_endDay_34 rfl ?_
        refine ih (i + 1) _ h6 (by omega) (by omega) ⟨by rw [gsr_n _ _ (by omega)]; exact hU'.1, fun j hj => ?_, fun j hj => by rw [gsr_n _ _ (by omega)]; exact hU'.2.2.1 j hj, fun j hj => by rw [gsr_n _ _ (by omega)]; exact hU'.2.2.2 j hj⟩ ?_
        · rw [gsr_s]
          by_cases e : j / 3 = i
          · have e2 : j = i * 3 + j % 3 := by omega
            have h3 : j % 3 < 3 := Nat.mod_lt _ (by omega)
            rw [e2, hg (j % 3) h3]
            congr 1
            show _ = (if (i * 3 + j % 3) / 3 < i + 1 then T.rn ((i * 3 + j % 3) / 3) (U.tr ((i * 3 + j % 3) / 3)) ((i * 3 + j % 3) % 3) else _)
            rw [show (i * 3 + j % 3) / 3 = i by omega, show (i * 3 + j % 3) % 3 = j % 3 by omega, if_pos (by omega)]
          · rw [hg2 j (by omega), hU'.2.1 j hj]
            congr 1
            show (if j / 3 < i then T.rn (j / 3) (U.tr (j / 3)) (j % 3) else U.h j) = (if j / 3 < i + 1 then T.rn (j / 3) (U.tr (j / 3)) (j % 3) else U.h j)
            by_cases e2 : j / 3 < i
            · rw [if_pos e2, if_pos (by omega)]
            · rw [if_neg e2, if_neg (by omega)]
        · intro c h1 h2
          rw [gsr_n _ _ (by omega)]; exact hF c h1 h2
  refine s_aload_n (q := 1) hX dX3_endDay_0 rfl rfl ?_
  refine s_invv0_1 (q := 4) hX dX3_endDay_1 rfl glk_3_71 (by assumption) (Nat.le_of_ble_eq_true rfl) ⟨Nat.le_refl _, Nat.le_refl _⟩ (by omega) (c_weekday (d := 0) hS0 hU hUk ?_) 
  refine ⟨_, rfl, ?_⟩
  refine s_bipush (q := 6) (v := 6) hX dX3_endDay_4 rfl rfl (by decide) ?_
  refine s_nicmp_ne (a := U.d % 7) (b := 6) (q := 9) (r := 37) hX dX3_endDay_6 rfl rfl rfl rfl (by omega) (by omega) (fun c6 => ?_) (fun c6 => ?_)
  · refine E U.h M hU FR.rf (fun j hj => ?_)
    show _ = (if U.d % 7 = 6 then (fun j => T.rn (j / 3) (U.tr (j / 3)) (j % 3)) else U.h) j
    rw [if_neg (by omega)]
  · refine s_iconst (q := 10) (v := 0) hX dX3_endDay_9 rfl rfl ?_
    refine s_istore_n (q := 11) (lv' := [(0, _), (1, _), (2, _)]) hX dX3_endDay_10 rfl (Nat.le_of_ble_eq_true rfl) rfl ?_
    refine L (T.P + 1) 0 M (by omega) (by omega) (by omega) ⟨hU.1, fun j hj => ?_, hU.2.2.1, hU.2.2.2⟩ FR.rf
    rw [hU.2.1 j hj]
    congr 1
set_option maxHeartbeats 4000000 in
set_option maxRecDepth 100000 in
theorem c_passDays {n : Nat} {d t s : Nat} {T : gT} {U : gU} {sh : List gS} {M : gM} {Q : Option Value → List gS → gM → Prop} (hd : 5 ≤ d) (hT : isTown sh t) (hW : TWN M t T) (hok : T.ok) (hS : isStreet sh s) (hU : STR M s T.P U) (hUk : U.ok T.P) (hap : apart t s) (hn : n ≤ 60) (hdn : U.d + n ≤ 100000) (hcon : ∀ M', STR M' s T.P (T.days n U) → FR M M' t s → Q none sh M') : gC mX3_passDays d 0 0 [.ref s, .ref t, .int (nI n)] sh M Q := by
  have hT0 := hT
  have hok0 := hok
  have hS0 := hS
  obtain ⟨z0, z1, z2, z3, z4, z5, z6⟩ := hT
  obtain ⟨y0, y1, y2, y3⟩ := hS
  obtain ⟨o1, o2, o3, o4, o5, o6, o7, o8⟩ := hok
  have hap2 := hap
  unfold apart at hap2
  refine gC_of (rt := 0) (ini := false) gm_X3_passDays rfl (by decide) (Nat.le_of_ble_eq_true rfl) (fun X hX => ?_)
  have L : ∀ (m i : Nat) (U' : gU) (M' : gM), i + m = n → T.days m U' = T.days n U → U'.ok T.P → U'.d + m ≤ 100000 → STR M' s T.P U' → FR M M' t s → X 2 [(0, .ref s), (1, .ref t), (2, .int (nI n)), (3, .int (nI i))] [] sh M' 0 0 := by
    intro m
    induction m with
    | zero =>
      intro i U' M' h1 h2 h3 h4 h5 h6
      have e : i = n := by omega
      subst e
      refine s_iload_n (q := 3) hX dX3_passDays_2 rfl rfl ?_
      refine s_iload_n (q := 4) hX dX3_passDays_3 rfl rfl ?_
      refine s_icmp_ge_t (q := 7) (r := 28) hX dX3_passDays_4 rfl rfl (Int32.le_refl _) ?_
      refine s_ret hX dX3_passDays_28 rfl ⟨Nat.le_refl _, Nat.le_refl _, Nat.le_refl _, ?_⟩
      rw [← h2] at hcon
      exact hcon M' h5 h6
    | succ m ih =>
      intro i U' M' h1 h2 h3 h4 h5 h6
      have hW' := h6.twn hap hW
      obtain ⟨t1, t2⟩ := T.told_ok h3 T.P
      have t3 := T.sea_ok t1
      obtain ⟨t4, t5⟩ := T.day_ok h3 (by omega)
      refine s_iload_n (q := 3) hX dX3_passDays_2 rfl rfl ?_
      refine s_iload_n (q := 4) hX dX3_passDays_3 rfl rfl ?_
      refine s_icmp_ge_f (q := 7) (r := 28) hX dX3_passDays_4 rfl rfl (nI_ge (by omega) (by omega)) ?_
      refine s_aload_n (q := 8) hX dX3_passDays_7 rfl rfl ?_
      refine s_aload_n (q := 9) hX dX3_passDays_8 rfl rfl ?_
      refine s_invv1_0 (q := 12) hX dX3_passDays_9 rfl glk_3_55 (by assumption) (Nat.le_of_ble_eq_true rfl) ⟨Nat.le_refl _, Nat.le_refl _⟩ (by omega) (c_doTold (d := 4) (Nat.le_refl _) hT0 hW' hok0 hS0 h5 h3 hap (fun M1 u1 f1 => ?_)) 
      refine ⟨rfl, ?_⟩
      refine s_aload_n (q := 13) hX dX3_passDays_12 rfl rfl ?_
      refine s_aload_n (q := 14) hX dX3_passDays_13 rfl rfl ?_
      refine s_invv1_0 (q := 17) hX dX3_passDays_14 rfl glk_3_59 (by assumption) (Nat.le_of_ble_eq_true rfl) ⟨Nat.le_refl _, Nat.le_refl _⟩ (by omega) (c_fade (d := 1) (Nat.le_refl _) hT0 (f1.twn hap hW') hok0 hS0 u1 t1 hap (fun M2 u2 f2 => ?_)) 
      refine ⟨rfl, ?_⟩
      refine s_aload_n (q := 18) hX dX3_passDays_17 rfl rfl ?_
      refine s_aload_n (q := 19) hX dX3_passDays_18 rfl rfl ?_
      refine s_invv1_0 (q := 22) hX dX3_passDays_19 rfl glk_3_62 (by assumption) (Nat.le_of_ble_eq_true rfl) ⟨Nat.le_refl _, Nat.le_refl _⟩ (by omega) (c_endDay (d := 2) (Nat.le_refl _) hT0 (f2.twn hap (f1.twn hap hW')) hok0 hS0 u2 t3 hap (fun M3 u3 f3 => ?_)) 
      refine ⟨rfl, ?_⟩
      refine s_iinc (q := 25) (v := nI (i + 1)) (lv' := [(0, _), (1, _), (2, _), (3, _)]) hX dX3_passDays_22 rfl rfl (nI_add (i) 1) (Nat.le_of_ble_eq_true rfl) rfl ?_
      refine s_goto (q := 2) hX dX3_passDays_25 rfl ?_
      exact ih (i + 1) (T.day U') M3 (by omega) h2 t4 (by omega) u3 (h6.tr (f1.tr (f2.tr f3)))
  refine s_iconst (q := 1) (v := 0) hX dX3_passDays_0 rfl rfl ?_
  refine s_istore_n (q := 2) (lv' := [(0, _), (1, _), (2, _), (3, _)]) hX dX3_passDays_1 rfl (Nat.le_of_ble_eq_true rfl) rfl ?_
  exact L n 0 U M (by omega) rfl hUk hdn hU FR.rf
