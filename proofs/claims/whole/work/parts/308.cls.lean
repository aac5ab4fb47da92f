theorem gab {a b h c : Nat} : (nI a - nI b) + (nI h - nI c) = nI (a + h) - nI (b + c) := by
  rw [← nI_add, ← nI_add]
  simp only [Int32.sub_eq_add_neg, Int32.neg_add]
  ac_rfl
theorem gge0 {a b : Nat} (ha : a < 2 ^ 30) (hb : b < 2 ^ 30) : 0 ≤ nI a - nI b ↔ b ≤ a := by
  rw [Int32.le_iff_toInt_le, pk_sub_toInt ha hb]
  show (0 : Int) ≤ _ ↔ _
  omega
theorem gsl32 : ∀ n, n < 32 → ((nI n &&& 31).toBitVec.smod 32).toNat = n := by decide
theorem gshr {n i : Nat} (h : n < 2 ^ 31) (hi : i < 32) : nI n >>> (nI i &&& 31) = nI (n / 2 ^ i) := pk_shrN h _ i (gsl32 i hi)
theorem gan1 {n : Nat} (h : n < 2 ^ 31) : nI n &&& 1 = nI (n % 2) := pk_andN (Nat.lt_trans h (by decide)) 1 (by decide)
theorem gshl {i : Nat} (hi : i < 31) : (1 : Int32) <<< (nI i &&& 31) = nI (2 ^ i) := by
  have h2 : 2 ^ i < 2 ^ 31 := Nat.pow_lt_pow_right (by decide) hi
  have := pk_shlN (n := 1) (nI i &&& 31) i (gsl32 i (by omega)) (by omega)
  rw [Nat.one_mul] at this
  exact this
theorem sumN_le {f : Nat → Nat} {c : Nat} (h : ∀ i, f i ≤ c) : ∀ n, sumN f n ≤ n * c := fun n => sumN_bd n (fun k _ => h k)
theorem pcs_le {kd : Nat} {c : Nat → Nat} {s : Nat} : pcs kd c s ≤ c s := by
  unfold pcs
  (repeat' split) <;> (try subst_vars) <;> omega
set_option maxHeartbeats 4000000 in
set_option maxRecDepth 100000 in
theorem c_needToday {d t b i s : Nat} {S : gA} {sh : List gS} {M : gM} {Q : Option Value → List gS → gM → Prop} (hd : 2 ≤ d) (hC : isCls sh t) (hS : CLS M t S) (hk : S.ok b) (hb : b ≤ 20000) (hi : i < S.T.P) (hs : s < 3) (hcon : ∀ M', (∀ c, c ≠ t + 6 → M' c = M c) → Q (some (.int (nI (S.need i s)))) sh M') : gC mX6_needToday d 0 0 [.ref 0, .int (nI i), .int (nI s)] sh M Q := by
  have hC0 := hC
  have hS0 := hS
  have hk0 := hk
  obtain ⟨y0, yt, yp, yw, ys, yr, yd, yk, yc, yn, yu⟩ := hC
  have twn := hC0.tw
  have tdf := hC0.df
  have yp2 := yp
  have ys2 := ys
  have yr2 := yr
  have yd2 := yd
  have yk2 := yk
  have yc2 := yc
  have yn2 := yn
  have twn2 := twn
  have tdf2 := tdf
  obtain ⟨p0, p1, p2⟩ := yp2
  obtain ⟨z0, z1, z2, z3, z4, z5, z6⟩ := twn2
  obtain ⟨zz0, zz1, zz2, zz3, zz4, zz5, zz6⟩ := tdf2
  obtain ⟨s0, s1, s2, s3⟩ := ys2
  obtain ⟨r0, r1, r2, r3⟩ := yr2
  obtain ⟨d0, d1, d2⟩ := yd2
  obtain ⟨k0, k1, k2⟩ := yk2
  obtain ⟨q0, q1, q2, q3, q4⟩ := yc2
  obtain ⟨v0, v1, v2, v3, v4, v5, v6⟩ := yn2
  obtain ⟨a1, a2, a3, ⟨n1, a4⟩, ⟨n2, a5⟩, a6⟩ := hS
  obtain ⟨g1, g2, g3, g4, g5, g6, g7⟩ := hk
  have g0 := g1
  obtain ⟨o1, o2, o3, o4, o5, o6, o7, o8⟩ := g0
  have hap : apart t 18 := by unfold apart; omega
  have hap2 : apart t 22 := by unfold apart; omega
  have hwd : S.U.d % 7 < 7 := Nat.mod_lt _ (by decide)
  have hpl := a2.2.2.2.2.2.2.2 (7 * i + S.U.d % 7) (by omega)
  refine gC_of (rt := 1) (ini := false) gm_X6_needToday rfl (by decide) (Nat.le_of_ble_eq_true rfl) (fun X hX => ?_)
  rcases o8 (7 * i + S.U.d % 7) (by omega) with e8 | ⟨k, hk, e8⟩
  · refine s_aload_n (q := 1) hX dX6_needToday_0 rfl rfl ?_
    refine s_getr (q := 4) hX dX6_needToday_1 rfl gfl_6_19 (by assumption) rfl ?_
    refine s_getr (q := 7) hX dX6_needToday_4 rfl gfl_6_132 (by assumption) rfl ?_
    refine s_iload_n (q := 8) hX dX6_needToday_7 rfl rfl ?_
    refine s_bipush (q := 10) (v := 7) hX dX6_needToday_8 rfl rfl (by decide) ?_
    refine s_imul (q := 11) (v := nI (i * 7)) hX dX6_needToday_10 rfl (pk_mul (i) (7)) ?_
    refine s_aload_n (q := 12) hX dX6_needToday_11 rfl rfl ?_
    refine s_getr (q := 15) hX dX6_needToday_12 rfl gfl_6_29 (by assumption) rfl ?_
    refine s_invv0_1 (q := 18) hX dX6_needToday_15 rfl glk_6_147 (by assumption) (Nat.le_of_ble_eq_true rfl) ⟨Nat.le_refl _, Nat.le_refl _⟩ (by omega) (c_weekday (d := 0) ys a3 g3.1 ?_) 
    refine ⟨_, rfl, ?_⟩
    refine s_iadd (q := 19) (v := nI (i * 7 + (S.U.d % 7))) hX dX6_needToday_18 rfl (nI_add (i * 7) (S.U.d % 7)) ?_
    refine s_iald (k := i * 7 + (S.U.d % 7)) (q := 20) hX dX6_needToday_19 rfl (by assumption) rfl (by omega) (by omega) ?_
    refine s_topi (v := (-4)) (by rw [show i * 7 + S.U.d % 7 = 7 * i + S.U.d % 7 by omega, hpl, e8]) ?_
    refine s_istore_n (q := 21) (lv' := [(0, _), (1, _), (2, _), (3, _)]) hX dX6_needToday_20 rfl (Nat.le_of_ble_eq_true rfl) rfl ?_
    refine s_iload_n (q := 22) hX dX6_needToday_21 rfl rfl ?_
    refine s_if_ge_f (q := 25) (r := 27) hX dX6_needToday_22 rfl rfl (by decide) ?_
    refine s_iconst (q := 26) (v := 0) hX dX6_needToday_25 rfl rfl ?_
    refine s_iret hX dX6_needToday_26 (Or.inl rfl) ⟨Nat.le_refl _, Nat.le_refl _, Nat.le_refl _, ?_⟩
    have e9 : S.need i s = 0 := if_pos e8
    exact gqv (hcon M (fun _ _ => rfl)) (by rw [e9]; rfl) rfl
  · refine s_aload_n (q := 1) hX dX6_needToday_0 rfl rfl ?_
    refine s_getr (q := 4) hX dX6_needToday_1 rfl gfl_6_19 (by assumption) rfl ?_
    refine s_getr (q := 7) hX dX6_needToday_4 rfl gfl_6_132 (by assumption) rfl ?_
    refine s_iload_n (q := 8) hX dX6_needToday_7 rfl rfl ?_
    refine s_bipush (q := 10) (v := 7) hX dX6_needToday_8 rfl rfl (by decide) ?_
    refine s_imul (q := 11) (v := nI (i * 7)) hX dX6_needToday_10 rfl (pk_mul (i) (7)) ?_
    refine s_aload_n (q := 12) hX dX6_needToday_11 rfl rfl ?_
    refine s_getr (q := 15) hX dX6_needToday_12 rfl gfl_6_29 (by assumption) rfl ?_
    refine s_invv0_1 (q := 18) hX dX6_needToday_15 rfl glk_6_147 (by assumption) (Nat.le_of_ble_eq_true rfl) ⟨Nat.le_refl _, Nat.le_refl _⟩ (by omega) (c_weekday (d := 0) ys a3 g3.1 ?_) 
    refine ⟨_, rfl, ?_⟩
    refine s_iadd (q := 19) (v := nI (i * 7 + (S.U.d % 7))) hX dX6_needToday_18 rfl (nI_add (i * 7) (S.U.d % 7)) ?_
    refine s_iald (k := i * 7 + (S.U.d % 7)) (q := 20) hX dX6_needToday_19 rfl (by assumption) rfl (by omega) (by omega) ?_
    refine s_topi (v := nI (k)) (by rw [show i * 7 + S.U.d % 7 = 7 * i + S.U.d % 7 by omega, hpl, e8]) ?_
    refine s_istore_n (q := 21) (lv' := [(0, _), (1, _), (2, _), (3, _)]) hX dX6_needToday_20 rfl (Nat.le_of_ble_eq_true rfl) rfl ?_
    refine s_iload_n (q := 22) hX dX6_needToday_21 rfl rfl ?_
    refine s_if_ge_t (q := 25) (r := 27) hX dX6_needToday_22 rfl rfl (nI_pos' (by omega)) ?_
    refine s_aload_n (q := 28) hX dX6_needToday_27 rfl rfl ?_
    refine s_getr (q := 31) hX dX6_needToday_28 rfl gfl_6_19 (by assumption) rfl ?_
    refine s_iload_n (q := 32) hX dX6_needToday_31 rfl rfl ?_
    refine s_iload_n (q := 33) hX dX6_needToday_32 rfl rfl ?_
    refine s_invv2_0 (q := 36) hX dX6_needToday_33 rfl glk_6_262 (by assumption) (Nat.le_of_ble_eq_true rfl) ⟨Nat.le_refl _, Nat.le_refl _⟩ (by omega) (c_writeBill (d := 1) (Nat.le_refl _) twn a2 g1 hi hk (fun g hg => ?_)) 
    refine ⟨rfl, ?_⟩
    refine s_aload_n (q := 37) hX dX6_needToday_36 rfl rfl ?_
    refine s_getr (q := 40) hX dX6_needToday_37 rfl gfl_6_19 (by assumption) rfl ?_
    refine s_getr (q := 43) hX dX6_needToday_40 rfl gfl_6_266 (by assumption) rfl ?_
    refine s_iload_n (q := 44) hX dX6_needToday_43 rfl rfl ?_
    refine s_iald (k := s) (q := 45) hX dX6_needToday_44 rfl (by assumption) rfl (by omega) (by omega) ?_
    refine s_topi (v := nI (S.T.cs i k s)) (by rw [gsr_s]; exact hg s hs) ?_
    refine s_iret hX dX6_needToday_45 (Or.inl rfl) ⟨Nat.le_refl _, Nat.le_refl _, Nat.le_refl _, ?_⟩
    have e9 : S.need i s = S.T.cs i k s := by
      unfold gA.need
      rw [if_neg (by rw [e8]; exact gnI4 (by omega)), e8, nI_clamp (by omega)]
    exact gqv (hcon _ (fun c hc => gsr_n _ _ hc)) (by rw [e9]) rfl
theorem gA.need_le {S : gA} {b i s : Nat} (hk : S.ok b) (hi : i < S.T.P) (hs : s < 3) : S.need i s ≤ 4 := by
  obtain ⟨⟨o1, o2, o3, o4, o5, o6, o7, o8⟩, -⟩ := hk
  unfold gA.need
  have hwd : S.U.d % 7 < 7 := Nat.mod_lt _ (by decide)
  rcases o8 (7 * i + S.U.d % 7) (by omega) with e8 | ⟨k, hk, e8⟩
  · rw [if_pos e8]; omega
  · rw [if_neg (by rw [e8]; exact gnI4 (by omega)), e8, nI_clamp (by omega)]
    exact Nat.le_trans pcs_le (o6 (3 * k + s) (by omega))
set_option maxHeartbeats 4000000 in
set_option maxRecDepth 100000 in
theorem k_lending {d t b : Nat}  {S : gA} {sh : List gS} {M : gM} {Q : Option Value → List gS → gM → Prop} (hd : 3 ≤ d) (hC : isCls sh t) (hS : CLS M t S) (hk : S.ok b) (hb : b ≤ 20000) (hcon : kC sh M (S.lending) Q) : gC mX6_lending d 0 0 [.ref 0] sh M Q := by
  have hC0 := hC
  have hS0 := hS
  have hk0 := hk
  obtain ⟨y0, yt, yp, yw, ys, yr, yd, yk, yc, yn, yu⟩ := hC
  have twn := hC0.tw
  have tdf := hC0.df
  have yp2 := yp
  have ys2 := ys
  have yr2 := yr
  have yd2 := yd
  have yk2 := yk
  have yc2 := yc
  have yn2 := yn
  have twn2 := twn
  have tdf2 := tdf
  obtain ⟨p0, p1, p2⟩ := yp2
  obtain ⟨z0, z1, z2, z3, z4, z5, z6⟩ := twn2
  obtain ⟨zz0, zz1, zz2, zz3, zz4, zz5, zz6⟩ := tdf2
  obtain ⟨s0, s1, s2, s3⟩ := ys2
  obtain ⟨r0, r1, r2, r3⟩ := yr2
  obtain ⟨d0, d1, d2⟩ := yd2
  obtain ⟨k0, k1, k2⟩ := yk2
  obtain ⟨q0, q1, q2, q3, q4⟩ := yc2
  obtain ⟨v0, v1, v2, v3, v4, v5, v6⟩ := yn2
  obtain ⟨a1, a2, a3, ⟨n1, a4⟩, ⟨n2, a5⟩, a6⟩ := hS
  obtain ⟨g1, g2, g3, g4, g5, g6, g7⟩ := hk
  have g0 := g1
  obtain ⟨o1, o2, o3, o4, o5, o6, o7, o8⟩ := g0
  have hap : apart t 18 := by unfold apart; omega
  have hap2 : apart t 22 := by unfold apart; omega
  refine gC_of (rt := 1) (ini := false) gm_X6_lending rfl (by decide) (Nat.le_of_ble_eq_true rfl) (fun X hX => ?_)
  have I : ∀ (s le : Nat), s < 3 → le ≤ 10000 → (∀ M1 : gM, (∀ c, c ≠ t + 6 → M1 c = M c) → X 76 [(0, .ref 0), (1, .int (nI (le + S.lsum s))), (2, .int (nI s)), (3, .int (nI (sumN (fun i => S.U.h (3 * i + s)) S.T.P) - nI (sumN (fun i => S.need i s) S.T.P))), (4, .int (nI S.T.P))] [] sh M1 0 0) → ∀ (m i : Nat) (M1 : gM), i + m = S.T.P → (∀ c, c ≠ t + 6 → M1 c = M c) → X 14 [(0, .ref 0), (1, .int (nI (le + sumN (fun i => S.need i s - S.U.h (3 * i + s)) i))), (2, .int (nI s)), (3, .int (nI (sumN (fun i => S.U.h (3 * i + s)) i) - nI (sumN (fun i => S.need i s) i))), (4, .int (nI i))] [] sh M1 0 0 := by
    intro s le hs hle hfin m
    induction m with
    | zero =>
      intro i M1 hi f1
      have hiP : i = S.T.P := by omega
      subst hiP
      have hW1 : TWN M1 t S.T := a2.keep (fun c a b => f1 c (by omega))
      refine s_iload (q := 16) hX dX6_lending_14 rfl rfl ?_
      refine s_aload_n (q := 17) hX dX6_lending_16 rfl rfl ?_
      refine s_getr (q := 20) hX dX6_lending_17 rfl gfl_6_19 (by assumption) rfl ?_
      refine s_geti (q := 23) hX dX6_lending_20 rfl gfl_6_97 (by assumption) rfl ?_
      refine s_topi (v := nI (S.T.P)) hW1.1 ?_
      refine s_icmp_ge_t (q := 26) (r := 76) hX dX6_lending_23 rfl rfl (Int32.le_refl _) ?_
      exact hfin M1 f1
    | succ m ih =>
      intro i M1 hi f1
      have hW1 : TWN M1 t S.T := a2.keep (fun c a b => f1 c (by omega))
      have hS1 : CLS M1 t S := hS0.kp yt (fun c hc => f1 c (by omega))
      have hh := a3.2.1 (3 * i + s) (by omega)
      have hh9 := g3.1.1 (3 * i + s) (by omega)
      have hn4 := gA.need_le hk0 (i := i) (s := s) (by omega) hs
      by_cases hc : S.need i s ≤ S.U.h (3 * i + s)
      · refine s_iload (q := 16) hX dX6_lending_14 rfl rfl ?_
        refine s_aload_n (q := 17) hX dX6_lending_16 rfl rfl ?_
        refine s_getr (q := 20) hX dX6_lending_17 rfl gfl_6_19 (by assumption) rfl ?_
        refine s_geti (q := 23) hX dX6_lending_20 rfl gfl_6_97 (by assumption) rfl ?_
        refine s_topi (v := nI (S.T.P)) hW1.1 ?_
        refine s_icmp_ge_f (q := 26) (r := 76) hX dX6_lending_23 rfl rfl (Int32.not_le.mpr (nI_lt (by omega) (by omega))) ?_
        refine s_aload_n (q := 27) hX dX6_lending_26 rfl rfl ?_
        refine s_getr (q := 30) hX dX6_lending_27 rfl gfl_6_29 (by assumption) rfl ?_
        refine s_getr (q := 33) hX dX6_lending_30 rfl gfl_6_120 (by assumption) rfl ?_
        refine s_iload (q := 35) hX dX6_lending_33 rfl rfl ?_
        refine s_iconst (q := 36) (v := 3) hX dX6_lending_35 rfl rfl ?_
        refine s_imul (q := 37) (v := nI (i * 3)) hX dX6_lending_36 rfl (pk_mul (i) (3)) ?_
        refine s_iload_n (q := 38) hX dX6_lending_37 rfl rfl ?_
        refine s_iadd (q := 39) (v := nI (i * 3 + s)) hX dX6_lending_38 rfl (nI_add (i * 3) (s)) ?_
        refine s_iald (k := i * 3 + s) (q := 40) hX dX6_lending_39 rfl (by assumption) rfl (by omega) (by omega) ?_
        refine s_topi (v := nI (S.U.h (3 * i + s))) (by rw [f1 _ (by omega), show i * 3 + s = 3 * i + s by omega]; exact hh) ?_
        refine s_aload_n (q := 41) hX dX6_lending_40 rfl rfl ?_
        refine s_iload (q := 43) hX dX6_lending_41 rfl rfl ?_
        refine s_iload_n (q := 44) hX dX6_lending_43 rfl rfl ?_
        refine s_invv2_1 (q := 47) hX dX6_lending_44 rfl glk_6_196 (by assumption) (Nat.le_of_ble_eq_true rfl) ⟨Nat.le_refl _, Nat.le_refl _⟩ (by omega) (c_needToday (d := 2) (Nat.le_refl _) hC0 hS1 hk0 hb (by omega) hs (fun M2 x1 => ?_)) 
        refine ⟨_, rfl, ?_⟩
        refine s_isub (q := 48) (v := nI (S.U.h (3 * i + s)) - nI (S.need i s)) hX dX6_lending_47 rfl rfl ?_
        refine s_istore (q := 50) (lv' := [(0, _), (1, _), (2, _), (3, _), (4, _), (5, _)]) hX dX6_lending_48 rfl (Nat.le_of_ble_eq_true rfl) rfl ?_
        refine s_iload_n (q := 51) hX dX6_lending_50 rfl rfl ?_
        refine s_iload (q := 53) hX dX6_lending_51 rfl rfl ?_
        refine s_iadd (q := 54) (v := nI (sumN (fun i => S.U.h (3 * i + s)) (i + 1)) - nI (sumN (fun i => S.need i s) (i + 1))) hX dX6_lending_53 rfl gab ?_
        refine s_istore_n (q := 55) (lv' := [(0, _), (1, _), (2, _), (3, _), (4, _), (5, _)]) hX dX6_lending_54 rfl (Nat.le_of_ble_eq_true rfl) rfl ?_
        refine s_iload_n (q := 56) hX dX6_lending_55 rfl rfl ?_
        refine s_iload (q := 58) hX dX6_lending_56 rfl rfl ?_
        refine s_if_ge_t (q := 61) (r := 67) hX dX6_lending_58 rfl rfl ((gge0 (by omega) (by omega)).mpr hc) ?_
        refine s_iconst (q := 68) (v := 0) hX dX6_lending_67 rfl rfl ?_
        refine s_iadd (q := 69) (v := nI (le + sumN (fun i => S.need i s - S.U.h (3 * i + s)) i + 0)) hX dX6_lending_68 rfl (nI_add (le + sumN (fun i => S.need i s - S.U.h (3 * i + s)) i) (0)) ?_
        refine s_istore_n (q := 70) (lv' := [(0, _), (1, _), (2, _), (3, _), (4, _), (5, _)]) hX dX6_lending_69 rfl (Nat.le_of_ble_eq_true rfl) rfl ?_
        refine s_iinc (q := 73) (v := nI (i + 1)) (lv' := [(0, _), (1, _), (2, _), (3, _), (4, _), (5, _)]) hX dX6_lending_70 rfl rfl (nI_add (i) 1) (Nat.le_of_ble_eq_true rfl) rfl ?_
        refine s_goto (q := 14) hX dX6_lending_73 rfl ?_
        refine s_dl hX ?_
        have e0 : sumN (fun i => S.need i s - S.U.h (3 * i + s)) (i + 1) = sumN (fun i => S.need i s - S.U.h (3 * i + s)) i := by
          show _ + (S.need i s - S.U.h (3 * i + s)) = _
          omega
        have := ih (i + 1) M2 (by omega) (fun c hc => by rw [x1 c hc, f1 c hc])
        rw [e0] at this
        exact this
      · refine s_iload (q := 16) hX dX6_lending_14 rfl rfl ?_
        refine s_aload_n (q := 17) hX dX6_lending_16 rfl rfl ?_
        refine s_getr (q := 20) hX dX6_lending_17 rfl gfl_6_19 (by assumption) rfl ?_
        refine s_geti (q := 23) hX dX6_lending_20 rfl gfl_6_97 (by assumption) rfl ?_
        refine s_topi (v := nI (S.T.P)) hW1.1 ?_
        refine s_icmp_ge_f (q := 26) (r := 76) hX dX6_lending_23 rfl rfl (Int32.not_le.mpr (nI_lt (by omega) (by omega))) ?_
        refine s_aload_n (q := 27) hX dX6_lending_26 rfl rfl ?_
        refine s_getr (q := 30) hX dX6_lending_27 rfl gfl_6_29 (by assumption) rfl ?_
        refine s_getr (q := 33) hX dX6_lending_30 rfl gfl_6_120 (by assumption) rfl ?_
        refine s_iload (q := 35) hX dX6_lending_33 rfl rfl ?_
        refine s_iconst (q := 36) (v := 3) hX dX6_lending_35 rfl rfl ?_
        refine s_imul (q := 37) (v := nI (i * 3)) hX dX6_lending_36 rfl (pk_mul (i) (3)) ?_
        refine s_iload_n (q := 38) hX dX6_lending_37 rfl rfl ?_
        refine s_iadd (q := 39) (v := nI (i * 3 + s)) hX dX6_lending_38 rfl (nI_add (i * 3) (s)) ?_
        refine s_iald (k := i * 3 + s) (q := 40) hX dX6_lending_39 rfl (by assumption) rfl (by omega) (by omega) ?_
        refine s_topi (v := nI (S.U.h (3 * i + s))) (by rw [f1 _ (by omega), show i * 3 + s = 3 * i + s by omega]; exact hh) ?_
        refine s_aload_n (q := 41) hX dX6_lending_40 rfl rfl ?_
        refine s_iload (q := 43) hX dX6_lending_41 rfl rfl ?_
        refine s_iload_n (q := 44) hX dX6_lending_43 rfl rfl ?_
        refine s_invv2_1 (q := 47) hX dX6_lending_44 rfl glk_6_196 (by assumption) (Nat.le_of_ble_eq_true rfl) ⟨Nat.le_refl _, Nat.le_refl _⟩ (by omega) (c_needToday (d := 2) (Nat.le_refl _) hC0 hS1 hk0 hb (by omega) hs (fun M2 x1 => ?_)) 
        refine ⟨_, rfl, ?_⟩
        refine s_isub (q := 48) (v := nI (S.U.h (3 * i + s)) - nI (S.need i s)) hX dX6_lending_47 rfl rfl ?_
        refine s_istore (q := 50) (lv' := [(0, _), (1, _), (2, _), (3, _), (4, _), (5, _)]) hX dX6_lending_48 rfl (Nat.le_of_ble_eq_true rfl) rfl ?_
        refine s_iload_n (q := 51) hX dX6_lending_50 rfl rfl ?_
        refine s_iload (q := 53) hX dX6_lending_51 rfl rfl ?_
        refine s_iadd (q := 54) (v := nI (sumN (fun i => S.U.h (3 * i + s)) (i + 1)) - nI (sumN (fun i => S.need i s) (i + 1))) hX dX6_lending_53 rfl gab ?_
        refine s_istore_n (q := 55) (lv' := [(0, _), (1, _), (2, _), (3, _), (4, _), (5, _)]) hX dX6_lending_54 rfl (Nat.le_of_ble_eq_true rfl) rfl ?_
        refine s_iload_n (q := 56) hX dX6_lending_55 rfl rfl ?_
        refine s_iload (q := 58) hX dX6_lending_56 rfl rfl ?_
        refine s_if_ge_f (q := 61) (r := 67) hX dX6_lending_58 rfl rfl (fun z => hc ((gge0 (by omega) (by omega)).mp z)) ?_
        refine s_iload (q := 63) hX dX6_lending_61 rfl rfl ?_
        refine s_ineg (q := 64) (v := nI (S.need i s - S.U.h (3 * i + s))) hX dX6_lending_63 rfl (by rw [Int32.neg_sub]; exact pk_sub (by omega)) ?_
        refine s_goto (q := 68) hX dX6_lending_64 rfl ?_
        refine s_iadd (q := 69) (v := nI (le + sumN (fun i => S.need i s - S.U.h (3 * i + s)) (i + 1))) hX dX6_lending_68 rfl (by rw [nI_add]; exact congrArg nI (Nat.add_assoc _ _ _)) ?_
        refine s_istore_n (q := 70) (lv' := [(0, _), (1, _), (2, _), (3, _), (4, _), (5, _)]) hX dX6_lending_69 rfl (Nat.le_of_ble_eq_true rfl) rfl ?_
        refine s_iinc (q := 73) (v := nI (i + 1)) (lv' := [(0, _), (1, _), (2, _), (3, _), (4, _), (5, _)]) hX dX6_lending_70 rfl rfl (nI_add (i) 1) (Nat.le_of_ble_eq_true rfl) rfl ?_
        refine s_goto (q := 14) hX dX6_lending_73 rfl ?_
        refine s_dl hX ?_
        exact ih (i + 1) M2 (by omega) (fun c hc => by rw [x1 c hc, f1 c hc])
  have O : ∀ (m s : Nat) (M1 : gM), s + m = 3 → (∀ x, x < s → S.lok x) → (∀ c, c ≠ t + 6 → M1 c = M c) → X 4 [(0, .ref 0), (1, .int (nI (sumN S.lsum s))), (2, .int (nI s))] [] sh M1 0 0 := by
    intro m
    induction m with
    | zero =>
      intro s M1 hs hl f1
      have h3 : s = 3 := by omega
      subst h3
      refine s_iload_n (q := 5) hX dX6_lending_4 rfl rfl ?_
      refine s_iconst (q := 6) (v := 3) hX dX6_lending_5 rfl rfl ?_
      refine s_icmp_ge_t (q := 9) (r := 89) hX dX6_lending_6 rfl rfl (by decide) ?_
      refine s_iload_n (q := 90) hX dX6_lending_89 rfl rfl ?_
      refine s_iret hX dX6_lending_90 (Or.inl rfl) ⟨Nat.le_refl _, Nat.le_refl _, Nat.le_refl _, ?_⟩
      refine hcon.ret (by unfold gA.lending; rw [if_pos ⟨hl 0 (by omega), hl 1 (by omega), hl 2 (by omega)⟩]; rw [show sumN S.lsum 3 = S.lsum 0 + S.lsum 1 + S.lsum 2 from by show 0 + S.lsum 0 + S.lsum 1 + S.lsum 2 = _; omega]) hC0 (hS0.kp yt (fun c hc => f1 c (by omega))) (fun c hc => f1 c (by omega))
    | succ m ih =>
      intro s M1 hs hl f1
      have hle : sumN S.lsum s ≤ 10000 := by
        refine Nat.le_trans (sumN_bd (c := 24) s (fun x hx => ?_)) (by omega)
        refine Nat.le_trans (sumN_bd (c := 4) S.T.P (fun i hi => ?_)) (by omega)
        exact Nat.le_trans (Nat.sub_le _ _) (gA.need_le hk0 hi (by omega))
      have hA : sumN (fun i => S.U.h (3 * i + s)) S.T.P ≤ 600 := Nat.le_trans (sumN_bd (c := 99) S.T.P (fun i hi => g3.1.1 _ (by omega))) (by omega)
      have hB : sumN (fun i => S.need i s) S.T.P ≤ 600 := Nat.le_trans (sumN_bd (c := 4) S.T.P (fun i hi => gA.need_le hk0 hi (by omega))) (by omega)
      refine s_iload_n (q := 5) hX dX6_lending_4 rfl rfl ?_
      refine s_iconst (q := 6) (v := 3) hX dX6_lending_5 rfl rfl ?_
      refine s_icmp_ge_f (q := 9) (r := 89) hX dX6_lending_6 rfl rfl (Int32.not_le.mpr (nI_lt (b := 3) (by omega) (by omega))) ?_
      refine s_iconst (q := 10) (v := 0) hX dX6_lending_9 rfl rfl ?_
      refine s_istore_n (q := 11) (lv' := [(0, _), (1, _), (2, _), (3, _)]) hX dX6_lending_10 rfl (Nat.le_of_ble_eq_true rfl) rfl ?_
      refine s_iconst (q := 12) (v := 0) hX dX6_lending_11 rfl rfl ?_
      refine s_istore (q := 14) (lv' := [(0, _), (1, _), (2, _), (3, _), (4, _)]) hX dX6_lending_12 rfl (Nat.le_of_ble_eq_true rfl) rfl ?_
      have e1 : nI (sumN (fun i => S.U.h (3 * i + s)) 0) - nI (sumN (fun i => S.need i s) 0) = 0 := by
        show nI 0 - nI 0 = 0
        decide
      refine (fun z => ?_) (I s (sumN S.lsum s) (by omega) hle (fun M2 f2 => ?_) S.T.P 0 M1 (by omega) f1)
      · rw [e1] at z
        exact z
      by_cases hok : S.lok s
      · refine s_iload_n (q := 77) hX dX6_lending_76 rfl rfl ?_
        refine s_if_ge_t (q := 80) (r := 83) hX dX6_lending_77 rfl rfl ((gge0 (by omega) (by omega)).mpr hok) ?_
        refine s_iinc (q := 86) (v := nI (s + 1)) (lv' := [(0, _), (1, _), (2, _), (3, _), (4, _)]) hX dX6_lending_83 rfl rfl (nI_add (s) 1) (Nat.le_of_ble_eq_true rfl) rfl ?_
        refine s_goto (q := 4) hX dX6_lending_86 rfl ?_
        refine s_dl hX (s_dl hX ?_)
        refine ih (s + 1) M2 (by omega) (fun x hx => ?_) f2
        by_cases hxs : x = s
        · subst hxs; exact hok
        · exact hl x (by omega)
      · refine s_iload_n (q := 77) hX dX6_lending_76 rfl rfl ?_
        refine s_if_ge_f (q := 80) (r := 83) hX dX6_lending_77 rfl rfl (fun z => hok ((gge0 (by omega) (by omega)).mp z)) ?_
        refine s_bipush (q := 82) (v := (-4)) hX dX6_lending_80 rfl rfl (by decide) ?_
        refine s_iret hX dX6_lending_82 (Or.inl rfl) ⟨Nat.le_refl _, Nat.le_refl _, Nat.le_refl _, ?_⟩
        have hno : ¬ (S.lok 0 ∧ S.lok 1 ∧ S.lok 2) := fun z => hok (by
          rcases (show s = 0 ∨ s = 1 ∨ s = 2 by omega) with e | e | e <;> subst e
          · exact z.1
          · exact z.2.1
          · exact z.2.2)
        exact hcon.ret (by unfold gA.lending; rw [if_neg hno]) hC0 (hS0.kp yt (fun c hc => f2 c (by omega))) (fun c hc => f2 c (by omega))
  refine s_iconst (q := 1) (v := 0) hX dX6_lending_0 rfl rfl ?_
  refine s_istore_n (q := 2) (lv' := [(0, _), (1, _)]) hX dX6_lending_1 rfl (Nat.le_of_ble_eq_true rfl) rfl ?_
  refine s_iconst (q := 3) (v := 0) hX dX6_lending_2 rfl rfl ?_
  refine s_istore_n (q := 4) (lv' := [(0, _), (1, _), (2, _)]) hX dX6_lending_3 rfl (Nat.le_of_ble_eq_true rfl) rfl ?_
  exact O 3 0 M rfl (fun x hx => absurd hx (Nat.not_lt_zero x)) (fun _ _ => rfl)
