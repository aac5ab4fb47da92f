set_option maxHeartbeats 4000000 in
set_option maxRecDepth 100000 in
theorem k_seen {d t b : Nat} {x y z : Int32} {S : gA} {sh : List gS} {M : gM} {Q : Option Value → List gS → gM → Prop} (hd : 2 ≤ d) (hC : isCls sh t) (hS : CLS M t S) (hk : S.ok b) (hb : b ≤ 20000) (hcon : kC sh M (S.seen x y z) Q) : gC mX6_seen d 0 0 [.ref 0, .int x, .int y, .int z] sh M Q := by
  have hC0 := hC
  have hS0 := hS
  have hk0 := hk
  obtain ⟨y0, yt, yp, yw, ys, yr, yd, yk, yc, yn, yu⟩ := hC
  have twn := hC0.tw
  have tdf := hC0.df
  have yp2 := yp
  have ys2 := ys
  have yr2 := yr
  have yd2 := yd
  have yk2 := yk
  have yc2 := yc
  have yn2 := yn
  have twn2 := twn
  have tdf2 := tdf
  obtain ⟨p0, p1, p2⟩ := yp2
  obtain ⟨z0, z1, z2, z3, z4, z5, z6⟩ := twn2
  obtain ⟨zz0, zz1, zz2, zz3, zz4, zz5, zz6⟩ := tdf2
  obtain ⟨s0, s1, s2, s3⟩ := ys2
  obtain ⟨r0, r1, r2, r3⟩ := yr2
  obtain ⟨d0, d1, d2⟩ := yd2
  obtain ⟨k0, k1, k2⟩ := yk2
  obtain ⟨q0, q1, q2, q3, q4⟩ := yc2
  obtain ⟨v0, v1, v2, v3, v4, v5, v6⟩ := yn2
  obtain ⟨a1, a2, a3, ⟨n1, a4⟩, ⟨n2, a5⟩, a6⟩ := hS
  obtain ⟨g1, g2, g3, g4, g5, g6, g7⟩ := hk
  have g0 := g1
  obtain ⟨o1, o2, o3, o4, o5, o6, o7, o8⟩ := g0
  have hap : apart t 18 := by unfold apart; omega
  have hap2 : apart t 22 := by unfold apart; omega
  refine gC_of (rt := 1) (ini := false) gm_X6_seen rfl (by decide) (Nat.le_of_ble_eq_true rfl) (fun X hX => ?_)
  refine s_aload_n (q := 1) hX dX6_seen_0 rfl rfl ?_
  refine s_iload_n (q := 2) hX dX6_seen_1 rfl rfl ?_
  refine s_invv1_1 (q := 5) hX dX6_seen_2 rfl glk_6_104 (by assumption) (Nat.le_of_ble_eq_true rfl) ⟨Nat.le_refl _, Nat.le_refl _⟩ (by omega) (c_isPerson (d := 1) (x := x) (Nat.le_refl _) hC0 hS0 g1 (fun ra => ?_) (fun i ra hi ei => ?_)) 
  · refine ⟨_, rfl, ?_⟩
    refine s_if_eq_t (q := 8) (r := 27) hX dX6_seen_5 rfl rfl (by decide) ?_
    refine s_iconst (q := 28) (v := (-1)) hX dX6_seen_27 rfl rfl ?_
    refine s_iret hX dX6_seen_28 (Or.inl rfl) ⟨Nat.le_refl _, Nat.le_refl _, Nat.le_refl _, ?_⟩
    exact hcon.ret (by first | (unfold gA.seen; rw [ra]; dsimp only; rw [rj]; dsimp only; rw [rw]) | (unfold gA.seen; rw [ra]; dsimp only; rw [rj]) | (unfold gA.seen; rw [ra])) hC0 hS0 (fun _ _ => rfl)
  · subst ei
    refine ⟨_, rfl, ?_⟩
    refine s_if_eq_f (q := 8) (r := 27) hX dX6_seen_5 rfl rfl (by decide) ?_
    refine s_iload_n (q := 9) hX dX6_seen_8 rfl rfl ?_
    refine s_iconst (q := 10) (v := 1) hX dX6_seen_9 rfl rfl ?_
    refine s_iconst (q := 11) (v := 4) hX dX6_seen_10 rfl rfl ?_
    refine s_invs3_1 (q := 14) hX dX6_seen_11 rfl glk_6_93 (by decide) (Nat.le_of_ble_eq_true rfl) ⟨Nat.le_refl _, Nat.le_refl _⟩ (by omega) (c_rng (d := 0) (x := y) (lo := 1) (n := 5) rfl rfl (by decide) (by decide) (fun rj => ?_) (fun j rj lj hj ej => ?_)) 
    · refine ⟨_, rfl, ?_⟩
      refine s_if_eq_t (q := 17) (r := 27) hX dX6_seen_14 rfl rfl (by decide) ?_
      refine s_iconst (q := 28) (v := (-1)) hX dX6_seen_27 rfl rfl ?_
      refine s_iret hX dX6_seen_28 (Or.inl rfl) ⟨Nat.le_refl _, Nat.le_refl _, Nat.le_refl _, ?_⟩
      exact hcon.ret (by first | (unfold gA.seen; rw [ra]; dsimp only; rw [rj]; dsimp only; rw [rw]) | (unfold gA.seen; rw [ra]; dsimp only; rw [rj]) | (unfold gA.seen; rw [ra])) hC0 hS0 (fun _ _ => rfl)
    · subst ej
      refine ⟨_, rfl, ?_⟩
      refine s_if_eq_f (q := 17) (r := 27) hX dX6_seen_14 rfl rfl (by decide) ?_
      refine s_iload_n (q := 18) hX dX6_seen_17 rfl rfl ?_
      refine s_iconst (q := 19) (v := 0) hX dX6_seen_18 rfl rfl ?_
      refine s_bipush (q := 21) (v := 7) hX dX6_seen_19 rfl rfl (by decide) ?_
      refine s_invs3_1 (q := 24) hX dX6_seen_21 rfl glk_6_93 (by decide) (Nat.le_of_ble_eq_true rfl) ⟨Nat.le_refl _, Nat.le_refl _⟩ (by omega) (c_rng (d := 0) (x := z) (lo := 0) (n := 8) rfl rfl (by decide) (by decide) (fun rw => ?_) (fun u rw lu hu eu => ?_)) 
      · refine ⟨_, rfl, ?_⟩
        refine s_if_ne_f (q := 27) (r := 29) hX dX6_seen_24 rfl rfl (by decide) ?_
        refine s_iconst (q := 28) (v := (-1)) hX dX6_seen_27 rfl rfl ?_
        refine s_iret hX dX6_seen_28 (Or.inl rfl) ⟨Nat.le_refl _, Nat.le_refl _, Nat.le_refl _, ?_⟩
        exact hcon.ret (by first | (unfold gA.seen; rw [ra]; dsimp only; rw [rj]; dsimp only; rw [rw]) | (unfold gA.seen; rw [ra]; dsimp only; rw [rj]) | (unfold gA.seen; rw [ra])) hC0 hS0 (fun _ _ => rfl)
      · subst eu
        refine ⟨_, rfl, ?_⟩
        refine s_if_ne_t (q := 27) (r := 29) hX dX6_seen_24 rfl rfl (by decide) ?_
        refine s_aload_n (q := 30) hX dX6_seen_29 rfl rfl ?_
        refine s_getr (q := 33) hX dX6_seen_30 rfl gfl_6_58 (by assumption) rfl ?_
        refine s_iload_n (q := 34) hX dX6_seen_33 rfl rfl ?_
        refine s_iload_n (q := 35) hX dX6_seen_34 rfl rfl ?_
        refine s_iload_n (q := 36) hX dX6_seen_35 rfl rfl ?_
        refine s_invv3_1 (q := 39) hX dX6_seen_36 rfl glk_6_208 (by assumption) (Nat.le_of_ble_eq_true rfl) ⟨Nat.le_refl _, Nat.le_refl _⟩ (by omega) (c_wadd (d := 0) (i := i) (dy := j) (u := u) yn a6 g6 (fun h7 => ?_) (fun h7 M1 w1 w2 => ?_)) 
        · refine ⟨_, rfl, ?_⟩
          refine s_if_eq_t (q := 42) (r := 52) hX dX6_seen_39 rfl rfl (by decide) ?_
          refine s_bipush (q := 54) (v := (-3)) hX dX6_seen_52 rfl rfl (by decide) ?_
          refine s_iret hX dX6_seen_54 (Or.inl rfl) ⟨Nat.le_refl _, Nat.le_refl _, Nat.le_refl _, ?_⟩
          exact hcon.ret (by unfold gA.seen; rw [ra]; dsimp only; rw [rj]; dsimp only; rw [rw]; dsimp only; rw [if_neg (by omega)]) hC0 hS0 (fun _ _ => rfl)
        · refine ⟨_, rfl, ?_⟩
          refine s_if_eq_f (q := 42) (r := 52) hX dX6_seen_39 rfl rfl (by decide) ?_
          refine s_aload_n (q := 43) hX dX6_seen_42 rfl rfl ?_
          refine s_getr (q := 46) hX dX6_seen_43 rfl gfl_6_58 (by assumption) rfl ?_
          refine s_geti (q := 49) hX dX6_seen_46 rfl gfl_6_103 (by assumption) rfl ?_
          refine s_topi (v := nI (S.N.n + 1)) w1.1 ?_
          refine s_goto (q := 54) hX dX6_seen_49 rfl ?_
          refine s_iret hX dX6_seen_54 (Or.inl rfl) ⟨Nat.le_refl _, Nat.le_refl _, Nat.le_refl _, ?_⟩
          exact hcon.ret (S' := S.setN (S.N.add i j u)) (by unfold gA.seen; rw [ra]; dsimp only; rw [rj]; dsimp only; rw [rw]; dsimp only; rw [if_pos h7]) hC0 ⟨a1.keep9 (w2 1 (by omega) (by omega) (by omega) (by omega)) (w2 2 (by omega) (by omega) (by omega) (by omega)), a2.keep (fun c a b => w2 c (by omega) (by omega) (by omega) (by omega)), a3.keep (fun c a b => w2 c (by omega) (by omega) (by omega) (by omega)), ⟨n1, a4.keep (by omega) (fun c a b => w2 c (by omega) (by omega) (by omega) (by omega))⟩, ⟨n2, a5.keep (by omega) (fun c a b => w2 c (by omega) (by omega) (by omega) (by omega))⟩, w1⟩ (fun c hc => w2 c (by omega) (by omega) (by omega) (by omega))
set_option maxHeartbeats 4000000 in
set_option maxRecDepth 100000 in
theorem k_forget {d t b : Nat}  {S : gA} {sh : List gS} {M : gM} {Q : Option Value → List gS → gM → Prop} (hd : 0 ≤ d) (hC : isCls sh t) (hS : CLS M t S) (hk : S.ok b) (hb : b ≤ 20000) (hcon : kC sh M (S.forget) Q) : gC mX6_forget d 0 0 [.ref 0] sh M Q := by
  have hC0 := hC
  have hS0 := hS
  have hk0 := hk
  obtain ⟨y0, yt, yp, yw, ys, yr, yd, yk, yc, yn, yu⟩ := hC
  have twn := hC0.tw
  have tdf := hC0.df
  have yp2 := yp
  have ys2 := ys
  have yr2 := yr
  have yd2 := yd
  have yk2 := yk
  have yc2 := yc
  have yn2 := yn
  have twn2 := twn
  have tdf2 := tdf
  obtain ⟨p0, p1, p2⟩ := yp2
  obtain ⟨z0, z1, z2, z3, z4, z5, z6⟩ := twn2
  obtain ⟨zz0, zz1, zz2, zz3, zz4, zz5, zz6⟩ := tdf2
  obtain ⟨s0, s1, s2, s3⟩ := ys2
  obtain ⟨r0, r1, r2, r3⟩ := yr2
  obtain ⟨d0, d1, d2⟩ := yd2
  obtain ⟨k0, k1, k2⟩ := yk2
  obtain ⟨q0, q1, q2, q3, q4⟩ := yc2
  obtain ⟨v0, v1, v2, v3, v4, v5, v6⟩ := yn2
  obtain ⟨a1, a2, a3, ⟨n1, a4⟩, ⟨n2, a5⟩, a6⟩ := hS
  obtain ⟨g1, g2, g3, g4, g5, g6, g7⟩ := hk
  have g0 := g1
  obtain ⟨o1, o2, o3, o4, o5, o6, o7, o8⟩ := g0
  have hap : apart t 18 := by unfold apart; omega
  have hap2 : apart t 22 := by unfold apart; omega
  refine gC_of (rt := 1) (ini := false) gm_X6_forget rfl (by decide) (Nat.le_of_ble_eq_true rfl) (fun X hX => ?_)
  refine s_aload_n (q := 1) hX dX6_forget_0 rfl rfl ?_
  refine s_getr (q := 4) hX dX6_forget_1 rfl gfl_6_58 (by assumption) rfl ?_
  refine s_geti (q := 7) hX dX6_forget_4 rfl gfl_6_103 (by assumption) rfl ?_
  refine s_topi (v := nI (S.N.n)) a6.1 ?_
  refine s_istore_n (q := 8) (lv' := [(0, _), (1, _)]) hX dX6_forget_7 rfl (Nat.le_of_ble_eq_true rfl) rfl ?_
  refine s_aload_n (q := 9) hX dX6_forget_8 rfl rfl ?_
  refine s_getr (q := 12) hX dX6_forget_9 rfl gfl_6_58 (by assumption) rfl ?_
  refine s_iconst (q := 13) (v := 0) hX dX6_forget_12 rfl rfl ?_
  refine s_puti (q := 16) hX dX6_forget_13 rfl gfl_6_103 (by assumption) rfl ?_
  refine s_iload_n (q := 17) hX dX6_forget_16 rfl rfl ?_
  refine s_iret hX dX6_forget_17 (Or.inl rfl) ⟨Nat.le_refl _, Nat.le_refl _, Nat.le_refl _, ?_⟩
  exact hcon.ret (S' := S.setN (0, S.N.2)) rfl hC0 ⟨a1.keep9 (gsr_n _ _ (by omega)) (gsr_n _ _ (by omega)), a2.keep (fun c a b => gsr_n _ _ (by omega)), a3.keep (fun c a b => gsr_n _ _ (by omega)), ⟨n1, a4.keep (by omega) (fun c a b => gsr_n _ _ (by omega))⟩, ⟨n2, a5.keep (by omega) (fun c a b => gsr_n _ _ (by omega))⟩, ⟨by rw [gsr_s, pk_us]; rfl, fun j hj => absurd hj (Nat.not_lt_zero j)⟩⟩ (fun c hc => gsr_n _ _ (by omega))
set_option maxHeartbeats 4000000 in
set_option maxRecDepth 100000 in
theorem k_spent {d t b : Nat} {x y : Int32} {S : gA} {sh : List gS} {M : gM} {Q : Option Value → List gS → gM → Prop} (hd : 10 ≤ d) (hC : isCls sh t) (hS : CLS M t S) (hk : S.ok b) (hb : b ≤ 20000) (hcon : kC sh M (S.spent x y) Q) : gC mX6_spent d 0 0 [.ref 0, .int x, .int y] sh M Q := by
  have hC0 := hC
  have hS0 := hS
  have hk0 := hk
  obtain ⟨y0, yt, yp, yw, ys, yr, yd, yk, yc, yn, yu⟩ := hC
  have twn := hC0.tw
  have tdf := hC0.df
  have yp2 := yp
  have ys2 := ys
  have yr2 := yr
  have yd2 := yd
  have yk2 := yk
  have yc2 := yc
  have yn2 := yn
  have twn2 := twn
  have tdf2 := tdf
  obtain ⟨p0, p1, p2⟩ := yp2
  obtain ⟨z0, z1, z2, z3, z4, z5, z6⟩ := twn2
  obtain ⟨zz0, zz1, zz2, zz3, zz4, zz5, zz6⟩ := tdf2
  obtain ⟨s0, s1, s2, s3⟩ := ys2
  obtain ⟨r0, r1, r2, r3⟩ := yr2
  obtain ⟨d0, d1, d2⟩ := yd2
  obtain ⟨k0, k1, k2⟩ := yk2
  obtain ⟨q0, q1, q2, q3, q4⟩ := yc2
  obtain ⟨v0, v1, v2, v3, v4, v5, v6⟩ := yn2
  obtain ⟨a1, a2, a3, ⟨n1, a4⟩, ⟨n2, a5⟩, a6⟩ := hS
  obtain ⟨g1, g2, g3, g4, g5, g6, g7⟩ := hk
  have g0 := g1
  obtain ⟨o1, o2, o3, o4, o5, o6, o7, o8⟩ := g0
  have hap : apart t 18 := by unfold apart; omega
  have hap2 : apart t 22 := by unfold apart; omega
  refine gC_of (rt := 1) (ini := false) gm_X6_spent rfl (by decide) (Nat.le_of_ble_eq_true rfl) (fun X hX => ?_)
  cases rx : rng x 0 S.T.P with
  | none =>
    refine s_aload_n (q := 1) hX dX6_spent_0 rfl rfl ?_
    refine s_iload_n (q := 2) hX dX6_spent_1 rfl rfl ?_
    refine s_invv1_1 (q := 5) hX dX6_spent_2 rfl glk_6_104 (by assumption) (Nat.le_of_ble_eq_true rfl) ⟨Nat.le_refl _, Nat.le_refl _⟩ (by omega) (c_isPerson (d := 1) (x := x) (Nat.le_refl _) hC0 hS0 g1 (fun ra => ?_) (fun i ra hi ei => absurd (rx.symm.trans ra) (fun z => by cases z))) 
    · refine ⟨_, rfl, ?_⟩
      refine s_if_eq_t (q := 8) (r := 24) hX dX6_spent_5 rfl rfl (by decide) ?_
      refine s_iconst (q := 25) (v := (-1)) hX dX6_spent_24 rfl rfl ?_
      refine s_iret hX dX6_spent_25 (Or.inl rfl) ⟨Nat.le_refl _, Nat.le_refl _, Nat.le_refl _, ?_⟩
      exact hcon.ret (by unfold gA.spent; rw [rx]) hC0 hS0 (fun _ _ => rfl)
  | some i =>
    obtain ⟨-, hi, ei⟩ := rng_s rx
    subst ei
    have hla := S.N.la_le g6 i S.N.n (Nat.le_refl _)
    have ISP : ∀ {Q : Option Value → List gS → gM → Prop}, Q (some (.int 1)) sh M → gC mX6_isPerson 1 0 0 [.ref 0, .int (nI i)] sh M Q := fun hq => c_isPerson (d := 1) (Nat.le_refl _) hC0 hS0 g1 (fun ra => absurd (rx.symm.trans ra) (fun z => by cases z)) (fun _ _ _ _ => hq)
    cases ry : rng y 0 (S.N.la i S.N.n + 1) with
    | none =>
      refine s_aload_n (q := 1) hX dX6_spent_0 rfl rfl ?_
      refine s_iload_n (q := 2) hX dX6_spent_1 rfl rfl ?_
      refine s_invv1_1 (q := 5) hX dX6_spent_2 rfl glk_6_104 (by assumption) (Nat.le_of_ble_eq_true rfl) ⟨Nat.le_refl _, Nat.le_refl _⟩ (by omega) (ISP ?_) 
      · refine ⟨_, rfl, ?_⟩
        refine s_if_eq_f (q := 8) (r := 24) hX dX6_spent_5 rfl rfl (by decide) ?_
        refine s_iload_n (q := 9) hX dX6_spent_8 rfl rfl ?_
        refine s_if_lt (q := 12) (r := 24) hX dX6_spent_9 rfl rfl (fun c9 => ?_) (fun c9 => ?_)
        · refine s_iconst (q := 25) (v := (-1)) hX dX6_spent_24 rfl rfl ?_
          refine s_iret hX dX6_spent_25 (Or.inl rfl) ⟨Nat.le_refl _, Nat.le_refl _, Nat.le_refl _, ?_⟩
          exact hcon.ret (by unfold gA.spent; rw [rx]; dsimp only; rw [ry]) hC0 hS0 (fun _ _ => rfl)
        · refine s_iload_n (q := 13) hX dX6_spent_12 rfl rfl ?_
          refine s_aload_n (q := 14) hX dX6_spent_13 rfl rfl ?_
          refine s_getr (q := 17) hX dX6_spent_14 rfl gfl_6_58 (by assumption) rfl ?_
          refine s_iload_n (q := 18) hX dX6_spent_17 rfl rfl ?_
          refine s_invv1_1 (q := 21) hX dX6_spent_18 rfl glk_6_210 (by assumption) (Nat.le_of_ble_eq_true rfl) ⟨Nat.le_refl _, Nat.le_refl _⟩ (by omega) (c_lastDay (d := 1) (Nat.le_refl _) yn a6 g6 (by omega) ?_) 
          refine ⟨_, rfl, ?_⟩
          refine s_icmp_le (q := 24) (r := 26) hX dX6_spent_21 rfl rfl (fun c21 => ?_) (fun c21 => ?_)
          · exact (y4 (by omega) c9 c21 ry).elim
          · refine s_iconst (q := 25) (v := (-1)) hX dX6_spent_24 rfl rfl ?_
            refine s_iret hX dX6_spent_25 (Or.inl rfl) ⟨Nat.le_refl _, Nat.le_refl _, Nat.le_refl _, ?_⟩
            exact hcon.ret (by unfold gA.spent; rw [rx]; dsimp only; rw [ry]) hC0 hS0 (fun _ _ => rfl)
    | some k =>
      obtain ⟨-, hk, ek⟩ := rng_s ry
      subst ek
      have hwf := S.T.wy_fp S.N i (S.N.la i S.N.n) (S.U.d % 7) 0 (S.U.tr i)
      have hwle := S.T.wy_le S.N i o2 (S.N.la i S.N.n) (S.U.d % 7) 0 (S.U.tr i)
      have hp7 : 7 ^ (S.N.la i S.N.n) ≤ 7 ^ 4 := Nat.pow_le_pow_right (by decide) hla
      have hp8 : (7 : Nat) ^ 4 = 2401 := by decide
      cases hfp : S.T.fp S.N i (S.N.la i S.N.n) (S.U.d % 7) 0 (S.U.tr i) with
      | none =>
        have hw0 : S.T.wy S.N i (S.N.la i S.N.n) (S.U.d % 7) 0 (S.U.tr i) = 0 := hwf.mpr hfp
        refine s_aload_n (q := 1) hX dX6_spent_0 rfl rfl ?_
        refine s_iload_n (q := 2) hX dX6_spent_1 rfl rfl ?_
        refine s_invv1_1 (q := 5) hX dX6_spent_2 rfl glk_6_104 (by assumption) (Nat.le_of_ble_eq_true rfl) ⟨Nat.le_refl _, Nat.le_refl _⟩ (by omega) (ISP ?_) 
        · refine ⟨_, rfl, ?_⟩
          refine s_if_eq_f (q := 8) (r := 24) hX dX6_spent_5 rfl rfl (by decide) ?_
          refine s_iload_n (q := 9) hX dX6_spent_8 rfl rfl ?_
          refine s_if_lt_f (q := 12) (r := 24) hX dX6_spent_9 rfl rfl (nI_pos (by omega)) ?_
          refine s_iload_n (q := 13) hX dX6_spent_12 rfl rfl ?_
          refine s_aload_n (q := 14) hX dX6_spent_13 rfl rfl ?_
          refine s_getr (q := 17) hX dX6_spent_14 rfl gfl_6_58 (by assumption) rfl ?_
          refine s_iload_n (q := 18) hX dX6_spent_17 rfl rfl ?_
          refine s_invv1_1 (q := 21) hX dX6_spent_18 rfl glk_6_210 (by assumption) (Nat.le_of_ble_eq_true rfl) ⟨Nat.le_refl _, Nat.le_refl _⟩ (by omega) (c_lastDay (d := 1) (Nat.le_refl _) yn a6 g6 (by omega) ?_) 
          refine ⟨_, rfl, ?_⟩
          refine s_icmp_le_t (q := 24) (r := 26) hX dX6_spent_21 rfl rfl ((nI_leI (by omega) (by omega)).mpr (by omega)) ?_
          refine s_aload_n (q := 27) hX dX6_spent_26 rfl rfl ?_
          refine s_getr (q := 30) hX dX6_spent_27 rfl gfl_6_58 (by assumption) rfl ?_
          refine s_aload_n (q := 31) hX dX6_spent_30 rfl rfl ?_
          refine s_getr (q := 34) hX dX6_spent_31 rfl gfl_6_19 (by assumption) rfl ?_
          refine s_iload_n (q := 35) hX dX6_spent_34 rfl rfl ?_
          refine s_aload_n (q := 36) hX dX6_spent_35 rfl rfl ?_
          refine s_getr (q := 39) hX dX6_spent_36 rfl gfl_6_29 (by assumption) rfl ?_
          refine s_invv3_0 (q := 42) hX dX6_spent_39 rfl glk_6_213 (by assumption) (Nat.le_of_ble_eq_true rfl) ⟨Nat.le_refl _, Nat.le_refl _⟩ (by omega) (c_recall (d := 9) (U := S.U) (Nat.le_refl _) yn a6 g6 twn a2 g1 (by omega) hi ys a3 g3.1 (by omega) (fun M1 w1 w2 w3 w4 => ?_)) 
          refine ⟨rfl, ?_⟩
          refine s_iload_n (q := 43) hX dX6_spent_42 rfl rfl ?_
          refine s_nif_ne (a := k) (b := 0) (q := 46) (r := 54) hX dX6_spent_43 rfl rfl rfl rfl (by omega) (by omega) (fun c43 => ?_) (fun c43 => ?_)
          · refine s_aload_n (q := 55) hX dX6_spent_54 rfl rfl ?_
            refine s_getr (q := 58) hX dX6_spent_55 rfl gfl_6_58 (by assumption) rfl ?_
            refine s_geti (q := 61) hX dX6_spent_58 rfl gfl_6_216 (by assumption) rfl ?_
            refine s_topi (v := nI (S.T.wy S.N i (S.N.la i S.N.n) (S.U.d % 7) 0 (S.U.tr i))) w1 ?_
            refine s_nif_ne (a := S.T.wy S.N i (S.N.la i S.N.n) (S.U.d % 7) 0 (S.U.tr i)) (b := 0) (q := 64) (r := 69) hX dX6_spent_61 rfl rfl rfl rfl (by omega) (by omega) (fun c61 => ?_) (fun c61 => ?_)
            · refine s_aload_n (q := 70) hX dX6_spent_69 rfl rfl ?_
              refine s_getr (q := 73) hX dX6_spent_70 rfl gfl_6_58 (by assumption) rfl ?_
              refine s_getr (q := 76) hX dX6_spent_73 rfl gfl_6_219 (by assumption) rfl ?_
              refine s_iload_n (q := 77) hX dX6_spent_76 rfl rfl ?_
              refine s_iconst (q := 78) (v := 1) hX dX6_spent_77 rfl rfl ?_
              refine s_isub (q := 79) hX dX6_spent_78 rfl rfl ?_
              refine s_iald (k := k - 1) (q := 80) hX dX6_spent_79 rfl (by assumption) (pk_sub (b := 1) (by omega)) (by omega) (by omega) ?_
              refine s_iret hX dX6_spent_80 (Or.inl rfl) ⟨Nat.le_refl _, Nat.le_refl _, Nat.le_refl _, ?_⟩
              exact absurd c61 (by omega)
            · refine s_bipush (q := 66) (v := (-4)) hX dX6_spent_64 rfl rfl (by decide) ?_
              refine s_goto (q := 80) hX dX6_spent_66 rfl ?_
              refine s_iret hX dX6_spent_80 (Or.inl rfl) ⟨Nat.le_refl _, Nat.le_refl _, Nat.le_refl _, ?_⟩
              exact hcon.ret (by unfold gA.spent; rw [rx]; dsimp only; rw [ry]; dsimp only; rw [if_neg (by omega), hfp]) hC0 (hS0.keep yt (w4 1 (by omega) (by omega) (by omega) (by omega) (by omega)) (w4 2 (by omega) (by omega) (by omega) (by omega) (by omega)) (fun c a b => w4 c (by omega) (by omega) (by omega) (by omega) (by omega)) (fun c a b => w4 c (by omega) (by omega) (by omega) (by omega) (by omega)) (fun c a b => w4 c (by omega) (by omega) (by omega) (by omega) (by omega)) (w3 6 (by decide)) (fun c a b => w4 c (by omega) (by omega) (by omega) (by omega) (by omega))) (fun c hc => w4 c (by omega) (by omega) (by omega) (by omega) (by omega))
          · refine s_aload_n (q := 47) hX dX6_spent_46 rfl rfl ?_
            refine s_getr (q := 50) hX dX6_spent_47 rfl gfl_6_58 (by assumption) rfl ?_
            refine s_geti (q := 53) hX dX6_spent_50 rfl gfl_6_216 (by assumption) rfl ?_
            refine s_topi (v := nI (S.T.wy S.N i (S.N.la i S.N.n) (S.U.d % 7) 0 (S.U.tr i))) w1 ?_
            refine s_iret hX dX6_spent_53 (Or.inl rfl) ⟨Nat.le_refl _, Nat.le_refl _, Nat.le_refl _, ?_⟩
            exact hcon.ret (by unfold gA.spent; rw [rx]; dsimp only; rw [ry]; dsimp only; rw [if_pos (by omega)]) hC0 (hS0.keep yt (w4 1 (by omega) (by omega) (by omega) (by omega) (by omega)) (w4 2 (by omega) (by omega) (by omega) (by omega) (by omega)) (fun c a b => w4 c (by omega) (by omega) (by omega) (by omega) (by omega)) (fun c a b => w4 c (by omega) (by omega) (by omega) (by omega) (by omega)) (fun c a b => w4 c (by omega) (by omega) (by omega) (by omega) (by omega)) (w3 6 (by decide)) (fun c a b => w4 c (by omega) (by omega) (by omega) (by omega) (by omega))) (fun c hc => w4 c (by omega) (by omega) (by omega) (by omega) (by omega))
      | some p =>
        have hw0 : ¬ S.T.wy S.N i (S.N.la i S.N.n) (S.U.d % 7) 0 (S.U.tr i) = 0 := fun z => by rw [hwf.mp z] at hfp; cases hfp
        refine s_aload_n (q := 1) hX dX6_spent_0 rfl rfl ?_
        refine s_iload_n (q := 2) hX dX6_spent_1 rfl rfl ?_
        refine s_invv1_1 (q := 5) hX dX6_spent_2 rfl glk_6_104 (by assumption) (Nat.le_of_ble_eq_true rfl) ⟨Nat.le_refl _, Nat.le_refl _⟩ (by omega) (ISP ?_) 
        · refine ⟨_, rfl, ?_⟩
          refine s_if_eq_f (q := 8) (r := 24) hX dX6_spent_5 rfl rfl (by decide) ?_
          refine s_iload_n (q := 9) hX dX6_spent_8 rfl rfl ?_
          refine s_if_lt_f (q := 12) (r := 24) hX dX6_spent_9 rfl rfl (nI_pos (by omega)) ?_
          refine s_iload_n (q := 13) hX dX6_spent_12 rfl rfl ?_
          refine s_aload_n (q := 14) hX dX6_spent_13 rfl rfl ?_
          refine s_getr (q := 17) hX dX6_spent_14 rfl gfl_6_58 (by assumption) rfl ?_
          refine s_iload_n (q := 18) hX dX6_spent_17 rfl rfl ?_
          refine s_invv1_1 (q := 21) hX dX6_spent_18 rfl glk_6_210 (by assumption) (Nat.le_of_ble_eq_true rfl) ⟨Nat.le_refl _, Nat.le_refl _⟩ (by omega) (c_lastDay (d := 1) (Nat.le_refl _) yn a6 g6 (by omega) ?_) 
          refine ⟨_, rfl, ?_⟩
          refine s_icmp_le_t (q := 24) (r := 26) hX dX6_spent_21 rfl rfl ((nI_leI (by omega) (by omega)).mpr (by omega)) ?_
          refine s_aload_n (q := 27) hX dX6_spent_26 rfl rfl ?_
          refine s_getr (q := 30) hX dX6_spent_27 rfl gfl_6_58 (by assumption) rfl ?_
          refine s_aload_n (q := 31) hX dX6_spent_30 rfl rfl ?_
          refine s_getr (q := 34) hX dX6_spent_31 rfl gfl_6_19 (by assumption) rfl ?_
          refine s_iload_n (q := 35) hX dX6_spent_34 rfl rfl ?_
          refine s_aload_n (q := 36) hX dX6_spent_35 rfl rfl ?_
          refine s_getr (q := 39) hX dX6_spent_36 rfl gfl_6_29 (by assumption) rfl ?_
          refine s_invv3_0 (q := 42) hX dX6_spent_39 rfl glk_6_213 (by assumption) (Nat.le_of_ble_eq_true rfl) ⟨Nat.le_refl _, Nat.le_refl _⟩ (by omega) (c_recall (d := 9) (U := S.U) (Nat.le_refl _) yn a6 g6 twn a2 g1 (by omega) hi ys a3 g3.1 (by omega) (fun M1 w1 w2 w3 w4 => ?_)) 
          refine ⟨rfl, ?_⟩
          refine s_iload_n (q := 43) hX dX6_spent_42 rfl rfl ?_
          refine s_nif_ne (a := k) (b := 0) (q := 46) (r := 54) hX dX6_spent_43 rfl rfl rfl rfl (by omega) (by omega) (fun c43 => ?_) (fun c43 => ?_)
          · refine s_aload_n (q := 55) hX dX6_spent_54 rfl rfl ?_
            refine s_getr (q := 58) hX dX6_spent_55 rfl gfl_6_58 (by assumption) rfl ?_
            refine s_geti (q := 61) hX dX6_spent_58 rfl gfl_6_216 (by assumption) rfl ?_
            refine s_topi (v := nI (S.T.wy S.N i (S.N.la i S.N.n) (S.U.d % 7) 0 (S.U.tr i))) w1 ?_
            refine s_nif_ne (a := S.T.wy S.N i (S.N.la i S.N.n) (S.U.d % 7) 0 (S.U.tr i)) (b := 0) (q := 64) (r := 69) hX dX6_spent_61 rfl rfl rfl rfl (by omega) (by omega) (fun c61 => ?_) (fun c61 => ?_)
            · refine s_aload_n (q := 70) hX dX6_spent_69 rfl rfl ?_
              refine s_getr (q := 73) hX dX6_spent_70 rfl gfl_6_58 (by assumption) rfl ?_
              refine s_getr (q := 76) hX dX6_spent_73 rfl gfl_6_219 (by assumption) rfl ?_
              refine s_iload_n (q := 77) hX dX6_spent_76 rfl rfl ?_
              refine s_iconst (q := 78) (v := 1) hX dX6_spent_77 rfl rfl ?_
              refine s_isub (q := 79) hX dX6_spent_78 rfl rfl ?_
              refine s_iald (k := k - 1) (q := 80) hX dX6_spent_79 rfl (by assumption) (pk_sub (b := 1) (by omega)) (by omega) (by omega) ?_
              refine s_iret hX dX6_spent_80 (Or.inl rfl) ⟨Nat.le_refl _, Nat.le_refl _, Nat.le_refl _, ?_⟩
              exact hcon.ret (by unfold gA.spent; rw [rx]; dsimp only; rw [ry]; dsimp only; rw [if_neg (by omega), hfp]; dsimp only; rw [w2 p hfp (k - 1) (by omega)]) hC0 (hS0.keep yt (w4 1 (by omega) (by omega) (by omega) (by omega) (by omega)) (w4 2 (by omega) (by omega) (by omega) (by omega) (by omega)) (fun c a b => w4 c (by omega) (by omega) (by omega) (by omega) (by omega)) (fun c a b => w4 c (by omega) (by omega) (by omega) (by omega) (by omega)) (fun c a b => w4 c (by omega) (by omega) (by omega) (by omega) (by omega)) (w3 6 (by decide)) (fun c a b => w4 c (by omega) (by omega) (by omega) (by omega) (by omega))) (fun c hc => w4 c (by omega) (by omega) (by omega) (by omega) (by omega))
            · refine s_bipush (q := 66) (v := (-4)) hX dX6_spent_64 rfl rfl (by decide) ?_
              refine s_goto (q := 80) hX dX6_spent_66 rfl ?_
              refine s_iret hX dX6_spent_80 (Or.inl rfl) ⟨Nat.le_refl _, Nat.le_refl _, Nat.le_refl _, ?_⟩
              exact absurd c61 (by omega)
          · refine s_aload_n (q := 47) hX dX6_spent_46 rfl rfl ?_
            refine s_getr (q := 50) hX dX6_spent_47 rfl gfl_6_58 (by assumption) rfl ?_
            refine s_geti (q := 53) hX dX6_spent_50 rfl gfl_6_216 (by assumption) rfl ?_
            refine s_topi (v := nI (S.T.wy S.N i (S.N.la i S.N.n) (S.U.d % 7) 0 (S.U.tr i))) w1 ?_
            refine s_iret hX dX6_spent_53 (Or.inl rfl) ⟨Nat.le_refl _, Nat.le_refl _, Nat.le_refl _, ?_⟩
            exact hcon.ret (by unfold gA.spent; rw [rx]; dsimp only; rw [ry]; dsimp only; rw [if_pos (by omega)]) hC0 (hS0.keep yt (w4 1 (by omega) (by omega) (by omega) (by omega) (by omega)) (w4 2 (by omega) (by omega) (by omega) (by omega) (by omega)) (fun c a b => w4 c (by omega) (by omega) (by omega) (by omega) (by omega)) (fun c a b => w4 c (by omega) (by omega) (by omega) (by omega) (by omega)) (fun c a b => w4 c (by omega) (by omega) (by omega) (by omega) (by omega)) (w3 6 (by decide)) (fun c a b => w4 c (by omega) (by omega) (by omega) (by omega) (by omega))) (fun c hc => w4 c (by omega) (by omega) (by omega) (by omega) (by omega))
