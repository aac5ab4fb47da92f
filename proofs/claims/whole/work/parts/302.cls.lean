theorem CLS.kp {M M' : gM} {t : Nat} {S : gA} (h : CLS M t S) (ht : t = 4 ∨ t = 11) (hf : ∀ c, c = 1 ∨ c = 2 ∨ (t ≤ c ∧ c ≤ t + 5) ∨ (18 ≤ c ∧ c ≤ 21) ∨ (26 ≤ c ∧ c < 70) ∨ (75 ≤ c ∧ c ≤ 78) → M' c = M c) : CLS M' t S := h.keep ht (hf 1 (by omega)) (hf 2 (by omega)) (fun c a b => hf c (by omega)) (fun c a b => hf c (by omega)) (fun c a b => hf c (by omega)) (by rw [hf 75 (by omega)]) (fun c a b => hf c (by omega))
theorem CLS.stU {M M' : gM} {t : Nat} {S : gA} {U : gU} (h : CLS M t S) (ht : t = 4 ∨ t = 11) (hU : STR M' 18 S.T.P U) (hf : ∀ c, c ≠ t + 6 → (c < 18 ∨ 18 + 3 < c) → M' c = M c) : CLS M' t (S.setU U) := by
  obtain ⟨a1, a2, a3, ⟨n1, a4⟩, ⟨n2, a5⟩, a6⟩ := h
  exact ⟨a1.keep9 (hf 1 (by omega) (by omega)) (hf 2 (by omega) (by omega)), a2.keep (fun c a b => hf c (by omega) (by omega)), hU, ⟨n1, a4.keep (by omega) (fun c a b => hf c (by omega) (by omega))⟩, ⟨n2, a5.keep (by omega) (fun c a b => hf c (by omega) (by omega))⟩, a6.keep (by rw [hf 75 (by omega) (by omega)]) (hf 76 (by omega) (by omega)) (hf 77 (by omega) (by omega)) (hf 78 (by omega) (by omega))⟩
set_option maxHeartbeats 4000000 in
set_option maxRecDepth 100000 in
theorem c_know {d t b : Nat} {S : gA} {sh : List gS} {M : gM} {Q : Option Value → List gS → gM → Prop} (hd : 2 ≤ d) (hC : isCls sh t) (hS : CLS M t S) (hk : S.ok b) (hb : b ≤ 20000) (hcon : ∀ M', CLS M' t S.know → (∀ c, (c < 26 ∨ 60 ≤ c) → M' c = M c) → Q none sh M') : gC mX2_put d 0 0 [.ref 26, .ref 18] sh M Q := by
  have hC0 := hC
  have hS0 := hS
  have hk0 := hk
  obtain ⟨y0, yt, yp, yw, ys, yr, yd, yk, yc, yn, yu⟩ := hC
  have twn := hC0.tw
  have tdf := hC0.df
  have yp2 := yp
  have ys2 := ys
  have yr2 := yr
  have yd2 := yd
  have yk2 := yk
  have yc2 := yc
  have yn2 := yn
  have twn2 := twn
  have tdf2 := tdf
  obtain ⟨p0, p1, p2⟩ := yp2
  obtain ⟨z0, z1, z2, z3, z4, z5, z6⟩ := twn2
  obtain ⟨zz0, zz1, zz2, zz3, zz4, zz5, zz6⟩ := tdf2
  obtain ⟨s0, s1, s2, s3⟩ := ys2
  obtain ⟨r0, r1, r2, r3⟩ := yr2
  obtain ⟨d0, d1, d2⟩ := yd2
  obtain ⟨k0, k1, k2⟩ := yk2
  obtain ⟨q0, q1, q2, q3, q4⟩ := yc2
  obtain ⟨v0, v1, v2, v3, v4, v5, v6⟩ := yn2
  obtain ⟨a1, a2, a3, ⟨n1, a4⟩, ⟨n2, a5⟩, a6⟩ := hS
  obtain ⟨g1, g2, g3, g4, g5, g6, g7⟩ := hk
  have g0 := g1
  obtain ⟨o1, o2, o3, o4, o5, o6, o7, o8⟩ := g0
  have hap : apart t 18 := by unfold apart; omega
  have hap2 : apart t 22 := by unfold apart; omega
  refine c_put (n := 8) hd (by omega) (by omega) o1 yd a4 ys (by omega) a3 (fun M1 w1 w2 => ?_)
  refine hcon M1 ⟨a1.keep9 (w2 1 (by omega)) (w2 2 (by omega)), a2.keep (fun c a b => w2 c (by omega)), a3.keep (fun c a b => w2 c (by omega)), ⟨_, w1⟩, ⟨n2, a5.keep (by omega) (fun c a b => w2 c (by omega))⟩, a6.keep (by rw [w2 75 (by omega)]) (w2 76 (by omega)) (w2 77 (by omega)) (w2 78 (by omega))⟩ (fun c hc => w2 c (by omega))
set_option maxHeartbeats 4000000 in
set_option maxRecDepth 100000 in
theorem k_can {d t b : Nat} {x y : Int32} {S : gA} {sh : List gS} {M : gM} {Q : Option Value → List gS → gM → Prop} (hd : 3 ≤ d) (hC : isCls sh t) (hS : CLS M t S) (hk : S.ok b) (hb : b ≤ 20000) (hcon : kC sh M (S.can x y) Q) : gC mX6_can d 0 0 [.ref 0, .int x, .int y] sh M Q := by
  have hC0 := hC
  have hS0 := hS
  have hk0 := hk
  obtain ⟨y0, yt, yp, yw, ys, yr, yd, yk, yc, yn, yu⟩ := hC
  have twn := hC0.tw
  have tdf := hC0.df
  have yp2 := yp
  have ys2 := ys
  have yr2 := yr
  have yd2 := yd
  have yk2 := yk
  have yc2 := yc
  have yn2 := yn
  have twn2 := twn
  have tdf2 := tdf
  obtain ⟨p0, p1, p2⟩ := yp2
  obtain ⟨z0, z1, z2, z3, z4, z5, z6⟩ := twn2
  obtain ⟨zz0, zz1, zz2, zz3, zz4, zz5, zz6⟩ := tdf2
  obtain ⟨s0, s1, s2, s3⟩ := ys2
  obtain ⟨r0, r1, r2, r3⟩ := yr2
  obtain ⟨d0, d1, d2⟩ := yd2
  obtain ⟨k0, k1, k2⟩ := yk2
  obtain ⟨q0, q1, q2, q3, q4⟩ := yc2
  obtain ⟨v0, v1, v2, v3, v4, v5, v6⟩ := yn2
  obtain ⟨a1, a2, a3, ⟨n1, a4⟩, ⟨n2, a5⟩, a6⟩ := hS
  obtain ⟨g1, g2, g3, g4, g5, g6, g7⟩ := hk
  have g0 := g1
  obtain ⟨o1, o2, o3, o4, o5, o6, o7, o8⟩ := g0
  have hap : apart t 18 := by unfold apart; omega
  have hap2 : apart t 22 := by unfold apart; omega
  refine gC_of (rt := 1) (ini := false) gm_X6_can rfl (by decide) (Nat.le_of_ble_eq_true rfl) (fun X hX => ?_)
  refine s_aload_n (q := 1) hX dX6_can_0 rfl rfl ?_
  refine s_iload_n (q := 2) hX dX6_can_1 rfl rfl ?_
  refine s_invv1_1 (q := 5) hX dX6_can_2 rfl glk_6_104 (by assumption) (Nat.le_of_ble_eq_true rfl) ⟨Nat.le_refl _, Nat.le_refl _⟩ (by omega) (c_isPerson (d := 1) (x := x) (Nat.le_refl _) hC0 hS0 g1 (fun ra => ?_) (fun i ra hi ei => ?_)) 
  · refine ⟨_, rfl, ?_⟩
    refine s_if_eq_t (q := 8) (r := 16) hX dX6_can_5 rfl rfl (by decide) ?_
    refine s_iconst (q := 17) (v := (-1)) hX dX6_can_16 rfl rfl ?_
    refine s_iret hX dX6_can_17 (Or.inl rfl) ⟨Nat.le_refl _, Nat.le_refl _, Nat.le_refl _, ?_⟩
    exact hcon.ret (by first | (unfold gA.can; rw [ra]; dsimp only; rw [rb]) | (unfold gA.can; rw [ra])) hC0 hS0 (fun _ _ => rfl)
  · subst ei
    refine ⟨_, rfl, ?_⟩
    refine s_if_eq_f (q := 8) (r := 16) hX dX6_can_5 rfl rfl (by decide) ?_
    refine s_aload_n (q := 9) hX dX6_can_8 rfl rfl ?_
    refine s_iload_n (q := 10) hX dX6_can_9 rfl rfl ?_
    refine s_invv1_1 (q := 13) hX dX6_can_10 rfl glk_6_123 (by assumption) (Nat.le_of_ble_eq_true rfl) ⟨Nat.le_refl _, Nat.le_refl _⟩ (by omega) (c_isDeed (d := 1) (x := y) (Nat.le_refl _) hC0 hS0 g1 (fun rb => ?_) (fun k rb hk ek => ?_)) 
    · refine ⟨_, rfl, ?_⟩
      refine s_if_ne_f (q := 16) (r := 18) hX dX6_can_13 rfl rfl (by decide) ?_
      refine s_iconst (q := 17) (v := (-1)) hX dX6_can_16 rfl rfl ?_
      refine s_iret hX dX6_can_17 (Or.inl rfl) ⟨Nat.le_refl _, Nat.le_refl _, Nat.le_refl _, ?_⟩
      exact hcon.ret (by first | (unfold gA.can; rw [ra]; dsimp only; rw [rb]) | (unfold gA.can; rw [ra])) hC0 hS0 (fun _ _ => rfl)
    · subst ek
      refine ⟨_, rfl, ?_⟩
      refine s_if_ne_t (q := 16) (r := 18) hX dX6_can_13 rfl rfl (by decide) ?_
      refine s_aload_n (q := 19) hX dX6_can_18 rfl rfl ?_
      refine s_getr (q := 22) hX dX6_can_19 rfl gfl_6_19 (by assumption) rfl ?_
      refine s_iload_n (q := 23) hX dX6_can_22 rfl rfl ?_
      refine s_iload_n (q := 24) hX dX6_can_23 rfl rfl ?_
      refine s_aload_n (q := 25) hX dX6_can_24 rfl rfl ?_
      refine s_getr (q := 28) hX dX6_can_25 rfl gfl_6_29 (by assumption) rfl ?_
      refine s_getr (q := 31) hX dX6_can_28 rfl gfl_6_120 (by assumption) rfl ?_
      refine s_iload_n (q := 32) hX dX6_can_31 rfl rfl ?_
      refine s_iconst (q := 33) (v := 3) hX dX6_can_32 rfl rfl ?_
      refine s_imul (q := 34) (v := nI (i * 3)) hX dX6_can_33 rfl (pk_mul (i) (3)) ?_
      refine s_invv4_1 (q := 37) hX dX6_can_34 rfl glk_6_135 (by assumption) (Nat.le_of_ble_eq_true rfl) ⟨Nat.le_refl _, Nat.le_refl _⟩ (by omega) (c_affords (d := 2) (h := S.U.tr i) (Nat.le_refl _) twn a2 g1 hi hk s1 (by omega) (by omega) (by omega) (fun s hs => by rw [show i * 3 + s = 3 * i + s by omega]; exact a3.2.1 _ (by omega)) (fun s hs => Nat.lt_of_le_of_lt (g3.1.1 _ (by omega)) (by omega)) (fun g hg => ?_)) 
      refine ⟨_, rfl, ?_⟩
      refine s_if_eq (q := 40) (r := 44) hX dX6_can_37 rfl rfl (fun c37 => ?_) (fun c37 => ?_)
      · refine s_iconst (q := 45) (v := 0) hX dX6_can_44 rfl rfl ?_
        refine s_iret hX dX6_can_45 (Or.inl rfl) ⟨Nat.le_refl _, Nat.le_refl _, Nat.le_refl _, ?_⟩
        exact hcon.ret (by unfold gA.can; rw [ra]; dsimp only; rw [rb]; dsimp only; rw [if_neg (gif_f c37)]) hC0 (hS0.kp yt (fun c hc => gsr_n _ _ (by omega))) (fun c hc => gsr_n _ _ (by omega))
      · refine s_iconst (q := 41) (v := 1) hX dX6_can_40 rfl rfl ?_
        refine s_goto (q := 45) hX dX6_can_41 rfl ?_
        refine s_iret hX dX6_can_45 (Or.inl rfl) ⟨Nat.le_refl _, Nat.le_refl _, Nat.le_refl _, ?_⟩
        exact hcon.ret (by unfold gA.can; rw [ra]; dsimp only; rw [rb]; dsimp only; rw [if_pos (gif_t c37)]) hC0 (hS0.kp yt (fun c hc => gsr_n _ _ (by omega))) (fun c hc => gsr_n _ _ (by omega))
set_option maxHeartbeats 4000000 in
set_option maxRecDepth 100000 in
theorem k_pass {d t b : Nat} {x : Int32} {S : gA} {sh : List gS} {M : gM} {Q : Option Value → List gS → gM → Prop} (hd : 6 ≤ d) (hC : isCls sh t) (hS : CLS M t S) (hk : S.ok b) (hb : b ≤ 20000) (hcon : kC sh M (S.pass x) Q) : gC mX6_pass d 0 0 [.ref 0, .int x] sh M Q := by
  have hC0 := hC
  have hS0 := hS
  have hk0 := hk
  obtain ⟨y0, yt, yp, yw, ys, yr, yd, yk, yc, yn, yu⟩ := hC
  have twn := hC0.tw
  have tdf := hC0.df
  have yp2 := yp
  have ys2 := ys
  have yr2 := yr
  have yd2 := yd
  have yk2 := yk
  have yc2 := yc
  have yn2 := yn
  have twn2 := twn
  have tdf2 := tdf
  obtain ⟨p0, p1, p2⟩ := yp2
  obtain ⟨z0, z1, z2, z3, z4, z5, z6⟩ := twn2
  obtain ⟨zz0, zz1, zz2, zz3, zz4, zz5, zz6⟩ := tdf2
  obtain ⟨s0, s1, s2, s3⟩ := ys2
  obtain ⟨r0, r1, r2, r3⟩ := yr2
  obtain ⟨d0, d1, d2⟩ := yd2
  obtain ⟨k0, k1, k2⟩ := yk2
  obtain ⟨q0, q1, q2, q3, q4⟩ := yc2
  obtain ⟨v0, v1, v2, v3, v4, v5, v6⟩ := yn2
  obtain ⟨a1, a2, a3, ⟨n1, a4⟩, ⟨n2, a5⟩, a6⟩ := hS
  obtain ⟨g1, g2, g3, g4, g5, g6, g7⟩ := hk
  have g0 := g1
  obtain ⟨o1, o2, o3, o4, o5, o6, o7, o8⟩ := g0
  have hap : apart t 18 := by unfold apart; omega
  have hap2 : apart t 22 := by unfold apart; omega
  refine gC_of (rt := 1) (ini := false) gm_X6_pass rfl (by decide) (Nat.le_of_ble_eq_true rfl) (fun X hX => ?_)
  refine s_iload_n (q := 1) hX dX6_pass_0 rfl rfl ?_
  refine s_iconst (q := 2) (v := 1) hX dX6_pass_1 rfl rfl ?_
  refine s_bipush (q := 4) (v := 30) hX dX6_pass_2 rfl rfl (by decide) ?_
  refine s_invs3_1 (q := 7) hX dX6_pass_4 rfl glk_6_93 (by decide) (Nat.le_of_ble_eq_true rfl) ⟨Nat.le_refl _, Nat.le_refl _⟩ (by omega) (c_rng (d := 0) (x := x) (lo := 1) (n := 31) rfl rfl (by decide) (by decide) (fun rx => ?_) (fun n rx ln hn en => ?_)) 
  · refine ⟨_, rfl, ?_⟩
    refine s_if_ne_f (q := 10) (r := 12) hX dX6_pass_7 rfl rfl (by decide) ?_
    refine s_iconst (q := 11) (v := (-1)) hX dX6_pass_10 rfl rfl ?_
    refine s_iret hX dX6_pass_11 (Or.inl rfl) ⟨Nat.le_refl _, Nat.le_refl _, Nat.le_refl _, ?_⟩
    exact hcon.ret (by unfold gA.pass; rw [rx]) hC0 hS0 (fun _ _ => rfl)
  · subst en
    refine ⟨_, rfl, ?_⟩
    refine s_if_ne_t (q := 10) (r := 12) hX dX6_pass_7 rfl rfl (by decide) ?_
    refine s_aload_n (q := 13) hX dX6_pass_12 rfl rfl ?_
    refine s_getr (q := 16) hX dX6_pass_13 rfl gfl_6_41 (by assumption) rfl ?_
    refine s_aload_n (q := 17) hX dX6_pass_16 rfl rfl ?_
    refine s_getr (q := 20) hX dX6_pass_17 rfl gfl_6_29 (by assumption) rfl ?_
    refine s_invv1_0 (q := 23) hX dX6_pass_20 rfl glk_6_139 (by assumption) (Nat.le_of_ble_eq_true rfl) ⟨Nat.le_refl _, Nat.le_refl _⟩ (by omega) (c_know (d := 2) (Nat.le_refl _) hC0 hS0 hk0 hb (fun M1 w1 w2 => ?_)) 
    refine ⟨rfl, ?_⟩
    refine s_aload_n (q := 24) hX dX6_pass_23 rfl rfl ?_
    refine s_getr (q := 27) hX dX6_pass_24 rfl gfl_6_29 (by assumption) rfl ?_
    refine s_aload_n (q := 28) hX dX6_pass_27 rfl rfl ?_
    refine s_getr (q := 31) hX dX6_pass_28 rfl gfl_6_19 (by assumption) rfl ?_
    refine s_iload_n (q := 32) hX dX6_pass_31 rfl rfl ?_
    refine s_invv2_0 (q := 35) hX dX6_pass_32 rfl glk_6_143 (by assumption) (Nat.le_of_ble_eq_true rfl) ⟨Nat.le_refl _, Nat.le_refl _⟩ (by omega) (c_passDays (d := 5) (n := n) (T := S.T) (U := S.U) (Nat.le_refl _) twn w1.2.1 g1 ys w1.2.2.1 g3.1 hap (by omega) (by omega) (fun M2 u1 u2 => ?_)) 
    refine ⟨rfl, ?_⟩
    refine s_aload_n (q := 36) hX dX6_pass_35 rfl rfl ?_
    refine s_getr (q := 39) hX dX6_pass_36 rfl gfl_6_29 (by assumption) rfl ?_
    refine s_invv0_1 (q := 42) hX dX6_pass_39 rfl glk_6_147 (by assumption) (Nat.le_of_ble_eq_true rfl) ⟨Nat.le_refl _, Nat.le_refl _⟩ (by omega) (c_weekday (d := 0) ys u1 (gT.days_ok n g3.1 (by omega)).1 ?_) 
    refine ⟨_, rfl, ?_⟩
    refine s_iret hX dX6_pass_42 (Or.inl rfl) ⟨Nat.le_refl _, Nat.le_refl _, Nat.le_refl _, ?_⟩
    exact hcon.ret (by unfold gA.pass; rw [rx]) hC0 (w1.stU yt u1 u2) (fun c hc => by rw [u2 c (by omega) (by omega), w2 c (by omega)])
set_option maxHeartbeats 4000000 in
set_option maxRecDepth 100000 in
theorem k_act {d t b : Nat} {x y : Int32} {S : gA} {sh : List gS} {M : gM} {Q : Option Value → List gS → gM → Prop} (hd : 4 ≤ d) (hC : isCls sh t) (hS : CLS M t S) (hk : S.ok b) (hb : b ≤ 20000) (hcon : kC sh M (S.act x y) Q) : gC mX6_act d 0 0 [.ref 0, .int x, .int y] sh M Q := by
  have hC0 := hC
  have hS0 := hS
  have hk0 := hk
  obtain ⟨y0, yt, yp, yw, ys, yr, yd, yk, yc, yn, yu⟩ := hC
  have twn := hC0.tw
  have tdf := hC0.df
  have yp2 := yp
  have ys2 := ys
  have yr2 := yr
  have yd2 := yd
  have yk2 := yk
  have yc2 := yc
  have yn2 := yn
  have twn2 := twn
  have tdf2 := tdf
  obtain ⟨p0, p1, p2⟩ := yp2
  obtain ⟨z0, z1, z2, z3, z4, z5, z6⟩ := twn2
  obtain ⟨zz0, zz1, zz2, zz3, zz4, zz5, zz6⟩ := tdf2
  obtain ⟨s0, s1, s2, s3⟩ := ys2
  obtain ⟨r0, r1, r2, r3⟩ := yr2
  obtain ⟨d0, d1, d2⟩ := yd2
  obtain ⟨k0, k1, k2⟩ := yk2
  obtain ⟨q0, q1, q2, q3, q4⟩ := yc2
  obtain ⟨v0, v1, v2, v3, v4, v5, v6⟩ := yn2
  obtain ⟨a1, a2, a3, ⟨n1, a4⟩, ⟨n2, a5⟩, a6⟩ := hS
  obtain ⟨g1, g2, g3, g4, g5, g6, g7⟩ := hk
  have g0 := g1
  obtain ⟨o1, o2, o3, o4, o5, o6, o7, o8⟩ := g0
  have hap : apart t 18 := by unfold apart; omega
  have hap2 : apart t 22 := by unfold apart; omega
  refine gC_of (rt := 1) (ini := false) gm_X6_act rfl (by decide) (Nat.le_of_ble_eq_true rfl) (fun X hX => ?_)
  refine s_aload_n (q := 1) hX dX6_act_0 rfl rfl ?_
  refine s_iload_n (q := 2) hX dX6_act_1 rfl rfl ?_
  refine s_invv1_1 (q := 5) hX dX6_act_2 rfl glk_6_104 (by assumption) (Nat.le_of_ble_eq_true rfl) ⟨Nat.le_refl _, Nat.le_refl _⟩ (by omega) (c_isPerson (d := 1) (x := x) (Nat.le_refl _) hC0 hS0 g1 (fun ra => ?_) (fun i ra hi ei => ?_)) 
  · refine ⟨_, rfl, ?_⟩
    refine s_if_eq_t (q := 8) (r := 16) hX dX6_act_5 rfl rfl (by decide) ?_
    refine s_iconst (q := 17) (v := (-1)) hX dX6_act_16 rfl rfl ?_
    refine s_iret hX dX6_act_17 (Or.inl rfl) ⟨Nat.le_refl _, Nat.le_refl _, Nat.le_refl _, ?_⟩
    exact hcon.ret (by first | (unfold gA.act; rw [ra]; dsimp only; rw [rb]) | (unfold gA.act; rw [ra])) hC0 hS0 (fun _ _ => rfl)
  · subst ei
    refine ⟨_, rfl, ?_⟩
    refine s_if_eq_f (q := 8) (r := 16) hX dX6_act_5 rfl rfl (by decide) ?_
    refine s_aload_n (q := 9) hX dX6_act_8 rfl rfl ?_
    refine s_iload_n (q := 10) hX dX6_act_9 rfl rfl ?_
    refine s_invv1_1 (q := 13) hX dX6_act_10 rfl glk_6_123 (by assumption) (Nat.le_of_ble_eq_true rfl) ⟨Nat.le_refl _, Nat.le_refl _⟩ (by omega) (c_isDeed (d := 1) (x := y) (Nat.le_refl _) hC0 hS0 g1 (fun rb => ?_) (fun k rb hk ek => ?_)) 
    · refine ⟨_, rfl, ?_⟩
      refine s_if_ne_f (q := 16) (r := 18) hX dX6_act_13 rfl rfl (by decide) ?_
      refine s_iconst (q := 17) (v := (-1)) hX dX6_act_16 rfl rfl ?_
      refine s_iret hX dX6_act_17 (Or.inl rfl) ⟨Nat.le_refl _, Nat.le_refl _, Nat.le_refl _, ?_⟩
      exact hcon.ret (by first | (unfold gA.act; rw [ra]; dsimp only; rw [rb]) | (unfold gA.act; rw [ra])) hC0 hS0 (fun _ _ => rfl)
    · subst ek
      refine ⟨_, rfl, ?_⟩
      refine s_if_ne_t (q := 16) (r := 18) hX dX6_act_13 rfl rfl (by decide) ?_
      refine s_aload_n (q := 19) hX dX6_act_18 rfl rfl ?_
      refine s_getr (q := 22) hX dX6_act_19 rfl gfl_6_19 (by assumption) rfl ?_
      refine s_iload_n (q := 23) hX dX6_act_22 rfl rfl ?_
      refine s_iload_n (q := 24) hX dX6_act_23 rfl rfl ?_
      refine s_aload_n (q := 25) hX dX6_act_24 rfl rfl ?_
      refine s_getr (q := 28) hX dX6_act_25 rfl gfl_6_29 (by assumption) rfl ?_
      refine s_getr (q := 31) hX dX6_act_28 rfl gfl_6_120 (by assumption) rfl ?_
      refine s_iload_n (q := 32) hX dX6_act_31 rfl rfl ?_
      refine s_iconst (q := 33) (v := 3) hX dX6_act_32 rfl rfl ?_
      refine s_imul (q := 34) (v := nI (i * 3)) hX dX6_act_33 rfl (pk_mul (i) (3)) ?_
      refine s_invv4_1 (q := 37) hX dX6_act_34 rfl glk_6_135 (by assumption) (Nat.le_of_ble_eq_true rfl) ⟨Nat.le_refl _, Nat.le_refl _⟩ (by omega) (c_affords (d := 2) (h := S.U.tr i) (Nat.le_refl _) twn a2 g1 hi hk s1 (by omega) (by omega) (by omega) (fun s hs => by rw [show i * 3 + s = 3 * i + s by omega]; exact a3.2.1 _ (by omega)) (fun s hs => Nat.lt_of_le_of_lt (g3.1.1 _ (by omega)) (by omega)) (fun g hg => ?_)) 
      refine ⟨_, rfl, ?_⟩
      refine s_if_ne (q := 40) (r := 43) hX dX6_act_37 rfl rfl (fun c37 => ?_) (fun c37 => ?_)
      · refine s_aload_n (q := 44) hX dX6_act_43 rfl rfl ?_
        refine s_getr (q := 47) hX dX6_act_44 rfl gfl_6_41 (by assumption) rfl ?_
        refine s_aload_n (q := 48) hX dX6_act_47 rfl rfl ?_
        refine s_getr (q := 51) hX dX6_act_48 rfl gfl_6_29 (by assumption) rfl ?_
        refine s_invv1_0 (q := 54) hX dX6_act_51 rfl glk_6_139 (by assumption) (Nat.le_of_ble_eq_true rfl) ⟨Nat.le_refl _, Nat.le_refl _⟩ (by omega) (c_know (d := 2) (Nat.le_refl _) hC0 (hS0.kp yt (fun c hc => gsr_n _ _ (by omega))) hk0 hb (fun M1 w1 w2 => ?_)) 
        refine ⟨rfl, ?_⟩
        refine s_aload_n (q := 55) hX dX6_act_54 rfl rfl ?_
        refine s_getr (q := 58) hX dX6_act_55 rfl gfl_6_29 (by assumption) rfl ?_
        refine s_aload_n (q := 59) hX dX6_act_58 rfl rfl ?_
        refine s_getr (q := 62) hX dX6_act_59 rfl gfl_6_19 (by assumption) rfl ?_
        refine s_iload_n (q := 63) hX dX6_act_62 rfl rfl ?_
        refine s_iload_n (q := 64) hX dX6_act_63 rfl rfl ?_
        refine s_invv3_1 (q := 67) hX dX6_act_64 rfl glk_6_150 (by assumption) (Nat.le_of_ble_eq_true rfl) ⟨Nat.le_refl _, Nat.le_refl _⟩ (by omega) (c_perform (d := 3) (T := S.T) (U := S.U) (Nat.le_refl _) twn w1.2.1 g1 ys w1.2.2.1 g3.1 hap hi hk (fun M2 u1 u2 => ?_)) 
        refine ⟨_, rfl, ?_⟩
        refine s_iret hX dX6_act_67 (Or.inl rfl) ⟨Nat.le_refl _, Nat.le_refl _, Nat.le_refl _, ?_⟩
        have hc := gif_t c37
        exact hcon.ret (by unfold gA.act; rw [ra]; dsimp only; rw [rb]; dsimp only; rw [if_pos hc, if_pos hc]) hC0 (w1.stU yt u1 u2) (fun c hc => by rw [u2 c (by omega) (by omega), w2 c (by omega), gsr_n _ _ (by omega)])
      · refine s_bipush (q := 42) (v := (-2)) hX dX6_act_40 rfl rfl (by decide) ?_
        refine s_iret hX dX6_act_42 (Or.inl rfl) ⟨Nat.le_refl _, Nat.le_refl _, Nat.le_refl _, ?_⟩
        exact hcon.ret (by unfold gA.act; rw [ra]; dsimp only; rw [rb]; dsimp only; rw [if_neg (gif_f2 c37)]) hC0 (hS0.kp yt (fun c hc => gsr_n _ _ (by omega))) (fun c hc => gsr_n _ _ (by omega))
