set_option maxHeartbeats 4000000 in
set_option maxRecDepth 100000 in
theorem k_write {d t b : Nat} {x : Int32} {S : gA} {sh : List gS} {M : gM} {Q : Option Value → List gS → gM → Prop} (hd : 1 ≤ d) (hC : isCls sh t) (hS : CLS M t S) (hk : S.ok b) (hb : b ≤ 20000) (hcon : kC sh M (S.write x) Q) : gC mX6_write d 0 0 [.ref 0, .int x] sh M Q := by
  have hC0 := hC
  have hS0 := hS
  have hk0 := hk
  obtain ⟨y0, yt, yp, yw, ys, yr, yd, yk, yc, yn, yu⟩ := hC
  have twn := hC0.tw
  have tdf := hC0.df
  have yp2 := yp
  have ys2 := ys
  have yr2 := yr
  have yd2 := yd
  have yk2 := yk
  have yc2 := yc
  have yn2 := yn
  have twn2 := twn
  have tdf2 := tdf
  obtain ⟨p0, p1, p2⟩ := yp2
  obtain ⟨z0, z1, z2, z3, z4, z5, z6⟩ := twn2
  obtain ⟨zz0, zz1, zz2, zz3, zz4, zz5, zz6⟩ := tdf2
  obtain ⟨s0, s1, s2, s3⟩ := ys2
  obtain ⟨r0, r1, r2, r3⟩ := yr2
  obtain ⟨d0, d1, d2⟩ := yd2
  obtain ⟨k0, k1, k2⟩ := yk2
  obtain ⟨q0, q1, q2, q3, q4⟩ := yc2
  obtain ⟨v0, v1, v2, v3, v4, v5, v6⟩ := yn2
  obtain ⟨a1, a2, a3, ⟨n1, a4⟩, ⟨n2, a5⟩, a6⟩ := hS
  obtain ⟨g1, g2, g3, g4, g5, g6, g7⟩ := hk
  have g0 := g1
  obtain ⟨o1, o2, o3, o4, o5, o6, o7, o8⟩ := g0
  have hap : apart t 18 := by unfold apart; omega
  have hap2 : apart t 22 := by unfold apart; omega
  refine gC_of (rt := 1) (ini := false) gm_X6_write rfl (by decide) (Nat.le_of_ble_eq_true rfl) (fun X hX => ?_)
  refine s_iload_n (q := 1) hX dX6_write_0 rfl rfl ?_
  refine s_bipush (q := 3) (v := 32) hX dX6_write_1 rfl rfl (by decide) ?_
  refine s_bipush (q := 5) (v := 126) hX dX6_write_3 rfl rfl (by decide) ?_
  refine s_invs3_1 (q := 8) hX dX6_write_5 rfl glk_6_93 (by decide) (Nat.le_of_ble_eq_true rfl) ⟨Nat.le_refl _, Nat.le_refl _⟩ (by omega) (c_rng (d := 0) (x := x) (lo := 32) (n := 127) rfl rfl (by decide) (by decide) (fun rx => ?_) (fun c rx lc hc ec => ?_)) 
  · refine ⟨_, rfl, ?_⟩
    refine s_if_ne_f (q := 11) (r := 13) hX dX6_write_8 rfl rfl (by decide) ?_
    refine s_iconst (q := 12) (v := (-1)) hX dX6_write_11 rfl rfl ?_
    refine s_iret hX dX6_write_12 (Or.inl rfl) ⟨Nat.le_refl _, Nat.le_refl _, Nat.le_refl _, ?_⟩
    exact hcon.ret (by unfold gA.write; rw [rx]) hC0 hS0 (fun _ _ => rfl)
  · subst ec
    refine ⟨_, rfl, ?_⟩
    refine s_if_ne_t (q := 11) (r := 13) hX dX6_write_8 rfl rfl (by decide) ?_
    refine s_aload_n (q := 14) hX dX6_write_13 rfl rfl ?_
    refine s_getr (q := 17) hX dX6_write_14 rfl gfl_6_10 (by assumption) rfl ?_
    refine s_iload_n (q := 18) hX dX6_write_17 rfl rfl ?_
    refine s_invv1_1 (q := 21) hX dX6_write_18 rfl glk_6_78 (by assumption) (Nat.le_of_ble_eq_true rfl) ⟨Nat.le_refl _, Nat.le_refl _⟩ (by omega) (c_padd (d := 0) (c := c) yp a1 g7 (fun hl => ?_) (fun hl M1 w1 w2 => ?_)) 
    · refine ⟨_, rfl, ?_⟩
      refine s_if_eq_t (q := 24) (r := 34) hX dX6_write_21 rfl rfl (by decide) ?_
      refine s_bipush (q := 36) (v := (-3)) hX dX6_write_34 rfl rfl (by decide) ?_
      refine s_iret hX dX6_write_36 (Or.inl rfl) ⟨Nat.le_refl _, Nat.le_refl _, Nat.le_refl _, ?_⟩
      exact hcon.ret (by unfold gA.write; rw [rx]; exact if_neg (by omega)) hC0 hS0 (fun _ _ => rfl)
    · refine ⟨_, rfl, ?_⟩
      refine s_if_eq_f (q := 24) (r := 34) hX dX6_write_21 rfl rfl (by decide) ?_
      refine s_aload_n (q := 25) hX dX6_write_24 rfl rfl ?_
      refine s_getr (q := 28) hX dX6_write_25 rfl gfl_6_10 (by assumption) rfl ?_
      refine s_geti (q := 31) hX dX6_write_28 rfl gfl_6_86 (by assumption) rfl ?_
      refine s_topi (v := nI (S.tx.1 + 1)) w1.1 ?_
      refine s_goto (q := 36) hX dX6_write_31 rfl ?_
      refine s_iret hX dX6_write_36 (Or.inl rfl) ⟨Nat.le_refl _, Nat.le_refl _, Nat.le_refl _, ?_⟩
      refine hcon.ret (S' := S.setX (S.tx.1 + 1, fun j => if j = S.tx.1 then c else S.tx.2 j)) (by unfold gA.write; rw [rx]; exact if_pos hl) hC0 ⟨w1, a2.keep (fun a h1 h2 => w2 a (by omega) (by omega)), a3.keep (fun a h1 h2 => w2 a (by omega) (by omega)), ⟨n1, a4.keep (by omega) (fun a h1 h2 => w2 a (by omega) (by omega))⟩, ⟨n2, a5.keep (by omega) (fun a h1 h2 => w2 a (by omega) (by omega))⟩, a6.keep (by rw [w2 75 (by omega) (by omega)]) (w2 _ (by omega) (by omega)) (w2 _ (by omega) (by omega)) (w2 _ (by omega) (by omega))⟩ (fun a h1 => w2 a (by omega) (by omega))
set_option maxHeartbeats 4000000 in
set_option maxRecDepth 100000 in
theorem k_wipe {d t b : Nat}  {S : gA} {sh : List gS} {M : gM} {Q : Option Value → List gS → gM → Prop} (hd : 0 ≤ d) (hC : isCls sh t) (hS : CLS M t S) (hk : S.ok b) (hb : b ≤ 20000) (hcon : kC sh M (S.wipe) Q) : gC mX6_wipe d 0 0 [.ref 0] sh M Q := by
  have hC0 := hC
  have hS0 := hS
  have hk0 := hk
  obtain ⟨y0, yt, yp, yw, ys, yr, yd, yk, yc, yn, yu⟩ := hC
  have twn := hC0.tw
  have tdf := hC0.df
  have yp2 := yp
  have ys2 := ys
  have yr2 := yr
  have yd2 := yd
  have yk2 := yk
  have yc2 := yc
  have yn2 := yn
  have twn2 := twn
  have tdf2 := tdf
  obtain ⟨p0, p1, p2⟩ := yp2
  obtain ⟨z0, z1, z2, z3, z4, z5, z6⟩ := twn2
  obtain ⟨zz0, zz1, zz2, zz3, zz4, zz5, zz6⟩ := tdf2
  obtain ⟨s0, s1, s2, s3⟩ := ys2
  obtain ⟨r0, r1, r2, r3⟩ := yr2
  obtain ⟨d0, d1, d2⟩ := yd2
  obtain ⟨k0, k1, k2⟩ := yk2
  obtain ⟨q0, q1, q2, q3, q4⟩ := yc2
  obtain ⟨v0, v1, v2, v3, v4, v5, v6⟩ := yn2
  obtain ⟨a1, a2, a3, ⟨n1, a4⟩, ⟨n2, a5⟩, a6⟩ := hS
  obtain ⟨g1, g2, g3, g4, g5, g6, g7⟩ := hk
  have g0 := g1
  obtain ⟨o1, o2, o3, o4, o5, o6, o7, o8⟩ := g0
  have hap : apart t 18 := by unfold apart; omega
  have hap2 : apart t 22 := by unfold apart; omega
  refine gC_of (rt := 1) (ini := false) gm_X6_wipe rfl (by decide) (Nat.le_of_ble_eq_true rfl) (fun X hX => ?_)
  refine s_aload_n (q := 1) hX dX6_wipe_0 rfl rfl ?_
  refine s_getr (q := 4) hX dX6_wipe_1 rfl gfl_6_10 (by assumption) rfl ?_
  refine s_geti (q := 7) hX dX6_wipe_4 rfl gfl_6_86 (by assumption) rfl ?_
  refine s_topi (v := nI (S.tx.1)) a1.1 ?_
  refine s_istore_n (q := 8) (lv' := [(0, _), (1, _)]) hX dX6_wipe_7 rfl (Nat.le_of_ble_eq_true rfl) rfl ?_
  refine s_aload_n (q := 9) hX dX6_wipe_8 rfl rfl ?_
  refine s_getr (q := 12) hX dX6_wipe_9 rfl gfl_6_10 (by assumption) rfl ?_
  refine s_iconst (q := 13) (v := 0) hX dX6_wipe_12 rfl rfl ?_
  refine s_puti (q := 16) hX dX6_wipe_13 rfl gfl_6_86 (by assumption) rfl ?_
  refine s_iload_n (q := 17) hX dX6_wipe_16 rfl rfl ?_
  refine s_iret hX dX6_wipe_17 (Or.inl rfl) ⟨Nat.le_refl _, Nat.le_refl _, Nat.le_refl _, ?_⟩
  refine hcon.ret rfl hC0 ⟨⟨by rw [gsr_s, pk_us]; rfl, fun j hj => absurd hj (Nat.not_lt_zero j)⟩, a2.keep (fun a h1 h2 => gsr_n _ _ (by omega)), a3.keep (fun a h1 h2 => gsr_n _ _ (by omega)), ⟨n1, a4.keep (by omega) (fun a h1 h2 => gsr_n _ _ (by omega))⟩, ⟨n2, a5.keep (by omega) (fun a h1 h2 => gsr_n _ _ (by omega))⟩, a6.keep (by rw [gsr_n _ _ (by omega)]) (gsr_n _ _ (by omega)) (gsr_n _ _ (by omega)) (gsr_n _ _ (by omega))⟩ (fun a h1 => gsr_n _ _ (by omega))
set_option maxHeartbeats 4000000 in
set_option maxRecDepth 100000 in
theorem k_fault {d t b : Nat}  {S : gA} {sh : List gS} {M : gM} {Q : Option Value → List gS → gM → Prop} (hd : 5 ≤ d) (hC : isCls sh t) (hS : CLS M t S) (hk : S.ok b) (hb : b ≤ 20000) (hcon : kC sh M (S.fault) Q) : gC mX6_fault d 0 0 [.ref 0] sh M Q := by
  have hC0 := hC
  have hS0 := hS
  have hk0 := hk
  obtain ⟨y0, yt, yp, yw, ys, yr, yd, yk, yc, yn, yu⟩ := hC
  have twn := hC0.tw
  have tdf := hC0.df
  have yp2 := yp
  have ys2 := ys
  have yr2 := yr
  have yd2 := yd
  have yk2 := yk
  have yc2 := yc
  have yn2 := yn
  have twn2 := twn
  have tdf2 := tdf
  obtain ⟨p0, p1, p2⟩ := yp2
  obtain ⟨z0, z1, z2, z3, z4, z5, z6⟩ := twn2
  obtain ⟨zz0, zz1, zz2, zz3, zz4, zz5, zz6⟩ := tdf2
  obtain ⟨s0, s1, s2, s3⟩ := ys2
  obtain ⟨r0, r1, r2, r3⟩ := yr2
  obtain ⟨d0, d1, d2⟩ := yd2
  obtain ⟨k0, k1, k2⟩ := yk2
  obtain ⟨q0, q1, q2, q3, q4⟩ := yc2
  obtain ⟨v0, v1, v2, v3, v4, v5, v6⟩ := yn2
  obtain ⟨a1, a2, a3, ⟨n1, a4⟩, ⟨n2, a5⟩, a6⟩ := hS
  obtain ⟨g1, g2, g3, g4, g5, g6, g7⟩ := hk
  have g0 := g1
  obtain ⟨o1, o2, o3, o4, o5, o6, o7, o8⟩ := g0
  have hap : apart t 18 := by unfold apart; omega
  have hap2 : apart t 22 := by unfold apart; omega
  refine gC_of (rt := 1) (ini := false) gm_X6_fault rfl (by decide) (Nat.le_of_ble_eq_true rfl) (fun X hX => ?_)
  refine s_aload_n (q := 1) hX dX6_fault_0 rfl rfl ?_
  refine s_getr (q := 4) hX dX6_fault_1 rfl gfl_6_10 (by assumption) rfl ?_
  refine s_aload_n (q := 5) hX dX6_fault_4 rfl rfl ?_
  refine s_getr (q := 8) hX dX6_fault_5 rfl gfl_6_23 (by assumption) rfl ?_
  refine s_invv1_1 (q := 11) hX dX6_fault_8 rfl glk_6_82 (by assumption) (Nat.le_of_ble_eq_true rfl) ⟨Nat.le_refl _, Nat.le_refl _⟩ (by omega) (c_firstFault (d := 4) (t := 15 - t) (Nat.le_refl _) yp a1 g7 tdf (by omega) (fun q hq M1 w1 w2 => ?_) (fun T1 hT1 hdr M1 w0 w1 w2 => ?_)) 
  · refine ⟨_, rfl, ?_⟩
    refine s_iret hX dX6_fault_11 (Or.inl rfl) ⟨Nat.le_refl _, Nat.le_refl _, Nat.le_refl _, ?_⟩
    refine hcon.ret (show S.fault = (nI q, S) from by unfold gA.fault; rw [hq]) hC0 ⟨w1, a2.keep (fun a h1 h2 => w2 a (by omega) (by omega) (by omega)), a3.keep (fun a h1 h2 => w2 a (by omega) (by omega) (by omega)), ⟨n1, a4.keep (by omega) (fun a h1 h2 => w2 a (by omega) (by omega) (by omega))⟩, ⟨n2, a5.keep (by omega) (fun a h1 h2 => w2 a (by omega) (by omega) (by omega))⟩, a6.keep (by rw [w2 75 (by omega) (by omega) (by omega)]) (w2 _ (by omega) (by omega) (by omega)) (w2 _ (by omega) (by omega) (by omega)) (w2 _ (by omega) (by omega) (by omega))⟩ (fun a h1 => w2 a (by omega) (by omega) (by omega))
  · refine ⟨_, rfl, ?_⟩
    refine s_iret hX dX6_fault_11 (Or.inl rfl) ⟨Nat.le_refl _, Nat.le_refl _, Nat.le_refl _, ?_⟩
    refine hcon.ret (show S.fault = (-4, S) from by unfold gA.fault; rw [hT1]) hC0 ⟨w1, a2.keep (fun a h1 h2 => w2 a (by omega) (by omega) (by omega)), a3.keep (fun a h1 h2 => w2 a (by omega) (by omega) (by omega)), ⟨n1, a4.keep (by omega) (fun a h1 h2 => w2 a (by omega) (by omega) (by omega))⟩, ⟨n2, a5.keep (by omega) (fun a h1 h2 => w2 a (by omega) (by omega) (by omega))⟩, a6.keep (by rw [w2 75 (by omega) (by omega) (by omega)]) (w2 _ (by omega) (by omega) (by omega)) (w2 _ (by omega) (by omega) (by omega)) (w2 _ (by omega) (by omega) (by omega))⟩ (fun a h1 => w2 a (by omega) (by omega) (by omega))
set_option maxHeartbeats 4000000 in
set_option maxRecDepth 100000 in
theorem k_person {d t b : Nat} {x y : Int32} {S : gA} {sh : List gS} {M : gM} {Q : Option Value → List gS → gM → Prop} (hd : 2 ≤ d) (hC : isCls sh t) (hS : CLS M t S) (hk : S.ok b) (hb : b ≤ 20000) (hcon : kC sh M (S.person x y) Q) : gC mX6_person d 0 0 [.ref 0, .int x, .int y] sh M Q := by
  have hC0 := hC
  have hS0 := hS
  have hk0 := hk
  obtain ⟨y0, yt, yp, yw, ys, yr, yd, yk, yc, yn, yu⟩ := hC
  have twn := hC0.tw
  have tdf := hC0.df
  have yp2 := yp
  have ys2 := ys
  have yr2 := yr
  have yd2 := yd
  have yk2 := yk
  have yc2 := yc
  have yn2 := yn
  have twn2 := twn
  have tdf2 := tdf
  obtain ⟨p0, p1, p2⟩ := yp2
  obtain ⟨z0, z1, z2, z3, z4, z5, z6⟩ := twn2
  obtain ⟨zz0, zz1, zz2, zz3, zz4, zz5, zz6⟩ := tdf2
  obtain ⟨s0, s1, s2, s3⟩ := ys2
  obtain ⟨r0, r1, r2, r3⟩ := yr2
  obtain ⟨d0, d1, d2⟩ := yd2
  obtain ⟨k0, k1, k2⟩ := yk2
  obtain ⟨q0, q1, q2, q3, q4⟩ := yc2
  obtain ⟨v0, v1, v2, v3, v4, v5, v6⟩ := yn2
  obtain ⟨a1, a2, a3, ⟨n1, a4⟩, ⟨n2, a5⟩, a6⟩ := hS
  obtain ⟨g1, g2, g3, g4, g5, g6, g7⟩ := hk
  have g0 := g1
  obtain ⟨o1, o2, o3, o4, o5, o6, o7, o8⟩ := g0
  have hap : apart t 18 := by unfold apart; omega
  have hap2 : apart t 22 := by unfold apart; omega
  refine gC_of (rt := 1) (ini := false) gm_X6_person rfl (by decide) (Nat.le_of_ble_eq_true rfl) (fun X hX => ?_)
  refine s_aload_n (q := 1) hX dX6_person_0 rfl rfl ?_
  refine s_iload_n (q := 2) hX dX6_person_1 rfl rfl ?_
  refine s_invv1_1 (q := 5) hX dX6_person_2 rfl glk_6_104 (by assumption) (Nat.le_of_ble_eq_true rfl) ⟨Nat.le_refl _, Nat.le_refl _⟩ (by omega) (c_isPerson (d := 1) (x := x) (Nat.le_refl _) hC0 hS0 g1 (fun ra => ?_) (fun i ra hi ei => ?_)) 
  · refine ⟨_, rfl, ?_⟩
    refine s_if_eq_t (q := 8) (r := 18) hX dX6_person_5 rfl rfl (by decide) ?_
    refine s_iconst (q := 19) (v := (-1)) hX dX6_person_18 rfl rfl ?_
    refine s_iret hX dX6_person_19 (Or.inl rfl) ⟨Nat.le_refl _, Nat.le_refl _, Nat.le_refl _, ?_⟩
    exact hcon.ret (by first | (unfold gA.person; rw [ra]; dsimp only; rw [rw]) | (unfold gA.person; rw [ra])) hC0 hS0 (fun _ _ => rfl)
  · subst ei
    refine ⟨_, rfl, ?_⟩
    refine s_if_eq_f (q := 8) (r := 18) hX dX6_person_5 rfl rfl (by decide) ?_
    refine s_iload_n (q := 9) hX dX6_person_8 rfl rfl ?_
    refine s_iconst (q := 10) (v := 0) hX dX6_person_9 rfl rfl ?_
    refine s_bipush (q := 12) (v := 6) hX dX6_person_10 rfl rfl (by decide) ?_
    refine s_invs3_1 (q := 15) hX dX6_person_12 rfl glk_6_93 (by decide) (Nat.le_of_ble_eq_true rfl) ⟨Nat.le_refl _, Nat.le_refl _⟩ (by omega) (c_rng (d := 0) (x := y) (lo := 0) (n := 7) rfl rfl (by decide) (by decide) (fun rw => ?_) (fun w rw lw hw ew => ?_)) 
    · refine ⟨_, rfl, ?_⟩
      refine s_if_ne_f (q := 18) (r := 20) hX dX6_person_15 rfl rfl (by decide) ?_
      refine s_iconst (q := 19) (v := (-1)) hX dX6_person_18 rfl rfl ?_
      refine s_iret hX dX6_person_19 (Or.inl rfl) ⟨Nat.le_refl _, Nat.le_refl _, Nat.le_refl _, ?_⟩
      exact hcon.ret (by first | (unfold gA.person; rw [ra]; dsimp only; rw [rw]) | (unfold gA.person; rw [ra])) hC0 hS0 (fun _ _ => rfl)
    · subst ew
      refine ⟨_, rfl, ?_⟩
      refine s_if_ne_t (q := 18) (r := 20) hX dX6_person_15 rfl rfl (by decide) ?_
      refine s_iload_n (q := 21) hX dX6_person_20 rfl rfl ?_
      refine s_table hX dX6_person_21 rfl (fun c21 => ?_) ⟨fun c21 => ?_, fun c21 => ?_, fun c21 => ?_, fun c21 => ?_, fun c21 => ?_, fun c21 => ?_, fun c21 => ?_, trivial⟩
      · refine s_to (r := 103) rfl ?_
        have wq : 1 ≤ w ∧ w ≤ 3 := by rw [nI_toInt (by omega)] at c21; omega
        refine s_aload_n (q := 104) hX dX6_person_103 rfl rfl ?_
        refine s_getr (q := 107) hX dX6_person_104 rfl gfl_6_29 (by assumption) rfl ?_
        refine s_getr (q := 110) hX dX6_person_107 rfl gfl_6_120 (by assumption) rfl ?_
        refine s_iload_n (q := 111) hX dX6_person_110 rfl rfl ?_
        refine s_iconst (q := 112) (v := 3) hX dX6_person_111 rfl rfl ?_
        refine s_imul (q := 113) (v := nI (i * 3)) hX dX6_person_112 rfl (pk_mul (i) (3)) ?_
        refine s_iload_n (q := 114) hX dX6_person_113 rfl rfl ?_
        refine s_iadd (q := 115) (v := nI (i * 3 + w)) hX dX6_person_114 rfl (nI_add (i * 3) (w)) ?_
        refine s_iconst (q := 116) (v := 1) hX dX6_person_115 rfl rfl ?_
        refine s_isub (q := 117) (v := nI (i * 3 + w - 1)) hX dX6_person_116 rfl (pk_sub (b := 1) (by omega)) ?_
        refine s_iald (k := i * 3 + w - 1) (q := 118) hX dX6_person_117 rfl (by assumption) rfl (by omega) (by omega) ?_
        refine s_topi (v := nI (S.U.h (3 * i + w - 1))) (by rw [show i * 3 + w - 1 = 3 * i + w - 1 by omega]; exact a3.2.1 _ (by omega)) ?_
        refine s_iret hX dX6_person_118 (Or.inl rfl) ⟨Nat.le_refl _, Nat.le_refl _, Nat.le_refl _, ?_⟩
        exact hcon.ret (by unfold gA.person; rw [ra]; dsimp only; rw [rw]; dsimp only; rw [if_neg (by omega), if_neg (by omega), if_neg (by omega), if_neg (by omega)]) hC0 hS0 (fun _ _ => rfl)
      · refine s_to (r := 64) rfl ?_
        have wq : w = 0 := by rw [nI_toInt (by omega)] at c21; omega
        subst wq
        refine s_aload_n (q := 65) hX dX6_person_64 rfl rfl ?_
        refine s_getr (q := 68) hX dX6_person_65 rfl gfl_6_19 (by assumption) rfl ?_
        refine s_getr (q := 71) hX dX6_person_68 rfl gfl_6_107 (by assumption) rfl ?_
        refine s_iload_n (q := 72) hX dX6_person_71 rfl rfl ?_
        refine s_iald (k := i) (q := 73) hX dX6_person_72 rfl (by assumption) rfl (by omega) (by omega) ?_
        refine s_topi (v := nI (S.T.kd i)) (a2.2.2.2.1 i hi) ?_
        refine s_iret hX dX6_person_73 (Or.inl rfl) ⟨Nat.le_refl _, Nat.le_refl _, Nat.le_refl _, ?_⟩
        exact hcon.ret (by unfold gA.person; rw [ra]; dsimp only; rw [rw]; dsimp only; rw [if_pos rfl]) hC0 hS0 (fun _ _ => rfl)
      · refine s_to (r := 103) rfl ?_
        have wq : 1 ≤ w ∧ w ≤ 3 := by rw [nI_toInt (by omega)] at c21; omega
        refine s_aload_n (q := 104) hX dX6_person_103 rfl rfl ?_
        refine s_getr (q := 107) hX dX6_person_104 rfl gfl_6_29 (by assumption) rfl ?_
        refine s_getr (q := 110) hX dX6_person_107 rfl gfl_6_120 (by assumption) rfl ?_
        refine s_iload_n (q := 111) hX dX6_person_110 rfl rfl ?_
        refine s_iconst (q := 112) (v := 3) hX dX6_person_111 rfl rfl ?_
        refine s_imul (q := 113) (v := nI (i * 3)) hX dX6_person_112 rfl (pk_mul (i) (3)) ?_
        refine s_iload_n (q := 114) hX dX6_person_113 rfl rfl ?_
        refine s_iadd (q := 115) (v := nI (i * 3 + w)) hX dX6_person_114 rfl (nI_add (i * 3) (w)) ?_
        refine s_iconst (q := 116) (v := 1) hX dX6_person_115 rfl rfl ?_
        refine s_isub (q := 117) (v := nI (i * 3 + w - 1)) hX dX6_person_116 rfl (pk_sub (b := 1) (by omega)) ?_
        refine s_iald (k := i * 3 + w - 1) (q := 118) hX dX6_person_117 rfl (by assumption) rfl (by omega) (by omega) ?_
        refine s_topi (v := nI (S.U.h (3 * i + w - 1))) (by rw [show i * 3 + w - 1 = 3 * i + w - 1 by omega]; exact a3.2.1 _ (by omega)) ?_
        refine s_iret hX dX6_person_118 (Or.inl rfl) ⟨Nat.le_refl _, Nat.le_refl _, Nat.le_refl _, ?_⟩
        exact hcon.ret (by unfold gA.person; rw [ra]; dsimp only; rw [rw]; dsimp only; rw [if_neg (by omega), if_neg (by omega), if_neg (by omega), if_neg (by omega)]) hC0 hS0 (fun _ _ => rfl)
      · refine s_to (r := 103) rfl ?_
        have wq : 1 ≤ w ∧ w ≤ 3 := by rw [nI_toInt (by omega)] at c21; omega
        refine s_aload_n (q := 104) hX dX6_person_103 rfl rfl ?_
        refine s_getr (q := 107) hX dX6_person_104 rfl gfl_6_29 (by assumption) rfl ?_
        refine s_getr (q := 110) hX dX6_person_107 rfl gfl_6_120 (by assumption) rfl ?_
        refine s_iload_n (q := 111) hX dX6_person_110 rfl rfl ?_
        refine s_iconst (q := 112) (v := 3) hX dX6_person_111 rfl rfl ?_
        refine s_imul (q := 113) (v := nI (i * 3)) hX dX6_person_112 rfl (pk_mul (i) (3)) ?_
        refine s_iload_n (q := 114) hX dX6_person_113 rfl rfl ?_
        refine s_iadd (q := 115) (v := nI (i * 3 + w)) hX dX6_person_114 rfl (nI_add (i * 3) (w)) ?_
        refine s_iconst (q := 116) (v := 1) hX dX6_person_115 rfl rfl ?_
        refine s_isub (q := 117) (v := nI (i * 3 + w - 1)) hX dX6_person_116 rfl (pk_sub (b := 1) (by omega)) ?_
        refine s_iald (k := i * 3 + w - 1) (q := 118) hX dX6_person_117 rfl (by assumption) rfl (by omega) (by omega) ?_
        refine s_topi (v := nI (S.U.h (3 * i + w - 1))) (by rw [show i * 3 + w - 1 = 3 * i + w - 1 by omega]; exact a3.2.1 _ (by omega)) ?_
        refine s_iret hX dX6_person_118 (Or.inl rfl) ⟨Nat.le_refl _, Nat.le_refl _, Nat.le_refl _, ?_⟩
        exact hcon.ret (by unfold gA.person; rw [ra]; dsimp only; rw [rw]; dsimp only; rw [if_neg (by omega), if_neg (by omega), if_neg (by omega), if_neg (by omega)]) hC0 hS0 (fun _ _ => rfl)
      · refine s_to (r := 103) rfl ?_
        have wq : 1 ≤ w ∧ w ≤ 3 := by rw [nI_toInt (by omega)] at c21; omega
        refine s_aload_n (q := 104) hX dX6_person_103 rfl rfl ?_
        refine s_getr (q := 107) hX dX6_person_104 rfl gfl_6_29 (by assumption) rfl ?_
        refine s_getr (q := 110) hX dX6_person_107 rfl gfl_6_120 (by assumption) rfl ?_
        refine s_iload_n (q := 111) hX dX6_person_110 rfl rfl ?_
        refine s_iconst (q := 112) (v := 3) hX dX6_person_111 rfl rfl ?_
        refine s_imul (q := 113) (v := nI (i * 3)) hX dX6_person_112 rfl (pk_mul (i) (3)) ?_
        refine s_iload_n (q := 114) hX dX6_person_113 rfl rfl ?_
        refine s_iadd (q := 115) (v := nI (i * 3 + w)) hX dX6_person_114 rfl (nI_add (i * 3) (w)) ?_
        refine s_iconst (q := 116) (v := 1) hX dX6_person_115 rfl rfl ?_
        refine s_isub (q := 117) (v := nI (i * 3 + w - 1)) hX dX6_person_116 rfl (pk_sub (b := 1) (by omega)) ?_
        refine s_iald (k := i * 3 + w - 1) (q := 118) hX dX6_person_117 rfl (by assumption) rfl (by omega) (by omega) ?_
        refine s_topi (v := nI (S.U.h (3 * i + w - 1))) (by rw [show i * 3 + w - 1 = 3 * i + w - 1 by omega]; exact a3.2.1 _ (by omega)) ?_
        refine s_iret hX dX6_person_118 (Or.inl rfl) ⟨Nat.le_refl _, Nat.le_refl _, Nat.le_refl _, ?_⟩
        exact hcon.ret (by unfold gA.person; rw [ra]; dsimp only; rw [rw]; dsimp only; rw [if_neg (by omega), if_neg (by omega), if_neg (by omega), if_neg (by omega)]) hC0 hS0 (fun _ _ => rfl)
      · refine s_to (r := 74) rfl ?_
        have wq : w = 4 := by rw [nI_toInt (by omega)] at c21; omega
        subst wq
        refine s_aload_n (q := 75) hX dX6_person_74 rfl rfl ?_
        refine s_getr (q := 78) hX dX6_person_75 rfl gfl_6_29 (by assumption) rfl ?_
        refine s_iload_n (q := 79) hX dX6_person_78 rfl rfl ?_
        refine s_invv1_1 (q := 82) hX dX6_person_79 rfl glk_6_110 (by assumption) (Nat.le_of_ble_eq_true rfl) ⟨Nat.le_refl _, Nat.le_refl _⟩ (by omega) (c_hue (d := 1) (Nat.le_refl _) ys a3 g3.1 o1 hi ?_) 
        refine ⟨_, rfl, ?_⟩
        refine s_iret hX dX6_person_82 (Or.inl rfl) ⟨Nat.le_refl _, Nat.le_refl _, Nat.le_refl _, ?_⟩
        exact hcon.ret (by unfold gA.person; rw [ra]; dsimp only; rw [rw]; dsimp only; rw [if_neg (by omega), if_pos rfl]) hC0 hS0 (fun _ _ => rfl)
      · refine s_to (r := 83) rfl ?_
        have wq : w = 5 := by rw [nI_toInt (by omega)] at c21; omega
        subst wq
        refine s_aload_n (q := 84) hX dX6_person_83 rfl rfl ?_
        refine s_getr (q := 87) hX dX6_person_84 rfl gfl_6_29 (by assumption) rfl ?_
        refine s_getr (q := 90) hX dX6_person_87 rfl gfl_6_114 (by assumption) rfl ?_
        refine s_iload_n (q := 91) hX dX6_person_90 rfl rfl ?_
        refine s_iald (k := i) (q := 92) hX dX6_person_91 rfl (by assumption) rfl (by omega) (by omega) ?_
        refine s_iret hX dX6_person_92 (Or.inl rfl) ⟨Nat.le_refl _, Nat.le_refl _, Nat.le_refl _, ?_⟩
        exact hcon.ret (by unfold gA.person; rw [ra]; dsimp only; rw [rw]; dsimp only; rw [if_neg (by omega), if_neg (by omega), if_pos rfl, a3.2.2.1 i hi]) hC0 hS0 (fun _ _ => rfl)
      · refine s_to (r := 93) rfl ?_
        have wq : w = 6 := by rw [nI_toInt (by omega)] at c21; omega
        subst wq
        refine s_aload_n (q := 94) hX dX6_person_93 rfl rfl ?_
        refine s_getr (q := 97) hX dX6_person_94 rfl gfl_6_29 (by assumption) rfl ?_
        refine s_getr (q := 100) hX dX6_person_97 rfl gfl_6_117 (by assumption) rfl ?_
        refine s_iload_n (q := 101) hX dX6_person_100 rfl rfl ?_
        refine s_iald (k := i) (q := 102) hX dX6_person_101 rfl (by assumption) rfl (by omega) (by omega) ?_
        refine s_iret hX dX6_person_102 (Or.inl rfl) ⟨Nat.le_refl _, Nat.le_refl _, Nat.le_refl _, ?_⟩
        exact hcon.ret (by unfold gA.person; rw [ra]; dsimp only; rw [rw]; dsimp only; rw [if_neg (by omega), if_neg (by omega), if_neg (by omega), if_pos rfl, a3.2.2.2 i hi]) hC0 hS0 (fun _ _ => rfl)
set_option maxHeartbeats 4000000 in
set_option maxRecDepth 100000 in
theorem k_deed {d t b : Nat} {x y : Int32} {S : gA} {sh : List gS} {M : gM} {Q : Option Value → List gS → gM → Prop} (hd : 2 ≤ d) (hC : isCls sh t) (hS : CLS M t S) (hk : S.ok b) (hb : b ≤ 20000) (hcon : kC sh M (S.deed x y) Q) : gC mX6_deed d 0 0 [.ref 0, .int x, .int y] sh M Q := by
  have hC0 := hC
  have hS0 := hS
  have hk0 := hk
  obtain ⟨y0, yt, yp, yw, ys, yr, yd, yk, yc, yn, yu⟩ := hC
  have twn := hC0.tw
  have tdf := hC0.df
  have yp2 := yp
  have ys2 := ys
  have yr2 := yr
  have yd2 := yd
  have yk2 := yk
  have yc2 := yc
  have yn2 := yn
  have twn2 := twn
  have tdf2 := tdf
  obtain ⟨p0, p1, p2⟩ := yp2
  obtain ⟨z0, z1, z2, z3, z4, z5, z6⟩ := twn2
  obtain ⟨zz0, zz1, zz2, zz3, zz4, zz5, zz6⟩ := tdf2
  obtain ⟨s0, s1, s2, s3⟩ := ys2
  obtain ⟨r0, r1, r2, r3⟩ := yr2
  obtain ⟨d0, d1, d2⟩ := yd2
  obtain ⟨k0, k1, k2⟩ := yk2
  obtain ⟨q0, q1, q2, q3, q4⟩ := yc2
  obtain ⟨v0, v1, v2, v3, v4, v5, v6⟩ := yn2
  obtain ⟨a1, a2, a3, ⟨n1, a4⟩, ⟨n2, a5⟩, a6⟩ := hS
  obtain ⟨g1, g2, g3, g4, g5, g6, g7⟩ := hk
  have g0 := g1
  obtain ⟨o1, o2, o3, o4, o5, o6, o7, o8⟩ := g0
  have hap : apart t 18 := by unfold apart; omega
  have hap2 : apart t 22 := by unfold apart; omega
  refine gC_of (rt := 1) (ini := false) gm_X6_deed rfl (by decide) (Nat.le_of_ble_eq_true rfl) (fun X hX => ?_)
  refine s_aload_n (q := 1) hX dX6_deed_0 rfl rfl ?_
  refine s_iload_n (q := 2) hX dX6_deed_1 rfl rfl ?_
  refine s_invv1_1 (q := 5) hX dX6_deed_2 rfl glk_6_123 (by assumption) (Nat.le_of_ble_eq_true rfl) ⟨Nat.le_refl _, Nat.le_refl _⟩ (by omega) (c_isDeed (d := 1) (x := x) (Nat.le_refl _) hC0 hS0 g1 (fun ra => ?_) (fun k ra hk ek => ?_)) 
  · refine ⟨_, rfl, ?_⟩
    refine s_if_eq_t (q := 8) (r := 17) hX dX6_deed_5 rfl rfl (by decide) ?_
    refine s_iconst (q := 18) (v := (-1)) hX dX6_deed_17 rfl rfl ?_
    refine s_iret hX dX6_deed_18 (Or.inl rfl) ⟨Nat.le_refl _, Nat.le_refl _, Nat.le_refl _, ?_⟩
    exact hcon.ret (by first | (unfold gA.deed; rw [ra]; dsimp only; rw [rw]) | (unfold gA.deed; rw [ra])) hC0 hS0 (fun _ _ => rfl)
  · subst ek
    refine ⟨_, rfl, ?_⟩
    refine s_if_eq_f (q := 8) (r := 17) hX dX6_deed_5 rfl rfl (by decide) ?_
    refine s_iload_n (q := 9) hX dX6_deed_8 rfl rfl ?_
    refine s_iconst (q := 10) (v := 0) hX dX6_deed_9 rfl rfl ?_
    refine s_iconst (q := 11) (v := 3) hX dX6_deed_10 rfl rfl ?_
    refine s_invs3_1 (q := 14) hX dX6_deed_11 rfl glk_6_93 (by decide) (Nat.le_of_ble_eq_true rfl) ⟨Nat.le_refl _, Nat.le_refl _⟩ (by omega) (c_rng (d := 0) (x := y) (lo := 0) (n := 4) rfl rfl (by decide) (by decide) (fun rw => ?_) (fun w rw lw hw ew => ?_)) 
    · refine ⟨_, rfl, ?_⟩
      refine s_if_ne_f (q := 17) (r := 19) hX dX6_deed_14 rfl rfl (by decide) ?_
      refine s_iconst (q := 18) (v := (-1)) hX dX6_deed_17 rfl rfl ?_
      refine s_iret hX dX6_deed_18 (Or.inl rfl) ⟨Nat.le_refl _, Nat.le_refl _, Nat.le_refl _, ?_⟩
      exact hcon.ret (by first | (unfold gA.deed; rw [ra]; dsimp only; rw [rw]) | (unfold gA.deed; rw [ra])) hC0 hS0 (fun _ _ => rfl)
    · subst ew
      refine ⟨_, rfl, ?_⟩
      refine s_if_ne_t (q := 17) (r := 19) hX dX6_deed_14 rfl rfl (by decide) ?_
      refine s_iload_n (q := 20) hX dX6_deed_19 rfl rfl ?_
      refine s_iconst (q := 21) (v := 3) hX dX6_deed_20 rfl rfl ?_
      refine s_nicmp_ne (a := w) (b := 3) (q := 24) (r := 36) hX dX6_deed_21 rfl rfl rfl rfl (by omega) (by omega) (fun c21 => ?_) (fun c21 => ?_)
      · refine s_aload_n (q := 37) hX dX6_deed_36 rfl rfl ?_
        refine s_getr (q := 40) hX dX6_deed_37 rfl gfl_6_19 (by assumption) rfl ?_
        refine s_getr (q := 43) hX dX6_deed_40 rfl gfl_6_129 (by assumption) rfl ?_
        refine s_iload_n (q := 44) hX dX6_deed_43 rfl rfl ?_
        refine s_iconst (q := 45) (v := 3) hX dX6_deed_44 rfl rfl ?_
        refine s_imul (q := 46) (v := nI (k * 3)) hX dX6_deed_45 rfl (pk_mul (k) (3)) ?_
        refine s_iload_n (q := 47) hX dX6_deed_46 rfl rfl ?_
        refine s_iadd (q := 48) (v := nI (k * 3 + w)) hX dX6_deed_47 rfl (nI_add (k * 3) (w)) ?_
        refine s_iald (k := k * 3 + w) (q := 49) hX dX6_deed_48 rfl (by assumption) rfl (by omega) (by omega) ?_
        refine s_topi (v := nI (S.T.co (3 * k + w))) (by rw [show k * 3 + w = 3 * k + w by omega]; exact a2.2.2.2.2.2.1 _ (by omega)) ?_
        refine s_iret hX dX6_deed_49 (Or.inl rfl) ⟨Nat.le_refl _, Nat.le_refl _, Nat.le_refl _, ?_⟩
        exact hcon.ret (by unfold gA.deed; rw [ra]; dsimp only; rw [rw]; dsimp only; rw [if_neg (by omega)]) hC0 hS0 (fun _ _ => rfl)
      · refine s_aload_n (q := 25) hX dX6_deed_24 rfl rfl ?_
        refine s_getr (q := 28) hX dX6_deed_25 rfl gfl_6_19 (by assumption) rfl ?_
        refine s_getr (q := 31) hX dX6_deed_28 rfl gfl_6_126 (by assumption) rfl ?_
        refine s_iload_n (q := 32) hX dX6_deed_31 rfl rfl ?_
        refine s_iald (k := k) (q := 33) hX dX6_deed_32 rfl (by assumption) rfl (by omega) (by omega) ?_
        refine s_topi (v := nI (S.T.wo k)) (a2.2.2.2.2.2.2.1 k hk) ?_
        refine s_goto (q := 49) hX dX6_deed_33 rfl ?_
        refine s_iret hX dX6_deed_49 (Or.inl rfl) ⟨Nat.le_refl _, Nat.le_refl _, Nat.le_refl _, ?_⟩
        exact hcon.ret (by unfold gA.deed; rw [ra]; dsimp only; rw [rw]; dsimp only; rw [if_pos (by omega)]) hC0 hS0 (fun _ _ => rfl)
set_option maxHeartbeats 4000000 in
set_option maxRecDepth 100000 in
theorem k_told {d t b : Nat} {x y : Int32} {S : gA} {sh : List gS} {M : gM} {Q : Option Value → List gS → gM → Prop} (hd : 2 ≤ d) (hC : isCls sh t) (hS : CLS M t S) (hk : S.ok b) (hb : b ≤ 20000) (hcon : kC sh M (S.told x y) Q) : gC mX6_told d 0 0 [.ref 0, .int x, .int y] sh M Q := by
  have hC0 := hC
  have hS0 := hS
  have hk0 := hk
  obtain ⟨y0, yt, yp, yw, ys, yr, yd, yk, yc, yn, yu⟩ := hC
  have twn := hC0.tw
  have tdf := hC0.df
  have yp2 := yp
  have ys2 := ys
  have yr2 := yr
  have yd2 := yd
  have yk2 := yk
  have yc2 := yc
  have yn2 := yn
  have twn2 := twn
  have tdf2 := tdf
  obtain ⟨p0, p1, p2⟩ := yp2
  obtain ⟨z0, z1, z2, z3, z4, z5, z6⟩ := twn2
  obtain ⟨zz0, zz1, zz2, zz3, zz4, zz5, zz6⟩ := tdf2
  obtain ⟨s0, s1, s2, s3⟩ := ys2
  obtain ⟨r0, r1, r2, r3⟩ := yr2
  obtain ⟨d0, d1, d2⟩ := yd2
  obtain ⟨k0, k1, k2⟩ := yk2
  obtain ⟨q0, q1, q2, q3, q4⟩ := yc2
  obtain ⟨v0, v1, v2, v3, v4, v5, v6⟩ := yn2
  obtain ⟨a1, a2, a3, ⟨n1, a4⟩, ⟨n2, a5⟩, a6⟩ := hS
  obtain ⟨g1, g2, g3, g4, g5, g6, g7⟩ := hk
  have g0 := g1
  obtain ⟨o1, o2, o3, o4, o5, o6, o7, o8⟩ := g0
  have hap : apart t 18 := by unfold apart; omega
  have hap2 : apart t 22 := by unfold apart; omega
  refine gC_of (rt := 1) (ini := false) gm_X6_told rfl (by decide) (Nat.le_of_ble_eq_true rfl) (fun X hX => ?_)
  refine s_aload_n (q := 1) hX dX6_told_0 rfl rfl ?_
  refine s_iload_n (q := 2) hX dX6_told_1 rfl rfl ?_
  refine s_invv1_1 (q := 5) hX dX6_told_2 rfl glk_6_104 (by assumption) (Nat.le_of_ble_eq_true rfl) ⟨Nat.le_refl _, Nat.le_refl _⟩ (by omega) (c_isPerson (d := 1) (x := x) (Nat.le_refl _) hC0 hS0 g1 (fun ra => ?_) (fun i ra hi ei => ?_)) 
  · refine ⟨_, rfl, ?_⟩
    refine s_if_eq_t (q := 8) (r := 18) hX dX6_told_5 rfl rfl (by decide) ?_
    refine s_iconst (q := 19) (v := (-1)) hX dX6_told_18 rfl rfl ?_
    refine s_iret hX dX6_told_19 (Or.inl rfl) ⟨Nat.le_refl _, Nat.le_refl _, Nat.le_refl _, ?_⟩
    exact hcon.ret (by first | (unfold gA.told; rw [ra]; dsimp only; rw [rw]) | (unfold gA.told; rw [ra])) hC0 hS0 (fun _ _ => rfl)
  · subst ei
    refine ⟨_, rfl, ?_⟩
    refine s_if_eq_f (q := 8) (r := 18) hX dX6_told_5 rfl rfl (by decide) ?_
    refine s_iload_n (q := 9) hX dX6_told_8 rfl rfl ?_
    refine s_iconst (q := 10) (v := 0) hX dX6_told_9 rfl rfl ?_
    refine s_bipush (q := 12) (v := 6) hX dX6_told_10 rfl rfl (by decide) ?_
    refine s_invs3_1 (q := 15) hX dX6_told_12 rfl glk_6_93 (by decide) (Nat.le_of_ble_eq_true rfl) ⟨Nat.le_refl _, Nat.le_refl _⟩ (by omega) (c_rng (d := 0) (x := y) (lo := 0) (n := 7) rfl rfl (by decide) (by decide) (fun rw => ?_) (fun w rw lw hw ew => ?_)) 
    · refine ⟨_, rfl, ?_⟩
      refine s_if_ne_f (q := 18) (r := 20) hX dX6_told_15 rfl rfl (by decide) ?_
      refine s_iconst (q := 19) (v := (-1)) hX dX6_told_18 rfl rfl ?_
      refine s_iret hX dX6_told_19 (Or.inl rfl) ⟨Nat.le_refl _, Nat.le_refl _, Nat.le_refl _, ?_⟩
      exact hcon.ret (by first | (unfold gA.told; rw [ra]; dsimp only; rw [rw]) | (unfold gA.told; rw [ra])) hC0 hS0 (fun _ _ => rfl)
    · subst ew
      refine ⟨_, rfl, ?_⟩
      refine s_if_ne_t (q := 18) (r := 20) hX dX6_told_15 rfl rfl (by decide) ?_
      refine s_aload_n (q := 21) hX dX6_told_20 rfl rfl ?_
      refine s_getr (q := 24) hX dX6_told_21 rfl gfl_6_19 (by assumption) rfl ?_
      refine s_getr (q := 27) hX dX6_told_24 rfl gfl_6_132 (by assumption) rfl ?_
      refine s_iload_n (q := 28) hX dX6_told_27 rfl rfl ?_
      refine s_bipush (q := 30) (v := 7) hX dX6_told_28 rfl rfl (by decide) ?_
      refine s_imul (q := 31) (v := nI (i * 7)) hX dX6_told_30 rfl (pk_mul (i) (7)) ?_
      refine s_iload_n (q := 32) hX dX6_told_31 rfl rfl ?_
      refine s_iadd (q := 33) (v := nI (i * 7 + w)) hX dX6_told_32 rfl (nI_add (i * 7) (w)) ?_
      refine s_iald (k := i * 7 + w) (q := 34) hX dX6_told_33 rfl (by assumption) rfl (by omega) (by omega) ?_
      refine s_iret hX dX6_told_34 (Or.inl rfl) ⟨Nat.le_refl _, Nat.le_refl _, Nat.le_refl _, ?_⟩
      exact hcon.ret (by unfold gA.told; rw [ra]; dsimp only; rw [rw]; dsimp only; rw [show i * 7 + w = 7 * i + w by omega, a2.2.2.2.2.2.2.2 (7 * i + w) (by omega)]) hC0 hS0 (fun _ _ => rfl)
