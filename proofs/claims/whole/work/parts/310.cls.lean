set_option maxHeartbeats 4000000 in
set_option maxRecDepth 100000 in
theorem isCls.swap {sh : List gS} {t : Nat} (hC : isCls sh t) : isCls ((sh.set 0 (.inl (6, [some (.ref 1), some (.ref (15 - t)), some (.ref (15 - t)), some (.ref 18), some (.ref 22), some (.ref 26), some (.ref 60), some (.ref 70), some (.ref 75), some (.ref 82)]))).set 0 (.inl (6, [some (.ref 1), some (.ref (15 - t)), some (.ref t), some (.ref 18), some (.ref 22), some (.ref 26), some (.ref 60), some (.ref 70), some (.ref 75), some (.ref 82)]))) (15 - t) := by
  obtain ⟨y0, yt, yp, yw, ys, yr, yd, yk, yc, yn, yu⟩ := hC
  have hl : 0 < sh.length := (List.getElem?_eq_some_iff.mp y0).1
  have hne : ∀ (c : Nat), c ≠ 0 → ∀ (e1 e2 : gS), ((sh.set 0 e1).set 0 e2)[c]? = sh[c]? := fun c hc e1 e2 => by rw [List.getElem?_set_ne (fun z => hc z.symm), List.getElem?_set_ne (fun z => hc z.symm)]
  refine ⟨?_, by omega, ?_, ⟨?_, ?_⟩, ?_, ?_, ?_, ?_, ?_, ?_, ?_⟩
  · rw [List.getElem?_set_self (by rw [List.length_set]; exact hl), show 15 - (15 - t) = t by omega]
  · unfold isPaper at yp ⊢; rw [hne _ (by omega), hne _ (by omega), hne _ (by omega)]; exact yp
  · unfold isTown at yw ⊢; rw [hne _ (by omega), hne _ (by omega), hne _ (by omega), hne _ (by omega), hne _ (by omega), hne _ (by omega), hne _ (by omega)]; exact yw.1
  · unfold isTown at yw ⊢; rw [hne _ (by omega), hne _ (by omega), hne _ (by omega), hne _ (by omega), hne _ (by omega), hne _ (by omega), hne _ (by omega)]; exact yw.2
  · unfold isStreet at ys ⊢; rw [hne _ (by omega), hne _ (by omega), hne _ (by omega), hne _ (by omega)]; exact ys
  · unfold isStreet at yr ⊢; rw [hne _ (by omega), hne _ (by omega), hne _ (by omega), hne _ (by omega)]; exact yr
  · unfold isShelf isStreet at yd ⊢; rw [hne _ (by omega), hne _ (by omega)]; refine ⟨yd.1, yd.2.1, fun k hk => ?_⟩; rw [hne _ (by omega), hne _ (by omega), hne _ (by omega), hne _ (by omega)]; exact yd.2.2 k hk
  · unfold isShelf isStreet at yk ⊢; rw [hne _ (by omega), hne _ (by omega)]; refine ⟨yk.1, yk.2.1, fun k hk => ?_⟩; rw [hne _ (by omega), hne _ (by omega), hne _ (by omega), hne _ (by omega)]; exact yk.2.2 k hk
  · unfold isCho at yc ⊢; rw [hne _ (by omega), hne _ (by omega), hne _ (by omega), hne _ (by omega), hne _ (by omega)]; exact yc
  · unfold isWit at yn ⊢; rw [hne _ (by omega), hne _ (by omega), hne _ (by omega), hne _ (by omega), hne _ (by omega), hne _ (by omega), hne _ (by omega)]; exact yn
  · rw [hne _ (by omega)]; exact yu
theorem gnI4b {k : Nat} (h : k < 1000) : ¬ nI k = -4 := by
  intro z
  have h1 := congrArg Int32.toInt z
  rw [nI_toInt (by omega)] at h1
  have h2 : (-4 : Int32).toInt = -4 := by decide
  rw [h2] at h1
  omega
theorem flt_le {tx : Nat → Nat} {len : Nat} : ∀ {n pl q : Nat} {T : gT}, pl ≤ len → flt tx len n pl T = .inl q → q ≤ len
  | 0, pl, q, T, _, h => by cases h
  | n + 1, pl, q, T, hp, h => by
    unfold flt at h
    by_cases hc : pl < len
    · rw [if_pos hc] at h
      cases hi : itm T tx len pl with
      | none =>
        rw [hi] at h
        cases h
        omega
      | some r =>
        rw [hi] at h
        exact flt_le (itm_b (T' := r.1) (q := r.2) hc hi).2 h
    · rw [if_neg hc] at h; cases h
set_option maxHeartbeats 4000000 in
set_option maxRecDepth 100000 in
theorem k_lay {d t b : Nat}  {S : gA} {sh : List gS} {M : gM} {Q : Option Value → List gS → gM → Prop} (hd : 5 ≤ d) (hC : isCls sh t) (hS : CLS M t S) (hk : S.ok b) (hb : b ≤ 20000) (hcon : kC sh M (S.lay) Q) : gC mX6_lay d 0 0 [.ref 0] sh M Q := by
  have hC0 := hC
  have hS0 := hS
  have hk0 := hk
  obtain ⟨y0, yt, yp, yw, ys, yr, yd, yk, yc, yn, yu⟩ := hC
  have twn := hC0.tw
  have tdf := hC0.df
  have yp2 := yp
  have ys2 := ys
  have yr2 := yr
  have yd2 := yd
  have yk2 := yk
  have yc2 := yc
  have yn2 := yn
  have twn2 := twn
  have tdf2 := tdf
  obtain ⟨p0, p1, p2⟩ := yp2
  obtain ⟨z0, z1, z2, z3, z4, z5, z6⟩ := twn2
  obtain ⟨zz0, zz1, zz2, zz3, zz4, zz5, zz6⟩ := tdf2
  obtain ⟨s0, s1, s2, s3⟩ := ys2
  obtain ⟨r0, r1, r2, r3⟩ := yr2
  obtain ⟨d0, d1, d2⟩ := yd2
  obtain ⟨k0, k1, k2⟩ := yk2
  obtain ⟨q0, q1, q2, q3, q4⟩ := yc2
  obtain ⟨v0, v1, v2, v3, v4, v5, v6⟩ := yn2
  obtain ⟨a1, a2, a3, ⟨n1, a4⟩, ⟨n2, a5⟩, a6⟩ := hS
  obtain ⟨g1, g2, g3, g4, g5, g6, g7⟩ := hk
  have g0 := g1
  obtain ⟨o1, o2, o3, o4, o5, o6, o7, o8⟩ := g0
  have hap : apart t 18 := by unfold apart; omega
  have hap2 : apart t 22 := by unfold apart; omega
  refine gC_of (rt := 1) (ini := false) gm_X6_lay rfl (by decide) (Nat.le_of_ble_eq_true rfl) (fun X hX => ?_)
  have hl0 : 0 < sh.length := (List.getElem?_eq_some_iff.mp y0).1
  have x1 : ∀ e1 : gS, (sh.set 0 e1)[0]? = some e1 := fun e1 => List.getElem?_set_self hl0
  refine s_aload_n (q := 1) hX dX6_lay_0 rfl rfl ?_
  refine s_getr (q := 4) hX dX6_lay_1 rfl gfl_6_10 (by assumption) rfl ?_
  refine s_aload_n (q := 5) hX dX6_lay_4 rfl rfl ?_
  refine s_getr (q := 8) hX dX6_lay_5 rfl gfl_6_23 (by assumption) rfl ?_
  refine s_invv1_1 (q := 11) hX dX6_lay_8 rfl glk_6_82 (by assumption) (Nat.le_of_ble_eq_true rfl) ⟨Nat.le_refl _, Nat.le_refl _⟩ (by omega) (c_firstFault (d := 4) (t := 15 - t) (Nat.le_refl _) yp a1 g7 tdf (by omega) (fun q hq M1 w1 w2 => ?_) (fun T1 hT1 hdr M1 w0 w1 w2 => ?_)) 
  · have hq9 := flt_le (Nat.zero_le _) hq
    have hq8 := g7.1
    refine ⟨_, rfl, ?_⟩
    refine s_bipush (q := 13) (v := (-4)) hX dX6_lay_11 rfl rfl (by decide) ?_
    refine s_icmp_ne_t (q := 16) (r := 26) hX dX6_lay_13 rfl rfl (gnI4b (by omega)) ?_
    refine s_bipush (q := 28) (v := (-2)) hX dX6_lay_26 rfl rfl (by decide) ?_
    refine s_iret hX dX6_lay_28 (Or.inl rfl) ⟨Nat.le_refl _, Nat.le_refl _, Nat.le_refl _, ?_⟩
    exact hcon.ret (show S.lay = (-2, S) from by unfold gA.lay; rw [hq]) hC0 ⟨w1, a2.keep (fun a h1 h2 => w2 a (by omega) (by omega) (by omega)), a3.keep (fun a h1 h2 => w2 a (by omega) (by omega) (by omega)), ⟨n1, a4.keep (by omega) (fun a h1 h2 => w2 a (by omega) (by omega) (by omega))⟩, ⟨n2, a5.keep (by omega) (fun a h1 h2 => w2 a (by omega) (by omega) (by omega))⟩, a6.keep (by rw [w2 75 (by omega) (by omega) (by omega)]) (w2 _ (by omega) (by omega) (by omega)) (w2 _ (by omega) (by omega) (by omega)) (w2 _ (by omega) (by omega) (by omega))⟩ (fun a h1 => w2 a (by omega) (by omega) (by omega))
  · have hT1P := hdr.1.1
    refine ⟨_, rfl, ?_⟩
    refine s_bipush (q := 13) (v := (-4)) hX dX6_lay_11 rfl rfl (by decide) ?_
    refine s_icmp_ne_f (q := 16) (r := 26) hX dX6_lay_13 rfl rfl (by decide) ?_
    refine s_aload_n (q := 17) hX dX6_lay_16 rfl rfl ?_
    refine s_getr (q := 20) hX dX6_lay_17 rfl gfl_6_23 (by assumption) rfl ?_
    refine s_geti (q := 23) hX dX6_lay_20 rfl gfl_6_97 (by assumption) rfl ?_
    refine s_topi (v := nI (T1.P)) w0.1.1 ?_
    refine s_nif_ne (a := T1.P) (b := 0) (q := 26) (r := 29) hX dX6_lay_23 rfl rfl rfl rfl (by omega) (by omega) (fun c23 => ?_) (fun c23 => ?_)
    · refine s_aload_n (q := 30) hX dX6_lay_29 rfl rfl ?_
      refine s_getr (q := 33) hX dX6_lay_30 rfl gfl_6_19 (by assumption) rfl ?_
      refine s_astore_n (q := 34) (lv' := [(0, _), (1, _)]) hX dX6_lay_33 rfl (Nat.le_of_ble_eq_true rfl) rfl ?_
      refine s_aload_n (q := 35) hX dX6_lay_34 rfl rfl ?_
      refine s_aload_n (q := 36) hX dX6_lay_35 rfl rfl ?_
      refine s_getr (q := 39) hX dX6_lay_36 rfl gfl_6_23 (by assumption) rfl ?_
      refine s_putr (q := 42) hX dX6_lay_39 rfl gfl_6_19 (Or.inl rfl) y0 rfl rfl ?_
      refine s_aload_n (q := 43) hX dX6_lay_42 rfl rfl ?_
      refine s_aload_n (q := 44) hX dX6_lay_43 rfl rfl ?_
      refine s_putr (q := 47) hX dX6_lay_44 rfl gfl_6_23 (Or.inl rfl) (x1 _) rfl rfl ?_
      have hC2 := hC0.swap
      have hne2 : ∀ (c : Nat), 83 ≤ c → ∀ (e1 e2 : gS), ((sh.set 0 e1).set 0 e2)[c]? = sh[c]? := fun c hc e1 e2 => by rw [List.getElem?_set_ne (by omega), List.getElem?_set_ne (by omega)]
      have hln2 : ∀ (e1 e2 : gS), ((sh.set 0 e1).set 0 e2).length = sh.length := fun e1 e2 => by rw [List.length_set, List.length_set]
      have hne3 := hne2
      generalize hsh2 : ((sh.set 0 (.inl (6, [some (.ref 1), some (.ref (15 - t)), some (.ref (15 - t)), some (.ref 18), some (.ref 22), some (.ref 26), some (.ref 60), some (.ref 70), some (.ref 75), some (.ref 82)]))).set 0 (.inl (6, [some (.ref 1), some (.ref (15 - t)), some (.ref t), some (.ref 18), some (.ref 22), some (.ref 26), some (.ref 60), some (.ref 70), some (.ref 75), some (.ref 82)])) : List gS) = sh2 at hC2
      have hsx : X 47 [(0, .ref 0), (1, .ref t)] [] sh2 M1 0 0 → X 47 [(0, .ref 0), (1, .ref t)] [] ((sh.set 0 (.inl (6, [some (.ref 1), some (.ref (15 - t)), some (.ref (15 - t)), some (.ref 18), some (.ref 22), some (.ref 26), some (.ref 60), some (.ref 70), some (.ref 75), some (.ref 82)]))).set 0 (.inl (6, [some (.ref 1), some (.ref (15 - t)), some (.ref t), some (.ref 18), some (.ref 22), some (.ref 26), some (.ref 60), some (.ref 70), some (.ref 75), some (.ref 82)]))) M1 0 0 := fun z => by rw [hsh2]; exact z
      refine hsx ?_
      have hCC := hC2
      obtain ⟨j0, jt, jp, jw, ys3, jr, jd, jk, jc, jn, ju⟩ := hCC
      have ys4 := ys3
      obtain ⟨j1, j2, j3, j4⟩ := ys4
      obtain ⟨jd0, jd1, jd2⟩ := jd
      obtain ⟨jk0, jk1, jk2⟩ := jk
      obtain ⟨jv0, jv1, jv2, jv3, jv4, jv5, jv6⟩ := jn
      have jtw := hC2.tw
      obtain ⟨jz0, jz1, jz2, jz3, jz4, jz5, jz6⟩ := jtw
      refine s_aload_n (q := 48) hX dX6_lay_47 rfl rfl ?_
      refine s_getr (q := 51) hX dX6_lay_48 rfl gfl_6_29 (by assumption) rfl ?_
      refine s_aload_n (q := 52) hX dX6_lay_51 rfl rfl ?_
      refine s_getr (q := 55) hX dX6_lay_52 rfl gfl_6_19 (by assumption) rfl ?_
      refine s_invv1_0 (q := 58) hX dX6_lay_55 rfl glk_6_89 (by assumption) (Nat.le_of_ble_eq_true rfl) ⟨Nat.le_refl _, Nat.le_refl _⟩ (by omega) (c_begin (d := 1) (t := 15 - t) (T := T1) (Nat.le_refl _) hC2.tw w0.1 hdr.1 ys3 (by unfold apart; omega) (fun M2 b1 b2 => ?_)) 
      refine ⟨rfl, ?_⟩
      refine s_aload_n (q := 59) hX dX6_lay_58 rfl rfl ?_
      refine s_getr (q := 62) hX dX6_lay_59 rfl gfl_6_41 (by assumption) rfl ?_
      refine s_iconst (q := 63) (v := 0) hX dX6_lay_62 rfl rfl ?_
      refine s_puti (q := 66) hX dX6_lay_63 rfl gfl_6_100 (by assumption) rfl ?_
      refine s_aload_n (q := 67) hX dX6_lay_66 rfl rfl ?_
      refine s_getr (q := 70) hX dX6_lay_67 rfl gfl_6_45 (by assumption) rfl ?_
      refine s_iconst (q := 71) (v := 0) hX dX6_lay_70 rfl rfl ?_
      refine s_puti (q := 74) hX dX6_lay_71 rfl gfl_6_100 (by assumption) rfl ?_
      refine s_aload_n (q := 75) hX dX6_lay_74 rfl rfl ?_
      refine s_getr (q := 78) hX dX6_lay_75 rfl gfl_6_58 (by assumption) rfl ?_
      refine s_iconst (q := 79) (v := 0) hX dX6_lay_78 rfl rfl ?_
      refine s_puti (q := 82) hX dX6_lay_79 rfl gfl_6_103 (by assumption) rfl ?_
      refine s_aload_n (q := 83) hX dX6_lay_82 rfl rfl ?_
      refine s_getr (q := 86) hX dX6_lay_83 rfl gfl_6_19 (by assumption) rfl ?_
      refine s_geti (q := 89) hX dX6_lay_86 rfl gfl_6_97 (by assumption) rfl ?_
      refine s_topi (v := nI (T1.P)) (by rw [gsr_n _ _ (by omega), gsr_n _ _ (by omega), gsr_n _ _ (by omega)]; exact (w0.1.keep (fun c a b => b2 c (by omega))).1) ?_
      refine s_iret hX dX6_lay_89 (Or.inl rfl) ⟨Nat.le_refl _, Nat.le_refl _, Nat.le_of_eq (by rw [← hsh2]; exact (hln2 _ _).symm), ?_⟩
      have e9 : S.lay = (nI T1.P, (T1, T1.U0, (0, S.un.2), (0, S.kp.2), (0, S.N.2), S.tx)) := by
        unfold gA.lay; rw [hT1]; exact if_neg c23
      have := hcon (15 - t) sh2 (gsr (gsr (gsr M2 26 (upd (M2 26) 2 0)) 60 (upd (gsr M2 26 (upd (M2 26) 2 0) 60) 2 0)) 75 (upd (gsr (gsr M2 26 (upd (M2 26) 2 0)) 60 (upd (gsr M2 26 (upd (M2 26) 2 0) 60) 2 0) 75) 6 0)) hC2 (fun c hc => by rw [← hsh2]; exact hne2 c hc _ _) (by rw [← hsh2]; exact hln2 _ _) ?_ (fun c hc => by rw [gsr_n _ _ (by omega), gsr_n _ _ (by omega), gsr_n _ _ (by omega), b2 c (by omega), w2 c (by omega) (by omega) (by omega)])
      · rw [e9] at this; exact this
      · rw [e9]
        refine ⟨w1.keep9 (by rw [gsr_n _ _ (by omega), gsr_n _ _ (by omega), gsr_n _ _ (by omega), b2 1 (by omega)]) (by rw [gsr_n _ _ (by omega), gsr_n _ _ (by omega), gsr_n _ _ (by omega), b2 _ (by omega)]), w0.1.keep (fun c h1 h2 => by rw [gsr_n _ _ (by omega), gsr_n _ _ (by omega), gsr_n _ _ (by omega), b2 c (by omega)]), b1.keep (fun c h1 h2 => by rw [gsr_n _ _ (by omega), gsr_n _ _ (by omega), gsr_n _ _ (by omega)]), ⟨n1, ?_, ?_, a4.2.2.1, Nat.zero_le _, fun k hk => absurd hk (Nat.not_lt_zero k)⟩, ⟨n2, ?_, ?_, a5.2.2.1, Nat.zero_le _, fun k hk => absurd hk (Nat.not_lt_zero k)⟩, ⟨by rw [gsr_s, pk_us]; rfl, fun k hk => absurd hk (Nat.not_lt_zero k)⟩⟩
        · rw [gsr_n _ _ (by omega), gsr_n _ _ (by omega), gsr_s, pk_un (by omega), b2 26 (by omega), w2 26 (by omega) (by omega) (by omega)]; exact a4.1
        · rw [gsr_n _ _ (by omega), gsr_n _ _ (by omega), gsr_s, pk_us]; rfl
        · rw [gsr_n _ _ (by omega), gsr_s, pk_un (by omega), gsr_n _ _ (by omega), b2 60 (by omega), w2 60 (by omega) (by omega) (by omega)]; exact a5.1
        · rw [gsr_n _ _ (by omega), gsr_s, pk_us]; rfl
    · refine s_bipush (q := 28) (v := (-2)) hX dX6_lay_26 rfl rfl (by decide) ?_
      refine s_iret hX dX6_lay_28 (Or.inl rfl) ⟨Nat.le_refl _, Nat.le_refl _, Nat.le_refl _, ?_⟩
      exact hcon.ret (show S.lay = (-2, S) from by unfold gA.lay; rw [hT1]; exact if_pos (by omega)) hC0 ⟨w1, a2.keep (fun a h1 h2 => w2 a (by omega) (by omega) (by omega)), a3.keep (fun a h1 h2 => w2 a (by omega) (by omega) (by omega)), ⟨n1, a4.keep (by omega) (fun a h1 h2 => w2 a (by omega) (by omega) (by omega))⟩, ⟨n2, a5.keep (by omega) (fun a h1 h2 => w2 a (by omega) (by omega) (by omega))⟩, a6.keep (by rw [w2 75 (by omega) (by omega) (by omega)]) (w2 _ (by omega) (by omega) (by omega)) (w2 _ (by omega) (by omega) (by omega)) (w2 _ (by omega) (by omega) (by omega))⟩ (fun a h1 => w2 a (by omega) (by omega) (by omega))
