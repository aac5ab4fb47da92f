set_option maxHeartbeats 4000000 in
set_option maxRecDepth 100000 in
theorem p_write {d b : Nat} {x : Int32} {S : gA} {sh : List gS} {M : gM} {Q : Option Value → List gS → gM → Prop} (hd : 1 ≤ d) (hC : isMod sh) (hS : MOD M S) (hk : S.ok b) (hb : b ≤ 20000) (hcon : kM sh M (S.write x) Q) : gC mX7_write d 0 0 [.ref 83, .int x] sh M Q := by
  have hC0 := hC
  obtain ⟨y0, y1, y2, y3, y4, y5, y6, y7, y8, y9, y10, y11, y12, y13, y14, y15⟩ := hC
  have hS0 := hS
  have hk0 := hk
  obtain ⟨⟨a1, a1x⟩, a2, a3, ⟨a4, a4x⟩, ⟨a5, a5x⟩, a6⟩ := hS
  obtain ⟨g1, g2, g3, g4, g5, g6, g7⟩ := hk
  have g0 := g1
  obtain ⟨o1, o2, o3, o4, o5, o6, o7, o8⟩ := g0
  have x200 := g7.1
  refine gC_of (rt := 1) (ini := false) gm_X7_write rfl (by decide) (Nat.le_of_ble_eq_true rfl) (fun X hX => ?_)
  refine s_iload_n (q := 1) hX dX7_write_0 rfl rfl ?_
  refine s_bipush (q := 3) (v := 32) hX dX7_write_1 rfl rfl (by decide) ?_
  refine s_bipush (q := 5) (v := 126) hX dX7_write_3 rfl rfl (by decide) ?_
  refine s_invs3_1 (q := 8) hX dX7_write_5 rfl glk_7_66 (by decide) (Nat.le_of_ble_eq_true rfl) ⟨Nat.le_refl _, Nat.le_refl _⟩ (by omega) (m_rng (d := 0) (x := x) (lo := 32) (n := 127) rfl rfl (by decide) (by decide) (fun rx => ?_) (fun c rx lc hc ec => ?_)) 
  · refine ⟨_, rfl, ?_⟩
    refine s_if_ne_f (q := 11) (r := 13) hX dX7_write_8 rfl rfl (by decide) ?_
    refine s_iconst (q := 12) (v := (-1)) hX dX7_write_11 rfl rfl ?_
    refine s_iret hX dX7_write_12 (Or.inl rfl) ⟨Nat.le_refl _, Nat.le_refl _, Nat.le_refl _, ?_⟩
    exact hcon.ret (by unfold gA.write; rw [rx]) hS0 (fun _ _ => rfl)
  · subst ec
    refine ⟨_, rfl, ?_⟩
    refine s_if_ne_t (q := 11) (r := 13) hX dX7_write_8 rfl rfl (by decide) ?_
    refine s_aload_n (q := 14) hX dX7_write_13 rfl rfl ?_
    refine s_geti (q := 17) hX dX7_write_14 rfl gfl_7_70 (by assumption) rfl ?_
    refine s_topi (v := nI (S.tx.1)) a1 ?_
    refine s_sipush (q := 20) (v := 200) hX dX7_write_17 rfl rfl (by decide) ?_
    refine s_nicmp_ne (a := S.tx.1) (b := 200) (q := 23) (r := 26) hX dX7_write_20 rfl rfl rfl rfl (by omega) (by omega) (fun c20 => ?_) (fun c20 => ?_)
    · refine s_aload_n (q := 27) hX dX7_write_26 rfl rfl ?_
      refine s_getr (q := 30) hX dX7_write_27 rfl gfl_7_7 (by assumption) rfl ?_
      refine s_aload_n (q := 31) hX dX7_write_30 rfl rfl ?_
      refine s_geti (q := 34) hX dX7_write_31 rfl gfl_7_70 (by assumption) rfl ?_
      refine s_topi (v := nI (S.tx.1)) a1 ?_
      refine s_iload_n (q := 35) hX dX7_write_34 rfl rfl ?_
      refine s_i2b (q := 36) (v := nI (c)) hX dX7_write_35 rfl (gi2b (by omega)) ?_
      refine s_bast (k := S.tx.1) (q := 37) hX dX7_write_36 rfl (by assumption) rfl (by omega) (by omega) ?_
      refine s_aload_n (q := 38) hX dX7_write_37 rfl rfl ?_
      refine s_dup (q := 39) hX dX7_write_38 rfl rfl ?_
      refine s_geti (q := 42) hX dX7_write_39 rfl gfl_7_70 (by assumption) rfl ?_
      refine s_topi (v := nI (S.tx.1)) (by rw [gsr_n _ _ (by decide)]; exact a1) ?_
      refine s_iconst (q := 43) (v := 1) hX dX7_write_42 rfl rfl ?_
      refine s_iadd (q := 44) (v := nI (S.tx.1 + 1)) hX dX7_write_43 rfl (nI_add (S.tx.1) (1)) ?_
      refine s_puti (q := 47) hX dX7_write_44 rfl gfl_7_70 (by assumption) rfl ?_
      refine s_aload_n (q := 48) hX dX7_write_47 rfl rfl ?_
      refine s_geti (q := 51) hX dX7_write_48 rfl gfl_7_70 (by assumption) rfl ?_
      refine s_topi (v := nI (S.tx.1 + 1)) (by rw [gsr_s, pk_us]) ?_
      refine s_iret hX dX7_write_51 (Or.inl rfl) ⟨Nat.le_refl _, Nat.le_refl _, Nat.le_refl _, ?_⟩
      refine hcon.ret (S' := S.setX (S.tx.1 + 1, fun j => if j = S.tx.1 then c else S.tx.2 j)) (by unfold gA.write; rw [rx]; exact if_pos (by omega)) ⟨⟨?_, fun j hj => ?_⟩, a2.kp (fun c h1 h2 => by rw [gsr_n _ _ (by omega), gsr_n _ _ (by omega)]), a3.kp o1 (fun j h1 h2 => by rw [gsr_n _ _ (by decide), gsr_n _ _ (by decide)]), ⟨?_, fun k hk => (a4x k hk).kp o1 (fun j h1 h2 => by rw [gsr_n _ _ (by decide), gsr_n _ _ (by decide)])⟩, ⟨?_, fun k hk => (a5x k hk).kp o1 (fun j h1 h2 => by rw [gsr_n _ _ (by decide), gsr_n _ _ (by decide)])⟩, ⟨?_, fun j hj => ?_⟩⟩ (fun c hc => by rw [gsr_n _ _ (by omega), gsr_n _ _ (by omega)])
      · rw [gsr_s, pk_us]; rfl
      · have hj2 : j < S.tx.1 + 1 := hj
        show _ = nI (if j = S.tx.1 then c else S.tx.2 j)
        rw [gsr_n _ _ (by decide), gsr_s]
        by_cases e : j = S.tx.1
        · subst e; rw [pk_us, if_pos rfl]; exact gi2b (by omega)
        · rw [pk_un e, if_neg e]; exact a1x j (by omega)
      · rw [gsr_s, pk_un (by decide), gsr_n _ _ (by decide)]; exact a4
      · rw [gsr_s, pk_un (by decide), gsr_n _ _ (by decide)]; exact a5
      · rw [gsr_s, pk_un (by decide), gsr_n _ _ (by decide)]; exact a6.1
      · simp only [gsr_n _ _ (show (96 : Nat) ≠ 83 by decide), gsr_n _ _ (show (97 : Nat) ≠ 83 by decide), gsr_n _ _ (show (98 : Nat) ≠ 83 by decide), gsr_n _ _ (show (96 : Nat) ≠ 84 by decide), gsr_n _ _ (show (97 : Nat) ≠ 84 by decide), gsr_n _ _ (show (98 : Nat) ≠ 84 by decide)]
        exact a6.2 j hj
    · refine s_bipush (q := 25) (v := (-3)) hX dX7_write_23 rfl rfl (by decide) ?_
      refine s_iret hX dX7_write_25 (Or.inl rfl) ⟨Nat.le_refl _, Nat.le_refl _, Nat.le_refl _, ?_⟩
      exact hcon.ret (by unfold gA.write; rw [rx]; exact if_neg (by omega)) hS0 (fun _ _ => rfl)
set_option maxHeartbeats 4000000 in
set_option maxRecDepth 100000 in
theorem p_wipe {d b : Nat}  {S : gA} {sh : List gS} {M : gM} {Q : Option Value → List gS → gM → Prop} (hd : 0 ≤ d) (hC : isMod sh) (hS : MOD M S) (hk : S.ok b) (hb : b ≤ 20000) (hcon : kM sh M (S.wipe) Q) : gC mX7_wipe d 0 0 [.ref 83] sh M Q := by
  have hC0 := hC
  obtain ⟨y0, y1, y2, y3, y4, y5, y6, y7, y8, y9, y10, y11, y12, y13, y14, y15⟩ := hC
  have hS0 := hS
  have hk0 := hk
  obtain ⟨⟨a1, a1x⟩, a2, a3, ⟨a4, a4x⟩, ⟨a5, a5x⟩, a6⟩ := hS
  obtain ⟨g1, g2, g3, g4, g5, g6, g7⟩ := hk
  have g0 := g1
  obtain ⟨o1, o2, o3, o4, o5, o6, o7, o8⟩ := g0
  refine gC_of (rt := 1) (ini := false) gm_X7_wipe rfl (by decide) (Nat.le_of_ble_eq_true rfl) (fun X hX => ?_)
  refine s_aload_n (q := 1) hX dX7_wipe_0 rfl rfl ?_
  refine s_geti (q := 4) hX dX7_wipe_1 rfl gfl_7_70 (by assumption) rfl ?_
  refine s_topi (v := nI (S.tx.1)) a1 ?_
  refine s_istore_n (q := 5) (lv' := [(0, _), (1, _)]) hX dX7_wipe_4 rfl (Nat.le_of_ble_eq_true rfl) rfl ?_
  refine s_aload_n (q := 6) hX dX7_wipe_5 rfl rfl ?_
  refine s_iconst (q := 7) (v := 0) hX dX7_wipe_6 rfl rfl ?_
  refine s_puti (q := 10) hX dX7_wipe_7 rfl gfl_7_70 (by assumption) rfl ?_
  refine s_iload_n (q := 11) hX dX7_wipe_10 rfl rfl ?_
  refine s_iret hX dX7_wipe_11 (Or.inl rfl) ⟨Nat.le_refl _, Nat.le_refl _, Nat.le_refl _, ?_⟩
  exact hcon.ret rfl ⟨⟨by rw [gsr_s, pk_us]; rfl, fun j hj => by rw [gsr_n _ _ (by decide)]; exact absurd hj (Nat.not_lt_zero j)⟩, a2.kp (fun c h1 h2 => gsr_n _ _ (by omega)), a3.kp o1 (fun j h1 h2 => by rw [gsr_n _ _ (by decide)]), ⟨by rw [gsr_s, pk_un (by decide)]; exact a4, fun k hk => (a4x k hk).kp o1 (fun j h1 h2 => by rw [gsr_n _ _ (by decide)])⟩, ⟨by rw [gsr_s, pk_un (by decide)]; exact a5, fun k hk => (a5x k hk).kp o1 (fun j h1 h2 => by rw [gsr_n _ _ (by decide)])⟩, ⟨by rw [gsr_s, pk_un (by decide)]; exact a6.1, fun j hj => by rw [gsr_n _ _ (by decide), gsr_n _ _ (by decide), gsr_n _ _ (by decide)]; exact a6.2 j hj⟩⟩ (fun c hc => gsr_n _ _ (by omega))
set_option maxHeartbeats 4000000 in
set_option maxRecDepth 100000 in
theorem p_forget {d b : Nat}  {S : gA} {sh : List gS} {M : gM} {Q : Option Value → List gS → gM → Prop} (hd : 0 ≤ d) (hC : isMod sh) (hS : MOD M S) (hk : S.ok b) (hb : b ≤ 20000) (hcon : kM sh M (S.forget) Q) : gC mX7_forget d 0 0 [.ref 83] sh M Q := by
  have hC0 := hC
  obtain ⟨y0, y1, y2, y3, y4, y5, y6, y7, y8, y9, y10, y11, y12, y13, y14, y15⟩ := hC
  have hS0 := hS
  have hk0 := hk
  obtain ⟨⟨a1, a1x⟩, a2, a3, ⟨a4, a4x⟩, ⟨a5, a5x⟩, a6⟩ := hS
  obtain ⟨g1, g2, g3, g4, g5, g6, g7⟩ := hk
  have g0 := g1
  obtain ⟨o1, o2, o3, o4, o5, o6, o7, o8⟩ := g0
  refine gC_of (rt := 1) (ini := false) gm_X7_forget rfl (by decide) (Nat.le_of_ble_eq_true rfl) (fun X hX => ?_)
  refine s_aload_n (q := 1) hX dX7_forget_0 rfl rfl ?_
  refine s_geti (q := 4) hX dX7_forget_1 rfl gfl_7_98 (by assumption) rfl ?_
  refine s_topi (v := nI (S.N.n)) a6.1 ?_
  refine s_istore_n (q := 5) (lv' := [(0, _), (1, _)]) hX dX7_forget_4 rfl (Nat.le_of_ble_eq_true rfl) rfl ?_
  refine s_aload_n (q := 6) hX dX7_forget_5 rfl rfl ?_
  refine s_iconst (q := 7) (v := 0) hX dX7_forget_6 rfl rfl ?_
  refine s_puti (q := 10) hX dX7_forget_7 rfl gfl_7_98 (by assumption) rfl ?_
  refine s_iload_n (q := 11) hX dX7_forget_10 rfl rfl ?_
  refine s_iret hX dX7_forget_11 (Or.inl rfl) ⟨Nat.le_refl _, Nat.le_refl _, Nat.le_refl _, ?_⟩
  exact hcon.ret rfl ⟨⟨by rw [gsr_s, pk_un (by decide)]; exact a1, fun j hj => by rw [gsr_n _ _ (by decide)]; exact a1x j hj⟩, a2.kp (fun c h1 h2 => gsr_n _ _ (by omega)), a3.kp o1 (fun j h1 h2 => by rw [gsr_n _ _ (by decide)]), ⟨by rw [gsr_s, pk_un (by decide)]; exact a4, fun k hk => (a4x k hk).kp o1 (fun j h1 h2 => by rw [gsr_n _ _ (by decide)])⟩, ⟨by rw [gsr_s, pk_un (by decide)]; exact a5, fun k hk => (a5x k hk).kp o1 (fun j h1 h2 => by rw [gsr_n _ _ (by decide)])⟩, ⟨by rw [gsr_s, pk_us]; rfl, fun j hj => by rw [gsr_n _ _ (by decide), gsr_n _ _ (by decide), gsr_n _ _ (by decide)]; exact absurd hj (Nat.not_lt_zero j)⟩⟩ (fun c hc => gsr_n _ _ (by omega))
set_option maxHeartbeats 4000000 in
set_option maxRecDepth 100000 in
theorem p_person {d b : Nat} {x y : Int32} {S : gA} {sh : List gS} {M : gM} {Q : Option Value → List gS → gM → Prop} (hd : 2 ≤ d) (hC : isMod sh) (hS : MOD M S) (hk : S.ok b) (hb : b ≤ 20000) (hcon : kM sh M (S.person x y) Q) : gC mX7_person d 0 0 [.ref 83, .int x, .int y] sh M Q := by
  have hC0 := hC
  obtain ⟨y0, y1, y2, y3, y4, y5, y6, y7, y8, y9, y10, y11, y12, y13, y14, y15⟩ := hC
  have hS0 := hS
  have hk0 := hk
  obtain ⟨⟨a1, a1x⟩, a2, a3, ⟨a4, a4x⟩, ⟨a5, a5x⟩, a6⟩ := hS
  obtain ⟨g1, g2, g3, g4, g5, g6, g7⟩ := hk
  have g0 := g1
  obtain ⟨o1, o2, o3, o4, o5, o6, o7, o8⟩ := g0
  refine gC_of (rt := 1) (ini := false) gm_X7_person rfl (by decide) (Nat.le_of_ble_eq_true rfl) (fun X hX => ?_)
  refine s_aload_n (q := 1) hX dX7_person_0 rfl rfl ?_
  refine s_iload_n (q := 2) hX dX7_person_1 rfl rfl ?_
  refine s_invv1_1 (q := 5) hX dX7_person_2 rfl glk_7_104 (by assumption) (Nat.le_of_ble_eq_true rfl) ⟨Nat.le_refl _, Nat.le_refl _⟩ (by omega) (m_isPerson (d := 1) (x := x) (Nat.le_refl _) hC0 a2 g1 (fun ra => ?_) (fun i ra hi ei => ?_)) 
  · refine ⟨_, rfl, ?_⟩
    refine s_if_ne_f (q := 8) (r := 10) hX dX7_person_5 rfl rfl (by decide) ?_
    refine s_iconst (q := 9) (v := (-1)) hX dX7_person_8 rfl rfl ?_
    refine s_iret hX dX7_person_9 (Or.inl rfl) ⟨Nat.le_refl _, Nat.le_refl _, Nat.le_refl _, ?_⟩
    exact hcon.ret (by first | (unfold gA.person; rw [ra])) hS0 (fun _ _ => rfl)
  · subst ei
    refine ⟨_, rfl, ?_⟩
    refine s_if_ne_t (q := 8) (r := 10) hX dX7_person_5 rfl rfl (by decide) ?_
    refine s_iload_n (q := 11) hX dX7_person_10 rfl rfl ?_
    refine s_table hX dX7_person_11 rfl (fun c11 => ?_) ⟨fun c11 => ?_, fun c11 => ?_, fun c11 => ?_, fun c11 => ?_, fun c11 => ?_, fun c11 => ?_, fun c11 => ?_, trivial⟩
    · refine s_to (r := 101) rfl ?_
      refine s_iconst (q := 102) (v := (-1)) hX dX7_person_101 rfl rfl ?_
      refine s_iret hX dX7_person_102 (Or.inl rfl) ⟨Nat.le_refl _, Nat.le_refl _, Nat.le_refl _, ?_⟩
      exact hcon.ret (by unfold gA.person; rw [ra]; dsimp only; rw [mrng_no (by omega)]) hS0 (fun _ _ => rfl)
    · refine s_to (r := 52) rfl ?_
      refine s_aload_n (q := 53) hX dX7_person_52 rfl rfl ?_
      refine s_getr (q := 56) hX dX7_person_53 rfl gfl_7_17 (by assumption) rfl ?_
      refine s_iload_n (q := 57) hX dX7_person_56 rfl rfl ?_
      refine s_iald (k := i) (q := 58) hX dX7_person_57 rfl (by assumption) rfl (by omega) (by omega) ?_
      refine s_topi (v := nI (S.T.kd i)) (a2.2.2.2.1 i hi) ?_
      refine s_iret hX dX7_person_58 (Or.inl rfl) ⟨Nat.le_refl _, Nat.le_refl _, Nat.le_refl _, ?_⟩
      exact hcon.ret (by unfold gA.person; rw [ra]; dsimp only; rw [mrng_at (k := 0) (by omega) (by omega) (by omega)]; dsimp only; rw [if_pos rfl]) hS0 (fun _ _ => rfl)
    · refine s_to (r := 59) rfl ?_
      obtain ⟨w, hw1, hw2, hw3, hw4⟩ := mrng_ex (x := y) (lo := 1) (n := 4) (by omega)
      subst hw3
      refine s_aload_n (q := 60) hX dX7_person_59 rfl rfl ?_
      refine s_getr (q := 63) hX dX7_person_60 rfl gfl_7_38 (by assumption) rfl ?_
      refine s_iconst (q := 64) (v := 1) hX dX7_person_63 rfl rfl ?_
      refine s_iconst (q := 65) (v := 3) hX dX7_person_64 rfl rfl ?_
      refine s_iload_n (q := 66) hX dX7_person_65 rfl rfl ?_
      refine s_imul (q := 67) (v := nI (3 * i)) hX dX7_person_66 rfl (pk_mul (3) (i)) ?_
      refine s_iadd (q := 68) (v := nI (1 + (3 * i))) hX dX7_person_67 rfl (nI_add (1) (3 * i)) ?_
      refine s_iload_n (q := 69) hX dX7_person_68 rfl rfl ?_
      refine s_iadd (q := 70) (v := nI (1 + (3 * i) + w)) hX dX7_person_69 rfl (nI_add (1 + (3 * i)) (w)) ?_
      refine s_iconst (q := 71) (v := 1) hX dX7_person_70 rfl rfl ?_
      refine s_isub (q := 72) (v := nI (1 + (3 * i) + w - 1)) hX dX7_person_71 rfl (pk_sub (a := 1 + (3 * i) + w) (b := 1) (by omega)) ?_
      refine s_iald (k := 1 + (3 * i) + w - 1) (q := 73) hX dX7_person_72 rfl (by assumption) rfl (by omega) (by omega) ?_
      refine s_topi (v := nI (S.U.h (3 * i + w - 1))) (by rw [show 1 + 3 * i + w - 1 = 0 + 1 + (3 * i + w - 1) by omega]; exact a3.2.1 _ (by omega)) ?_
      refine s_iret hX dX7_person_73 (Or.inl rfl) ⟨Nat.le_refl _, Nat.le_refl _, Nat.le_refl _, ?_⟩
      exact hcon.ret (by unfold gA.person; rw [ra]; dsimp only; rw [mrng_at (k := w) (by omega) (by omega) (by omega)]; dsimp only; rw [if_neg (by omega), if_neg (by omega), if_neg (by omega), if_neg (by omega)]) hS0 (fun _ _ => rfl)
    · refine s_to (r := 59) rfl ?_
      obtain ⟨w, hw1, hw2, hw3, hw4⟩ := mrng_ex (x := y) (lo := 1) (n := 4) (by omega)
      subst hw3
      refine s_aload_n (q := 60) hX dX7_person_59 rfl rfl ?_
      refine s_getr (q := 63) hX dX7_person_60 rfl gfl_7_38 (by assumption) rfl ?_
      refine s_iconst (q := 64) (v := 1) hX dX7_person_63 rfl rfl ?_
      refine s_iconst (q := 65) (v := 3) hX dX7_person_64 rfl rfl ?_
      refine s_iload_n (q := 66) hX dX7_person_65 rfl rfl ?_
      refine s_imul (q := 67) (v := nI (3 * i)) hX dX7_person_66 rfl (pk_mul (3) (i)) ?_
      refine s_iadd (q := 68) (v := nI (1 + (3 * i))) hX dX7_person_67 rfl (nI_add (1) (3 * i)) ?_
      refine s_iload_n (q := 69) hX dX7_person_68 rfl rfl ?_
      refine s_iadd (q := 70) (v := nI (1 + (3 * i) + w)) hX dX7_person_69 rfl (nI_add (1 + (3 * i)) (w)) ?_
      refine s_iconst (q := 71) (v := 1) hX dX7_person_70 rfl rfl ?_
      refine s_isub (q := 72) (v := nI (1 + (3 * i) + w - 1)) hX dX7_person_71 rfl (pk_sub (a := 1 + (3 * i) + w) (b := 1) (by omega)) ?_
      refine s_iald (k := 1 + (3 * i) + w - 1) (q := 73) hX dX7_person_72 rfl (by assumption) rfl (by omega) (by omega) ?_
      refine s_topi (v := nI (S.U.h (3 * i + w - 1))) (by rw [show 1 + 3 * i + w - 1 = 0 + 1 + (3 * i + w - 1) by omega]; exact a3.2.1 _ (by omega)) ?_
      refine s_iret hX dX7_person_73 (Or.inl rfl) ⟨Nat.le_refl _, Nat.le_refl _, Nat.le_refl _, ?_⟩
      exact hcon.ret (by unfold gA.person; rw [ra]; dsimp only; rw [mrng_at (k := w) (by omega) (by omega) (by omega)]; dsimp only; rw [if_neg (by omega), if_neg (by omega), if_neg (by omega), if_neg (by omega)]) hS0 (fun _ _ => rfl)
    · refine s_to (r := 59) rfl ?_
      obtain ⟨w, hw1, hw2, hw3, hw4⟩ := mrng_ex (x := y) (lo := 1) (n := 4) (by omega)
      subst hw3
      refine s_aload_n (q := 60) hX dX7_person_59 rfl rfl ?_
      refine s_getr (q := 63) hX dX7_person_60 rfl gfl_7_38 (by assumption) rfl ?_
      refine s_iconst (q := 64) (v := 1) hX dX7_person_63 rfl rfl ?_
      refine s_iconst (q := 65) (v := 3) hX dX7_person_64 rfl rfl ?_
      refine s_iload_n (q := 66) hX dX7_person_65 rfl rfl ?_
      refine s_imul (q := 67) (v := nI (3 * i)) hX dX7_person_66 rfl (pk_mul (3) (i)) ?_
      refine s_iadd (q := 68) (v := nI (1 + (3 * i))) hX dX7_person_67 rfl (nI_add (1) (3 * i)) ?_
      refine s_iload_n (q := 69) hX dX7_person_68 rfl rfl ?_
      refine s_iadd (q := 70) (v := nI (1 + (3 * i) + w)) hX dX7_person_69 rfl (nI_add (1 + (3 * i)) (w)) ?_
      refine s_iconst (q := 71) (v := 1) hX dX7_person_70 rfl rfl ?_
      refine s_isub (q := 72) (v := nI (1 + (3 * i) + w - 1)) hX dX7_person_71 rfl (pk_sub (a := 1 + (3 * i) + w) (b := 1) (by omega)) ?_
      refine s_iald (k := 1 + (3 * i) + w - 1) (q := 73) hX dX7_person_72 rfl (by assumption) rfl (by omega) (by omega) ?_
      refine s_topi (v := nI (S.U.h (3 * i + w - 1))) (by rw [show 1 + 3 * i + w - 1 = 0 + 1 + (3 * i + w - 1) by omega]; exact a3.2.1 _ (by omega)) ?_
      refine s_iret hX dX7_person_73 (Or.inl rfl) ⟨Nat.le_refl _, Nat.le_refl _, Nat.le_refl _, ?_⟩
      exact hcon.ret (by unfold gA.person; rw [ra]; dsimp only; rw [mrng_at (k := w) (by omega) (by omega) (by omega)]; dsimp only; rw [if_neg (by omega), if_neg (by omega), if_neg (by omega), if_neg (by omega)]) hS0 (fun _ _ => rfl)
    · refine s_to (r := 74) rfl ?_
      refine s_aload_n (q := 75) hX dX7_person_74 rfl rfl ?_
      refine s_iconst (q := 76) (v := 0) hX dX7_person_75 rfl rfl ?_
      refine s_iload_n (q := 77) hX dX7_person_76 rfl rfl ?_
      refine s_invv2_1 (q := 80) hX dX7_person_77 rfl glk_7_108 (by assumption) (Nat.le_of_ble_eq_true rfl) ⟨Nat.le_refl _, Nat.le_refl _⟩ (by omega) (m_hue (d := 0) (a := 0) (T := S.T) (U := S.U) hC0 a2 g1 a3 g3.1 (by omega) hi ?_) 
      refine ⟨_, rfl, ?_⟩
      refine s_iret hX dX7_person_80 (Or.inl rfl) ⟨Nat.le_refl _, Nat.le_refl _, Nat.le_refl _, ?_⟩
      exact hcon.ret (by unfold gA.person; rw [ra]; dsimp only; rw [mrng_at (k := 4) (by omega) (by omega) (by omega)]; dsimp only; rw [if_neg (by omega), if_pos rfl]) hS0 (fun _ _ => rfl)
    · refine s_to (r := 81) rfl ?_
      refine s_aload_n (q := 82) hX dX7_person_81 rfl rfl ?_
      refine s_getr (q := 85) hX dX7_person_82 rfl gfl_7_38 (by assumption) rfl ?_
      refine s_bipush (q := 87) (v := 19) hX dX7_person_85 rfl rfl (by decide) ?_
      refine s_iload_n (q := 88) hX dX7_person_87 rfl rfl ?_
      refine s_iadd (q := 89) (v := nI (19 + i)) hX dX7_person_88 rfl (nI_add (19) (i)) ?_
      refine s_iald (k := 19 + i) (q := 90) hX dX7_person_89 rfl (by assumption) rfl (by omega) (by omega) ?_
      refine s_iret hX dX7_person_90 (Or.inl rfl) ⟨Nat.le_refl _, Nat.le_refl _, Nat.le_refl _, ?_⟩
      exact hcon.ret (by unfold gA.person; rw [ra]; dsimp only; rw [mrng_at (k := 5) (by omega) (by omega) (by omega)]; dsimp only; rw [if_neg (by omega), if_neg (by omega), if_pos rfl]; exact congrArg (fun z => (z, S)) (a3.2.2.1 i hi).symm) hS0 (fun _ _ => rfl)
    · refine s_to (r := 91) rfl ?_
      refine s_aload_n (q := 92) hX dX7_person_91 rfl rfl ?_
      refine s_getr (q := 95) hX dX7_person_92 rfl gfl_7_38 (by assumption) rfl ?_
      refine s_bipush (q := 97) (v := 25) hX dX7_person_95 rfl rfl (by decide) ?_
      refine s_iload_n (q := 98) hX dX7_person_97 rfl rfl ?_
      refine s_iadd (q := 99) (v := nI (25 + i)) hX dX7_person_98 rfl (nI_add (25) (i)) ?_
      refine s_iald (k := 25 + i) (q := 100) hX dX7_person_99 rfl (by assumption) rfl (by omega) (by omega) ?_
      refine s_iret hX dX7_person_100 (Or.inl rfl) ⟨Nat.le_refl _, Nat.le_refl _, Nat.le_refl _, ?_⟩
      exact hcon.ret (by unfold gA.person; rw [ra]; dsimp only; rw [mrng_at (k := 6) (by omega) (by omega) (by omega)]; dsimp only; rw [if_neg (by omega), if_neg (by omega), if_neg (by omega), if_pos rfl]; exact congrArg (fun z => (z, S)) (a3.2.2.2 i hi).symm) hS0 (fun _ _ => rfl)
set_option maxHeartbeats 4000000 in
set_option maxRecDepth 100000 in
theorem p_deed {d b : Nat} {x y : Int32} {S : gA} {sh : List gS} {M : gM} {Q : Option Value → List gS → gM → Prop} (hd : 2 ≤ d) (hC : isMod sh) (hS : MOD M S) (hk : S.ok b) (hb : b ≤ 20000) (hcon : kM sh M (S.deed x y) Q) : gC mX7_deed d 0 0 [.ref 83, .int x, .int y] sh M Q := by
  have hC0 := hC
  obtain ⟨y0, y1, y2, y3, y4, y5, y6, y7, y8, y9, y10, y11, y12, y13, y14, y15⟩ := hC
  have hS0 := hS
  have hk0 := hk
  obtain ⟨⟨a1, a1x⟩, a2, a3, ⟨a4, a4x⟩, ⟨a5, a5x⟩, a6⟩ := hS
  obtain ⟨g1, g2, g3, g4, g5, g6, g7⟩ := hk
  have g0 := g1
  obtain ⟨o1, o2, o3, o4, o5, o6, o7, o8⟩ := g0
  refine gC_of (rt := 1) (ini := false) gm_X7_deed rfl (by decide) (Nat.le_of_ble_eq_true rfl) (fun X hX => ?_)
  refine s_aload_n (q := 1) hX dX7_deed_0 rfl rfl ?_
  refine s_iload_n (q := 2) hX dX7_deed_1 rfl rfl ?_
  refine s_invv1_1 (q := 5) hX dX7_deed_2 rfl glk_7_112 (by assumption) (Nat.le_of_ble_eq_true rfl) ⟨Nat.le_refl _, Nat.le_refl _⟩ (by omega) (m_isDeed (d := 1) (x := x) (Nat.le_refl _) hC0 a2 g1 (fun rb => ?_) (fun k rb hk ek => ?_)) 
  · refine ⟨_, rfl, ?_⟩
    refine s_if_eq_t (q := 8) (r := 17) hX dX7_deed_5 rfl rfl (by decide) ?_
    refine s_iconst (q := 18) (v := (-1)) hX dX7_deed_17 rfl rfl ?_
    refine s_iret hX dX7_deed_18 (Or.inl rfl) ⟨Nat.le_refl _, Nat.le_refl _, Nat.le_refl _, ?_⟩
    exact hcon.ret (by first | (unfold gA.deed; rw [rb]; dsimp only; rw [rw]) | (unfold gA.deed; rw [rb])) hS0 (fun _ _ => rfl)
  · subst ek
    refine ⟨_, rfl, ?_⟩
    refine s_if_eq_f (q := 8) (r := 17) hX dX7_deed_5 rfl rfl (by decide) ?_
    refine s_iload_n (q := 9) hX dX7_deed_8 rfl rfl ?_
    refine s_iconst (q := 10) (v := 0) hX dX7_deed_9 rfl rfl ?_
    refine s_iconst (q := 11) (v := 3) hX dX7_deed_10 rfl rfl ?_
    refine s_invs3_1 (q := 14) hX dX7_deed_11 rfl glk_7_66 (by decide) (Nat.le_of_ble_eq_true rfl) ⟨Nat.le_refl _, Nat.le_refl _⟩ (by omega) (m_rng (d := 0) (x := y) (lo := 0) (n := 4) rfl rfl (by decide) (by decide) (fun rw => ?_) (fun w rw lw hw ew => ?_)) 
    · refine ⟨_, rfl, ?_⟩
      refine s_if_ne_f (q := 17) (r := 19) hX dX7_deed_14 rfl rfl (by decide) ?_
      refine s_iconst (q := 18) (v := (-1)) hX dX7_deed_17 rfl rfl ?_
      refine s_iret hX dX7_deed_18 (Or.inl rfl) ⟨Nat.le_refl _, Nat.le_refl _, Nat.le_refl _, ?_⟩
      exact hcon.ret (by first | (unfold gA.deed; rw [rb]; dsimp only; rw [rw]) | (unfold gA.deed; rw [rb])) hS0 (fun _ _ => rfl)
    · subst ew
      refine ⟨_, rfl, ?_⟩
      refine s_if_ne_t (q := 17) (r := 19) hX dX7_deed_14 rfl rfl (by decide) ?_
      refine s_iload_n (q := 20) hX dX7_deed_19 rfl rfl ?_
      refine s_iconst (q := 21) (v := 3) hX dX7_deed_20 rfl rfl ?_
      refine s_nicmp_ge (a := w) (b := 3) (q := 24) (r := 37) hX dX7_deed_21 rfl rfl rfl rfl (by omega) (by omega) (fun c21 => ?_) (fun c21 => ?_)
      · refine s_aload_n (q := 38) hX dX7_deed_37 rfl rfl ?_
        refine s_getr (q := 41) hX dX7_deed_38 rfl gfl_7_29 (by assumption) rfl ?_
        refine s_iload_n (q := 42) hX dX7_deed_41 rfl rfl ?_
        refine s_iald (k := k) (q := 43) hX dX7_deed_42 rfl (by assumption) rfl (by omega) (by omega) ?_
        refine s_topi (v := nI (S.T.wo k)) (a2.2.2.2.2.2.2.1 k hk) ?_
        refine s_iret hX dX7_deed_43 (Or.inl rfl) ⟨Nat.le_refl _, Nat.le_refl _, Nat.le_refl _, ?_⟩
        exact hcon.ret (by unfold gA.deed; rw [rb]; dsimp only; rw [rw]; dsimp only; rw [if_pos (by omega)]) hS0 (fun _ _ => rfl)
      · refine s_aload_n (q := 25) hX dX7_deed_24 rfl rfl ?_
        refine s_getr (q := 28) hX dX7_deed_25 rfl gfl_7_26 (by assumption) rfl ?_
        refine s_iconst (q := 29) (v := 3) hX dX7_deed_28 rfl rfl ?_
        refine s_iload_n (q := 30) hX dX7_deed_29 rfl rfl ?_
        refine s_imul (q := 31) (v := nI (3 * k)) hX dX7_deed_30 rfl (pk_mul (3) (k)) ?_
        refine s_iload_n (q := 32) hX dX7_deed_31 rfl rfl ?_
        refine s_iadd (q := 33) (v := nI (3 * k + w)) hX dX7_deed_32 rfl (nI_add (3 * k) (w)) ?_
        refine s_iald (k := 3 * k + w) (q := 34) hX dX7_deed_33 rfl (by assumption) rfl (by omega) (by omega) ?_
        refine s_topi (v := nI (S.T.co (3 * k + w))) (a2.2.2.2.2.2.1 _ (by omega)) ?_
        refine s_goto (q := 43) hX dX7_deed_34 rfl ?_
        refine s_iret hX dX7_deed_43 (Or.inl rfl) ⟨Nat.le_refl _, Nat.le_refl _, Nat.le_refl _, ?_⟩
        exact hcon.ret (by unfold gA.deed; rw [rb]; dsimp only; rw [rw]; dsimp only; rw [if_neg (by omega)]) hS0 (fun _ _ => rfl)
set_option maxHeartbeats 4000000 in
set_option maxRecDepth 100000 in
theorem p_told {d b : Nat} {x y : Int32} {S : gA} {sh : List gS} {M : gM} {Q : Option Value → List gS → gM → Prop} (hd : 2 ≤ d) (hC : isMod sh) (hS : MOD M S) (hk : S.ok b) (hb : b ≤ 20000) (hcon : kM sh M (S.told x y) Q) : gC mX7_told d 0 0 [.ref 83, .int x, .int y] sh M Q := by
  have hC0 := hC
  obtain ⟨y0, y1, y2, y3, y4, y5, y6, y7, y8, y9, y10, y11, y12, y13, y14, y15⟩ := hC
  have hS0 := hS
  have hk0 := hk
  obtain ⟨⟨a1, a1x⟩, a2, a3, ⟨a4, a4x⟩, ⟨a5, a5x⟩, a6⟩ := hS
  obtain ⟨g1, g2, g3, g4, g5, g6, g7⟩ := hk
  have g0 := g1
  obtain ⟨o1, o2, o3, o4, o5, o6, o7, o8⟩ := g0
  refine gC_of (rt := 1) (ini := false) gm_X7_told rfl (by decide) (Nat.le_of_ble_eq_true rfl) (fun X hX => ?_)
  refine s_aload_n (q := 1) hX dX7_told_0 rfl rfl ?_
  refine s_iload_n (q := 2) hX dX7_told_1 rfl rfl ?_
  refine s_invv1_1 (q := 5) hX dX7_told_2 rfl glk_7_104 (by assumption) (Nat.le_of_ble_eq_true rfl) ⟨Nat.le_refl _, Nat.le_refl _⟩ (by omega) (m_isPerson (d := 1) (x := x) (Nat.le_refl _) hC0 a2 g1 (fun ra => ?_) (fun i ra hi ei => ?_)) 
  · refine ⟨_, rfl, ?_⟩
    refine s_if_eq_t (q := 8) (r := 32) hX dX7_told_5 rfl rfl (by decide) ?_
    refine s_iconst (q := 33) (v := (-1)) hX dX7_told_32 rfl rfl ?_
    refine s_iret hX dX7_told_33 (Or.inl rfl) ⟨Nat.le_refl _, Nat.le_refl _, Nat.le_refl _, ?_⟩
    exact hcon.ret (by first | (unfold gA.told; rw [ra]; dsimp only; rw [rw]) | (unfold gA.told; rw [ra])) hS0 (fun _ _ => rfl)
  · subst ei
    refine ⟨_, rfl, ?_⟩
    refine s_if_eq_f (q := 8) (r := 32) hX dX7_told_5 rfl rfl (by decide) ?_
    refine s_iload_n (q := 9) hX dX7_told_8 rfl rfl ?_
    refine s_iconst (q := 10) (v := 0) hX dX7_told_9 rfl rfl ?_
    refine s_bipush (q := 12) (v := 6) hX dX7_told_10 rfl rfl (by decide) ?_
    refine s_invs3_1 (q := 15) hX dX7_told_12 rfl glk_7_66 (by decide) (Nat.le_of_ble_eq_true rfl) ⟨Nat.le_refl _, Nat.le_refl _⟩ (by omega) (m_rng (d := 0) (x := y) (lo := 0) (n := 7) rfl rfl (by decide) (by decide) (fun rw => ?_) (fun w rw lw hw ew => ?_)) 
    · refine ⟨_, rfl, ?_⟩
      refine s_if_eq_t (q := 18) (r := 32) hX dX7_told_15 rfl rfl (by decide) ?_
      refine s_iconst (q := 33) (v := (-1)) hX dX7_told_32 rfl rfl ?_
      refine s_iret hX dX7_told_33 (Or.inl rfl) ⟨Nat.le_refl _, Nat.le_refl _, Nat.le_refl _, ?_⟩
      exact hcon.ret (by first | (unfold gA.told; rw [ra]; dsimp only; rw [rw]) | (unfold gA.told; rw [ra])) hS0 (fun _ _ => rfl)
    · subst ew
      refine ⟨_, rfl, ?_⟩
      refine s_if_eq_f (q := 18) (r := 32) hX dX7_told_15 rfl rfl (by decide) ?_
      refine s_aload_n (q := 19) hX dX7_told_18 rfl rfl ?_
      refine s_getr (q := 22) hX dX7_told_19 rfl gfl_7_32 (by assumption) rfl ?_
      refine s_bipush (q := 24) (v := 7) hX dX7_told_22 rfl rfl (by decide) ?_
      refine s_iload_n (q := 25) hX dX7_told_24 rfl rfl ?_
      refine s_imul (q := 26) (v := nI (7 * i)) hX dX7_told_25 rfl (pk_mul (7) (i)) ?_
      refine s_iload_n (q := 27) hX dX7_told_26 rfl rfl ?_
      refine s_iadd (q := 28) (v := nI (7 * i + w)) hX dX7_told_27 rfl (nI_add (7 * i) (w)) ?_
      refine s_iald (k := 7 * i + w) (q := 29) hX dX7_told_28 rfl (by assumption) rfl (by omega) (by omega) ?_
      refine s_goto (q := 33) hX dX7_told_29 rfl ?_
      refine s_iret hX dX7_told_33 (Or.inl rfl) ⟨Nat.le_refl _, Nat.le_refl _, Nat.le_refl _, ?_⟩
      exact hcon.ret (by unfold gA.told; rw [ra]; dsimp only; rw [rw]; dsimp only; exact congrArg (fun z => (z, S)) (a2.2.2.2.2.2.2.2 _ (by omega)).symm) hS0 (fun _ _ => rfl)
set_option maxHeartbeats 4000000 in
set_option maxRecDepth 100000 in
theorem p_can {d b : Nat} {x y : Int32} {S : gA} {sh : List gS} {M : gM} {Q : Option Value → List gS → gM → Prop} (hd : 3 ≤ d) (hC : isMod sh) (hS : MOD M S) (hk : S.ok b) (hb : b ≤ 20000) (hcon : kM sh M (S.can x y) Q) : gC mX7_can d 0 0 [.ref 83, .int x, .int y] sh M Q := by
  have hC0 := hC
  obtain ⟨y0, y1, y2, y3, y4, y5, y6, y7, y8, y9, y10, y11, y12, y13, y14, y15⟩ := hC
  have hS0 := hS
  have hk0 := hk
  obtain ⟨⟨a1, a1x⟩, a2, a3, ⟨a4, a4x⟩, ⟨a5, a5x⟩, a6⟩ := hS
  obtain ⟨g1, g2, g3, g4, g5, g6, g7⟩ := hk
  have g0 := g1
  obtain ⟨o1, o2, o3, o4, o5, o6, o7, o8⟩ := g0
  refine gC_of (rt := 1) (ini := false) gm_X7_can rfl (by decide) (Nat.le_of_ble_eq_true rfl) (fun X hX => ?_)
  refine s_aload_n (q := 1) hX dX7_can_0 rfl rfl ?_
  refine s_iload_n (q := 2) hX dX7_can_1 rfl rfl ?_
  refine s_invv1_1 (q := 5) hX dX7_can_2 rfl glk_7_104 (by assumption) (Nat.le_of_ble_eq_true rfl) ⟨Nat.le_refl _, Nat.le_refl _⟩ (by omega) (m_isPerson (d := 1) (x := x) (Nat.le_refl _) hC0 a2 g1 (fun ra => ?_) (fun i ra hi ei => ?_)) 
  · refine ⟨_, rfl, ?_⟩
    refine s_if_eq_t (q := 8) (r := 16) hX dX7_can_5 rfl rfl (by decide) ?_
    refine s_iconst (q := 17) (v := (-1)) hX dX7_can_16 rfl rfl ?_
    refine s_iret hX dX7_can_17 (Or.inl rfl) ⟨Nat.le_refl _, Nat.le_refl _, Nat.le_refl _, ?_⟩
    exact hcon.ret (by first | (unfold gA.can; rw [ra]; dsimp only; rw [rb]) | (unfold gA.can; rw [ra])) hS0 (fun _ _ => rfl)
  · subst ei
    refine ⟨_, rfl, ?_⟩
    refine s_if_eq_f (q := 8) (r := 16) hX dX7_can_5 rfl rfl (by decide) ?_
    refine s_aload_n (q := 9) hX dX7_can_8 rfl rfl ?_
    refine s_iload_n (q := 10) hX dX7_can_9 rfl rfl ?_
    refine s_invv1_1 (q := 13) hX dX7_can_10 rfl glk_7_112 (by assumption) (Nat.le_of_ble_eq_true rfl) ⟨Nat.le_refl _, Nat.le_refl _⟩ (by omega) (m_isDeed (d := 1) (x := y) (Nat.le_refl _) hC0 a2 g1 (fun rb => ?_) (fun k rb hk ek => ?_)) 
    · refine ⟨_, rfl, ?_⟩
      refine s_if_ne_f (q := 16) (r := 18) hX dX7_can_13 rfl rfl (by decide) ?_
      refine s_iconst (q := 17) (v := (-1)) hX dX7_can_16 rfl rfl ?_
      refine s_iret hX dX7_can_17 (Or.inl rfl) ⟨Nat.le_refl _, Nat.le_refl _, Nat.le_refl _, ?_⟩
      exact hcon.ret (by first | (unfold gA.can; rw [ra]; dsimp only; rw [rb]) | (unfold gA.can; rw [ra])) hS0 (fun _ _ => rfl)
    · subst ek
      refine ⟨_, rfl, ?_⟩
      refine s_if_ne_t (q := 16) (r := 18) hX dX7_can_13 rfl rfl (by decide) ?_
      refine s_aload_n (q := 19) hX dX7_can_18 rfl rfl ?_
      refine s_iconst (q := 20) (v := 0) hX dX7_can_19 rfl rfl ?_
      refine s_iload_n (q := 21) hX dX7_can_20 rfl rfl ?_
      refine s_iload_n (q := 22) hX dX7_can_21 rfl rfl ?_
      refine s_invv3_1 (q := 25) hX dX7_can_22 rfl glk_7_122 (by assumption) (Nat.le_of_ble_eq_true rfl) ⟨Nat.le_refl _, Nat.le_refl _⟩ (by omega) (m_canDo (d := 1) (a := 0) (T := S.T) (U := S.U) (Nat.le_refl _) hC0 a2 g1 a3 g3.1 (by omega) hi hk (fun g hg => ?_)) 
      refine ⟨_, rfl, ?_⟩
      refine s_if_eq (q := 28) (r := 32) hX dX7_can_25 rfl rfl (fun c25 => ?_) (fun c25 => ?_)
      · refine s_iconst (q := 33) (v := 0) hX dX7_can_32 rfl rfl ?_
        refine s_iret hX dX7_can_33 (Or.inl rfl) ⟨Nat.le_refl _, Nat.le_refl _, Nat.le_refl _, ?_⟩
        exact hcon.ret (by unfold gA.can; rw [ra]; dsimp only; rw [rb]; dsimp only; rw [if_neg (gif_f c25)]) (hS0.kp o1 g4.1 g5.1 (fun _ _ => by rw [gsr_n _ _ (by decide)]) (fun c _ _ _ h4 _ => gsr_n _ _ h4) (fun j hj => by rw [gsr_n _ _ (by decide)])) (fun c hc => gsr_n _ _ (by omega))
      · refine s_iconst (q := 29) (v := 1) hX dX7_can_28 rfl rfl ?_
        refine s_goto (q := 33) hX dX7_can_29 rfl ?_
        refine s_iret hX dX7_can_33 (Or.inl rfl) ⟨Nat.le_refl _, Nat.le_refl _, Nat.le_refl _, ?_⟩
        exact hcon.ret (by unfold gA.can; rw [ra]; dsimp only; rw [rb]; dsimp only; rw [if_pos (gif_t c25)]) (hS0.kp o1 g4.1 g5.1 (fun _ _ => by rw [gsr_n _ _ (by decide)]) (fun c _ _ _ h4 _ => gsr_n _ _ h4) (fun j hj => by rw [gsr_n _ _ (by decide)])) (fun c hc => gsr_n _ _ (by omega))
set_option maxHeartbeats 4000000 in
set_option maxRecDepth 100000 in
theorem p_act {d b : Nat} {x y : Int32} {S : gA} {sh : List gS} {M : gM} {Q : Option Value → List gS → gM → Prop} (hd : 3 ≤ d) (hC : isMod sh) (hS : MOD M S) (hk : S.ok b) (hb : b ≤ 20000) (hcon : kM sh M (S.act x y) Q) : gC mX7_act d 0 0 [.ref 83, .int x, .int y] sh M Q := by
  have hC0 := hC
  obtain ⟨y0, y1, y2, y3, y4, y5, y6, y7, y8, y9, y10, y11, y12, y13, y14, y15⟩ := hC
  have hS0 := hS
  have hk0 := hk
  obtain ⟨⟨a1, a1x⟩, a2, a3, ⟨a4, a4x⟩, ⟨a5, a5x⟩, a6⟩ := hS
  obtain ⟨g1, g2, g3, g4, g5, g6, g7⟩ := hk
  have g0 := g1
  obtain ⟨o1, o2, o3, o4, o5, o6, o7, o8⟩ := g0
  refine gC_of (rt := 1) (ini := false) gm_X7_act rfl (by decide) (Nat.le_of_ble_eq_true rfl) (fun X hX => ?_)
  refine s_aload_n (q := 1) hX dX7_act_0 rfl rfl ?_
  refine s_iload_n (q := 2) hX dX7_act_1 rfl rfl ?_
  refine s_invv1_1 (q := 5) hX dX7_act_2 rfl glk_7_104 (by assumption) (Nat.le_of_ble_eq_true rfl) ⟨Nat.le_refl _, Nat.le_refl _⟩ (by omega) (m_isPerson (d := 1) (x := x) (Nat.le_refl _) hC0 a2 g1 (fun ra => ?_) (fun i ra hi ei => ?_)) 
  · refine ⟨_, rfl, ?_⟩
    refine s_if_eq_t (q := 8) (r := 16) hX dX7_act_5 rfl rfl (by decide) ?_
    refine s_iconst (q := 17) (v := (-1)) hX dX7_act_16 rfl rfl ?_
    refine s_iret hX dX7_act_17 (Or.inl rfl) ⟨Nat.le_refl _, Nat.le_refl _, Nat.le_refl _, ?_⟩
    exact hcon.ret (by first | (unfold gA.act; rw [ra]; dsimp only; rw [rb]) | (unfold gA.act; rw [ra])) hS0 (fun _ _ => rfl)
  · subst ei
    refine ⟨_, rfl, ?_⟩
    refine s_if_eq_f (q := 8) (r := 16) hX dX7_act_5 rfl rfl (by decide) ?_
    refine s_aload_n (q := 9) hX dX7_act_8 rfl rfl ?_
    refine s_iload_n (q := 10) hX dX7_act_9 rfl rfl ?_
    refine s_invv1_1 (q := 13) hX dX7_act_10 rfl glk_7_112 (by assumption) (Nat.le_of_ble_eq_true rfl) ⟨Nat.le_refl _, Nat.le_refl _⟩ (by omega) (m_isDeed (d := 1) (x := y) (Nat.le_refl _) hC0 a2 g1 (fun rb => ?_) (fun k rb hk ek => ?_)) 
    · refine ⟨_, rfl, ?_⟩
      refine s_if_ne_f (q := 16) (r := 18) hX dX7_act_13 rfl rfl (by decide) ?_
      refine s_iconst (q := 17) (v := (-1)) hX dX7_act_16 rfl rfl ?_
      refine s_iret hX dX7_act_17 (Or.inl rfl) ⟨Nat.le_refl _, Nat.le_refl _, Nat.le_refl _, ?_⟩
      exact hcon.ret (by first | (unfold gA.act; rw [ra]; dsimp only; rw [rb]) | (unfold gA.act; rw [ra])) hS0 (fun _ _ => rfl)
    · subst ek
      refine ⟨_, rfl, ?_⟩
      refine s_if_ne_t (q := 16) (r := 18) hX dX7_act_13 rfl rfl (by decide) ?_
      refine s_aload_n (q := 19) hX dX7_act_18 rfl rfl ?_
      refine s_iconst (q := 20) (v := 0) hX dX7_act_19 rfl rfl ?_
      refine s_iload_n (q := 21) hX dX7_act_20 rfl rfl ?_
      refine s_iload_n (q := 22) hX dX7_act_21 rfl rfl ?_
      refine s_invv3_1 (q := 25) hX dX7_act_22 rfl glk_7_122 (by assumption) (Nat.le_of_ble_eq_true rfl) ⟨Nat.le_refl _, Nat.le_refl _⟩ (by omega) (m_canDo (d := 1) (a := 0) (T := S.T) (U := S.U) (Nat.le_refl _) hC0 a2 g1 a3 g3.1 (by omega) hi hk (fun g hg => ?_)) 
      refine ⟨_, rfl, ?_⟩
      refine s_if_ne (q := 28) (r := 31) hX dX7_act_25 rfl rfl (fun c25 => ?_) (fun c25 => ?_)
      · refine s_aload_n (q := 32) hX dX7_act_31 rfl rfl ?_
        have hm1 : MOD (gsr M 94 g) S := (hS0.kp o1 g4.1 g5.1 (fun _ _ => by rw [gsr_n _ _ (by decide)]) (fun c _ _ _ h4 _ => gsr_n _ _ h4) (fun j hj => by rw [gsr_n _ _ (by decide)]))
        refine s_invv0_0 (q := 35) hX dX7_act_32 rfl glk_7_134 (by assumption) (Nat.le_of_ble_eq_true rfl) ⟨Nat.le_refl _, Nat.le_refl _⟩ (by omega) (m_know (d := 1) (Nat.le_refl _) hC0 hm1 hk0 hb (fun M1 w1 w2 => ?_)) 
        refine ⟨rfl, ?_⟩
        refine s_aload_n (q := 36) hX dX7_act_35 rfl rfl ?_
        refine s_iconst (q := 37) (v := 0) hX dX7_act_36 rfl rfl ?_
        refine s_iload_n (q := 38) hX dX7_act_37 rfl rfl ?_
        refine s_iload_n (q := 39) hX dX7_act_38 rfl rfl ?_
        refine s_invv3_1 (q := 42) hX dX7_act_39 rfl glk_7_125 (by assumption) (Nat.le_of_ble_eq_true rfl) ⟨Nat.le_refl _, Nat.le_refl _⟩ (by omega) (m_doIt (d := 2) (a := 0) (T := S.T) (U := S.U) (Nat.le_refl _) hC0 w1.2.1 g1 w1.2.2.1 g3.1 (by omega) hi hk (fun hc M2 f2 u2 => ?_) (fun hc M2 f2 u2 => ?_)) 
        · exact absurd (gif_t c25) (by rw [hc]; decide)
        · refine ⟨_, rfl, ?_⟩
          refine s_iret hX dX7_act_42 (Or.inl rfl) ⟨Nat.le_refl _, Nat.le_refl _, Nat.le_refl _, ?_⟩
          exact hcon.ret (by unfold gA.act; rw [ra]; dsimp only; rw [rb]; dsimp only; rw [if_pos hc]) (w1.stU o1 (Nat.min_le_left _ _) g5.1 u2 f2) (fun c hc => by rw [f2.1 c (by omega) (by omega), w2 c hc, gsr_n _ _ (by omega)])
      · refine s_bipush (q := 30) (v := (-2)) hX dX7_act_28 rfl rfl (by decide) ?_
        refine s_iret hX dX7_act_30 (Or.inl rfl) ⟨Nat.le_refl _, Nat.le_refl _, Nat.le_refl _, ?_⟩
        exact hcon.ret (by unfold gA.act; rw [ra]; dsimp only; rw [rb]; dsimp only; rw [if_neg (gif_f2 c25)]) (hS0.kp o1 g4.1 g5.1 (fun _ _ => by rw [gsr_n _ _ (by decide)]) (fun c _ _ _ h4 _ => gsr_n _ _ h4) (fun j hj => by rw [gsr_n _ _ (by decide)])) (fun c hc => gsr_n _ _ (by omega))
