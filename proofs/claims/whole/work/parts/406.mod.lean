set_option maxHeartbeats 4000000 in
set_option maxRecDepth 100000 in
theorem p_undo {d b : Nat}  {S : gA} {sh : List gS} {M : gM} {Q : Option Value → List gS → gM → Prop} (hd : 1 ≤ d) (hC : isMod sh) (hS : MOD M S) (hk : S.ok b) (hb : b ≤ 20000) (hcon : kM sh M (S.undo) Q) : gC mX7_undo d 0 0 [.ref 83] sh M Q := by
  have hC0 := hC
  obtain ⟨y0, y1, y2, y3, y4, y5, y6, y7, y8, y9, y10, y11, y12, y13, y14, y15⟩ := hC
  have hS0 := hS
  have hk0 := hk
  obtain ⟨⟨a1, a1x⟩, a2, a3, ⟨a4, a4x⟩, ⟨a5, a5x⟩, a6⟩ := hS
  obtain ⟨g1, g2, g3, g4, g5, g6, g7⟩ := hk
  have g0 := g1
  obtain ⟨o1, o2, o3, o4, o5, o6, o7, o8⟩ := g0
  have u8 := g4.1
  have u2 := g5.1
  refine gC_of (rt := 1) (ini := false) gm_X7_undo rfl (by decide) (Nat.le_of_ble_eq_true rfl) (fun X hX => ?_)
  refine s_aload_n (q := 1) hX dX7_undo_0 rfl rfl ?_
  refine s_geti (q := 4) hX dX7_undo_1 rfl gfl_7_92 (by assumption) rfl ?_
  refine s_topi (v := nI (S.un.1)) a4 ?_
  refine s_nif_ne (a := S.un.1) (b := 0) (q := 7) (r := 10) hX dX7_undo_4 rfl rfl rfl rfl (by omega) (by omega) (fun c4 => ?_) (fun c4 => ?_)
  · refine s_aload_n (q := 11) hX dX7_undo_10 rfl rfl ?_
    refine s_dup (q := 12) hX dX7_undo_11 rfl rfl ?_
    refine s_geti (q := 15) hX dX7_undo_12 rfl gfl_7_92 (by assumption) rfl ?_
    refine s_topi (v := nI (S.un.1)) a4 ?_
    refine s_iconst (q := 16) (v := 1) hX dX7_undo_15 rfl rfl ?_
    refine s_isub (q := 17) (v := nI (S.un.1 - 1)) hX dX7_undo_16 rfl (pk_sub (a := S.un.1) (b := 1) (by omega)) ?_
    refine s_puti (q := 20) hX dX7_undo_17 rfl gfl_7_92 (by assumption) rfl ?_
    refine s_aload_n (q := 21) hX dX7_undo_20 rfl rfl ?_
    refine s_bipush (q := 23) (v := 31) hX dX7_undo_21 rfl rfl (by decide) ?_
    refine s_bipush (q := 25) (v := 31) hX dX7_undo_23 rfl rfl (by decide) ?_
    refine s_aload_n (q := 26) hX dX7_undo_25 rfl rfl ?_
    refine s_geti (q := 29) hX dX7_undo_26 rfl gfl_7_92 (by assumption) rfl ?_
    refine s_topi (v := nI (S.un.1 - 1)) (by rw [gsr_s, pk_us]) ?_
    refine s_imul (q := 30) (v := nI (31 * (S.un.1 - 1))) hX dX7_undo_29 rfl (pk_mul (31) (S.un.1 - 1)) ?_
    refine s_iadd (q := 31) (v := nI (31 + (31 * (S.un.1 - 1)))) hX dX7_undo_30 rfl (nI_add (31) (31 * (S.un.1 - 1))) ?_
    refine s_iconst (q := 32) (v := 0) hX dX7_undo_31 rfl rfl ?_
    refine s_invv2_0 (q := 35) hX dX7_undo_32 rfl glk_7_131 (by assumption) (Nat.le_of_ble_eq_true rfl) ⟨Nat.le_refl _, Nat.le_refl _⟩ (by omega) (m_copy (d := 0) (f := 31 + 31 * (S.un.1 - 1)) (t := 0) hC0 (by omega) (by omega) (by omega) (fun M1 f1 f2 f3 => ?_)) 
    refine ⟨rfl, ?_⟩
    refine s_aload_n (q := 36) hX dX7_undo_35 rfl rfl ?_
    refine s_geti (q := 39) hX dX7_undo_36 rfl gfl_7_92 (by assumption) rfl ?_
    refine s_topi (v := nI (S.un.1 - 1)) (by rw [f1 83 (by decide), gsr_s, pk_us]) ?_
    refine s_iret hX dX7_undo_39 (Or.inl rfl) ⟨Nat.le_refl _, Nat.le_refl _, Nat.le_refl _, ?_⟩
    refine hcon.ret (by unfold gA.undo; rw [if_neg (by omega)]) ⟨⟨?_, fun j hj => ?_⟩, ?_, ?_, ⟨?_, fun k hk => ?_⟩, ⟨?_, fun k hk => ?_⟩, ⟨?_, fun j hj => ?_⟩⟩ (fun c hc => by rw [f1 c (by omega), gsr_n _ _ (by omega)])
    · rw [f1 83 (by decide), gsr_s, pk_un (by decide)]; exact a1
    · rw [f1 84 (by decide), gsr_n _ _ (by decide)]; exact a1x j hj
    · exact a2.kp (fun c h1 h2 => by rw [f1 c (by omega), gsr_n _ _ (by omega)])
    · refine (a4x 0 (by omega)).mv o1 (fun q hq => ?_)
      rw [f2 q hq, gsr_n _ _ (by decide)]
      congr 1
    · rw [f1 83 (by decide), gsr_s, pk_us]; rfl
    · have hk : k < S.un.1 - 1 := hk
      refine (a4x (k + 1) (by omega)).mv o1 (fun q hq => ?_)
      show M1 93 (31 + 31 * (S.un.1 - 1 - 1 - k) + q) = _
      rw [f3 _ (by omega), gsr_n _ _ (by decide)]
      congr 1
      omega
    · rw [f1 83 (by decide), gsr_s, pk_un (by decide)]; exact a5
    · exact (a5x k hk).kp o1 (fun j h1 h2 => by rw [f3 j (by omega), gsr_n _ _ (by decide)])
    · rw [f1 83 (by decide), gsr_s, pk_un (by decide)]; exact a6.1
    · rw [f1 96 (by decide), f1 97 (by decide), f1 98 (by decide), gsr_n _ _ (by decide), gsr_n _ _ (by decide), gsr_n _ _ (by decide)]; exact a6.2 j hj
  · refine s_bipush (q := 9) (v := (-2)) hX dX7_undo_7 rfl rfl (by decide) ?_
    refine s_iret hX dX7_undo_9 (Or.inl rfl) ⟨Nat.le_refl _, Nat.le_refl _, Nat.le_refl _, ?_⟩
    exact hcon.ret (by unfold gA.undo; rw [if_pos (by omega)]) hS0 (fun _ _ => rfl)
set_option maxHeartbeats 4000000 in
set_option maxRecDepth 100000 in
theorem p_keep {d b : Nat}  {S : gA} {sh : List gS} {M : gM} {Q : Option Value → List gS → gM → Prop} (hd : 1 ≤ d) (hC : isMod sh) (hS : MOD M S) (hk : S.ok b) (hb : b ≤ 20000) (hcon : kM sh M (S.keep) Q) : gC mX7_keep d 0 0 [.ref 83] sh M Q := by
  have hC0 := hC
  obtain ⟨y0, y1, y2, y3, y4, y5, y6, y7, y8, y9, y10, y11, y12, y13, y14, y15⟩ := hC
  have hS0 := hS
  have hk0 := hk
  obtain ⟨⟨a1, a1x⟩, a2, a3, ⟨a4, a4x⟩, ⟨a5, a5x⟩, a6⟩ := hS
  obtain ⟨g1, g2, g3, g4, g5, g6, g7⟩ := hk
  have g0 := g1
  obtain ⟨o1, o2, o3, o4, o5, o6, o7, o8⟩ := g0
  have u8 := g4.1
  have u2 := g5.1
  refine gC_of (rt := 1) (ini := false) gm_X7_keep rfl (by decide) (Nat.le_of_ble_eq_true rfl) (fun X hX => ?_)
  refine s_aload_n (q := 1) hX dX7_keep_0 rfl rfl ?_
  refine s_geti (q := 4) hX dX7_keep_1 rfl gfl_7_95 (by assumption) rfl ?_
  refine s_topi (v := nI (S.kp.1)) a5 ?_
  refine s_iconst (q := 5) (v := 2) hX dX7_keep_4 rfl rfl ?_
  refine s_nicmp_ne (a := S.kp.1) (b := 2) (q := 8) (r := 11) hX dX7_keep_5 rfl rfl rfl rfl (by omega) (by omega) (fun c5 => ?_) (fun c5 => ?_)
  · refine s_aload_n (q := 12) hX dX7_keep_11 rfl rfl ?_
    refine s_iconst (q := 13) (v := 0) hX dX7_keep_12 rfl rfl ?_
    refine s_sipush (q := 16) (v := 279) hX dX7_keep_13 rfl rfl (by decide) ?_
    refine s_bipush (q := 18) (v := 31) hX dX7_keep_16 rfl rfl (by decide) ?_
    refine s_aload_n (q := 19) hX dX7_keep_18 rfl rfl ?_
    refine s_geti (q := 22) hX dX7_keep_19 rfl gfl_7_95 (by assumption) rfl ?_
    refine s_topi (v := nI (S.kp.1)) a5 ?_
    refine s_imul (q := 23) (v := nI (31 * (S.kp.1))) hX dX7_keep_22 rfl (pk_mul (31) (S.kp.1)) ?_
    refine s_iadd (q := 24) (v := nI (279 + (31 * (S.kp.1)))) hX dX7_keep_23 rfl (nI_add (279) (31 * (S.kp.1))) ?_
    refine s_invv2_0 (q := 27) hX dX7_keep_24 rfl glk_7_131 (by assumption) (Nat.le_of_ble_eq_true rfl) ⟨Nat.le_refl _, Nat.le_refl _⟩ (by omega) (m_copy (d := 0) (f := 0) (t := 279 + 31 * S.kp.1) hC0 (by omega) (by omega) (by omega) (fun M1 f1 f2 f3 => ?_)) 
    refine ⟨rfl, ?_⟩
    refine s_aload_n (q := 28) hX dX7_keep_27 rfl rfl ?_
    refine s_dup (q := 29) hX dX7_keep_28 rfl rfl ?_
    refine s_geti (q := 32) hX dX7_keep_29 rfl gfl_7_95 (by assumption) rfl ?_
    refine s_topi (v := nI (S.kp.1)) (by rw [f1 83 (by decide)]; exact a5) ?_
    refine s_iconst (q := 33) (v := 1) hX dX7_keep_32 rfl rfl ?_
    refine s_iadd (q := 34) (v := nI (S.kp.1 + 1)) hX dX7_keep_33 rfl (nI_add (S.kp.1) (1)) ?_
    refine s_puti (q := 37) hX dX7_keep_34 rfl gfl_7_95 (by assumption) rfl ?_
    refine s_aload_n (q := 38) hX dX7_keep_37 rfl rfl ?_
    refine s_geti (q := 41) hX dX7_keep_38 rfl gfl_7_95 (by assumption) rfl ?_
    refine s_topi (v := nI (S.kp.1 + 1)) (by rw [gsr_s, pk_us]) ?_
    refine s_iret hX dX7_keep_41 (Or.inl rfl) ⟨Nat.le_refl _, Nat.le_refl _, Nat.le_refl _, ?_⟩
    refine hcon.ret (by unfold gA.keep; rw [if_pos (by omega)]) ⟨⟨?_, fun j hj => ?_⟩, ?_, ?_, ⟨?_, fun k hk => ?_⟩, ⟨?_, fun k hk => ?_⟩, ⟨?_, fun j hj => ?_⟩⟩ (fun c hc => by rw [gsr_n _ _ (by omega), f1 c (by omega)])
    · rw [gsr_s, pk_un (by decide), f1 83 (by decide)]; exact a1
    · rw [gsr_n _ _ (by decide), f1 84 (by decide)]; exact a1x j hj
    · exact a2.kp (fun c h1 h2 => by rw [gsr_n _ _ (by omega), f1 c (by omega)])
    · exact a3.kp o1 (fun j h1 h2 => by rw [gsr_n _ _ (by decide), f3 j (by omega)])
    · rw [gsr_s, pk_un (by decide), f1 83 (by decide)]; exact a4
    · have hk : k < S.un.1 := hk
      exact (a4x k hk).kp o1 (fun j h1 h2 => by rw [gsr_n _ _ (by decide), f3 j (by omega)])
    · rw [gsr_s, pk_us]; rfl
    · have hk : k < S.kp.1 + 1 := hk
      show STM _ (279 + 31 * (S.kp.1 + 1 - 1 - k)) S.T.P (if k = 0 then S.U else S.kp.2 (k - 1))
      by_cases e : k = 0
      · subst e
        rw [if_pos rfl]
        refine a3.mv o1 (fun q hq => ?_)
        rw [gsr_n _ _ (by decide), show 279 + 31 * (S.kp.1 + 1 - 1 - 0) + q = 279 + 31 * S.kp.1 + q by omega]
        exact f2 q hq
      · rw [if_neg e, show 279 + 31 * (S.kp.1 + 1 - 1 - k) = 279 + 31 * (S.kp.1 - 1 - (k - 1)) by omega]
        refine (a5x (k - 1) (by omega)).kp o1 (fun j h1 h2 => ?_)
        rw [gsr_n _ _ (by decide), f3 j (by omega)]
    · rw [gsr_s, pk_un (by decide), f1 83 (by decide)]; exact a6.1
    · rw [gsr_n _ _ (by decide), gsr_n _ _ (by decide), gsr_n _ _ (by decide), f1 96 (by decide), f1 97 (by decide), f1 98 (by decide)]; exact a6.2 j hj
  · refine s_bipush (q := 10) (v := (-3)) hX dX7_keep_8 rfl rfl (by decide) ?_
    refine s_iret hX dX7_keep_10 (Or.inl rfl) ⟨Nat.le_refl _, Nat.le_refl _, Nat.le_refl _, ?_⟩
    exact hcon.ret (by unfold gA.keep; rw [if_neg (by omega)]) hS0 (fun _ _ => rfl)
set_option maxHeartbeats 4000000 in
set_option maxRecDepth 100000 in
theorem p_back {d b : Nat}  {S : gA} {sh : List gS} {M : gM} {Q : Option Value → List gS → gM → Prop} (hd : 1 ≤ d) (hC : isMod sh) (hS : MOD M S) (hk : S.ok b) (hb : b ≤ 20000) (hcon : kM sh M (S.back) Q) : gC mX7_back d 0 0 [.ref 83] sh M Q := by
  have hC0 := hC
  obtain ⟨y0, y1, y2, y3, y4, y5, y6, y7, y8, y9, y10, y11, y12, y13, y14, y15⟩ := hC
  have hS0 := hS
  have hk0 := hk
  obtain ⟨⟨a1, a1x⟩, a2, a3, ⟨a4, a4x⟩, ⟨a5, a5x⟩, a6⟩ := hS
  obtain ⟨g1, g2, g3, g4, g5, g6, g7⟩ := hk
  have g0 := g1
  obtain ⟨o1, o2, o3, o4, o5, o6, o7, o8⟩ := g0
  have u8 := g4.1
  have u2 := g5.1
  refine gC_of (rt := 1) (ini := false) gm_X7_back rfl (by decide) (Nat.le_of_ble_eq_true rfl) (fun X hX => ?_)
  refine s_aload_n (q := 1) hX dX7_back_0 rfl rfl ?_
  refine s_geti (q := 4) hX dX7_back_1 rfl gfl_7_95 (by assumption) rfl ?_
  refine s_topi (v := nI (S.kp.1)) a5 ?_
  refine s_nif_ne (a := S.kp.1) (b := 0) (q := 7) (r := 10) hX dX7_back_4 rfl rfl rfl rfl (by omega) (by omega) (fun c4 => ?_) (fun c4 => ?_)
  · refine s_aload_n (q := 11) hX dX7_back_10 rfl rfl ?_
    refine s_dup (q := 12) hX dX7_back_11 rfl rfl ?_
    refine s_geti (q := 15) hX dX7_back_12 rfl gfl_7_95 (by assumption) rfl ?_
    refine s_topi (v := nI (S.kp.1)) a5 ?_
    refine s_iconst (q := 16) (v := 1) hX dX7_back_15 rfl rfl ?_
    refine s_isub (q := 17) (v := nI (S.kp.1 - 1)) hX dX7_back_16 rfl (pk_sub (a := S.kp.1) (b := 1) (by omega)) ?_
    refine s_puti (q := 20) hX dX7_back_17 rfl gfl_7_95 (by assumption) rfl ?_
    refine s_aload_n (q := 21) hX dX7_back_20 rfl rfl ?_
    refine s_sipush (q := 24) (v := 279) hX dX7_back_21 rfl rfl (by decide) ?_
    refine s_bipush (q := 26) (v := 31) hX dX7_back_24 rfl rfl (by decide) ?_
    refine s_aload_n (q := 27) hX dX7_back_26 rfl rfl ?_
    refine s_geti (q := 30) hX dX7_back_27 rfl gfl_7_95 (by assumption) rfl ?_
    refine s_topi (v := nI (S.kp.1 - 1)) (by rw [gsr_s, pk_us]) ?_
    refine s_imul (q := 31) (v := nI (31 * (S.kp.1 - 1))) hX dX7_back_30 rfl (pk_mul (31) (S.kp.1 - 1)) ?_
    refine s_iadd (q := 32) (v := nI (279 + (31 * (S.kp.1 - 1)))) hX dX7_back_31 rfl (nI_add (279) (31 * (S.kp.1 - 1))) ?_
    refine s_iconst (q := 33) (v := 0) hX dX7_back_32 rfl rfl ?_
    refine s_invv2_0 (q := 36) hX dX7_back_33 rfl glk_7_131 (by assumption) (Nat.le_of_ble_eq_true rfl) ⟨Nat.le_refl _, Nat.le_refl _⟩ (by omega) (m_copy (d := 0) (f := 279 + 31 * (S.kp.1 - 1)) (t := 0) hC0 (by omega) (by omega) (by omega) (fun M1 f1 f2 f3 => ?_)) 
    refine ⟨rfl, ?_⟩
    refine s_aload_n (q := 37) hX dX7_back_36 rfl rfl ?_
    refine s_iconst (q := 38) (v := 0) hX dX7_back_37 rfl rfl ?_
    refine s_puti (q := 41) hX dX7_back_38 rfl gfl_7_92 (by assumption) rfl ?_
    refine s_aload_n (q := 42) hX dX7_back_41 rfl rfl ?_
    refine s_geti (q := 45) hX dX7_back_42 rfl gfl_7_95 (by assumption) rfl ?_
    refine s_topi (v := nI (S.kp.1 - 1)) (by rw [gsr_s, pk_un (by decide), f1 83 (by decide), gsr_s, pk_us]) ?_
    refine s_iret hX dX7_back_45 (Or.inl rfl) ⟨Nat.le_refl _, Nat.le_refl _, Nat.le_refl _, ?_⟩
    refine hcon.ret (by unfold gA.back; rw [if_neg (by omega)]) ⟨⟨?_, fun j hj => ?_⟩, ?_, ?_, ⟨?_, fun k hk => ?_⟩, ⟨?_, fun k hk => ?_⟩, ⟨?_, fun j hj => ?_⟩⟩ (fun c hc => by rw [gsr_n _ _ (by omega), f1 c (by omega), gsr_n _ _ (by omega)])
    · rw [gsr_s, pk_un (by decide), f1 83 (by decide), gsr_s, pk_un (by decide)]; exact a1
    · rw [gsr_n _ _ (by decide), f1 84 (by decide), gsr_n _ _ (by decide)]; exact a1x j hj
    · exact a2.kp (fun c h1 h2 => by rw [gsr_n _ _ (by omega), f1 c (by omega), gsr_n _ _ (by omega)])
    · refine (a5x 0 (by omega)).mv o1 (fun q hq => ?_)
      rw [gsr_n _ _ (by decide), f2 q hq, gsr_n _ _ (by decide)]
      congr 1
    · rw [gsr_s, pk_us]; rfl
    · exact absurd hk (Nat.not_lt_zero k)
    · rw [gsr_s, pk_un (by decide), f1 83 (by decide), gsr_s, pk_us]; rfl
    · have hk : k < S.kp.1 - 1 := hk
      refine (a5x (k + 1) (by omega)).mv o1 (fun q hq => ?_)
      show gsr M1 83 _ 93 (279 + 31 * (S.kp.1 - 1 - 1 - k) + q) = _
      rw [gsr_n _ _ (by decide), f3 _ (by omega), gsr_n _ _ (by decide)]
      congr 1
      omega
    · rw [gsr_s, pk_un (by decide), f1 83 (by decide), gsr_s, pk_un (by decide)]; exact a6.1
    · rw [gsr_n _ _ (by decide), gsr_n _ _ (by decide), gsr_n _ _ (by decide), f1 96 (by decide), f1 97 (by decide), f1 98 (by decide), gsr_n _ _ (by decide), gsr_n _ _ (by decide), gsr_n _ _ (by decide)]; exact a6.2 j hj
  · refine s_bipush (q := 9) (v := (-2)) hX dX7_back_7 rfl rfl (by decide) ?_
    refine s_iret hX dX7_back_9 (Or.inl rfl) ⟨Nat.le_refl _, Nat.le_refl _, Nat.le_refl _, ?_⟩
    exact hcon.ret (by unfold gA.back; rw [if_pos (by omega)]) hS0 (fun _ _ => rfl)
set_option maxHeartbeats 4000000 in
set_option maxRecDepth 100000 in
theorem p_seen {d b : Nat} {x y z : Int32} {S : gA} {sh : List gS} {M : gM} {Q : Option Value → List gS → gM → Prop} (hd : 2 ≤ d) (hC : isMod sh) (hS : MOD M S) (hk : S.ok b) (hb : b ≤ 20000) (hcon : kM sh M (S.seen x y z) Q) : gC mX7_seen d 0 0 [.ref 83, .int x, .int y, .int z] sh M Q := by
  have hC0 := hC
  obtain ⟨y0, y1, y2, y3, y4, y5, y6, y7, y8, y9, y10, y11, y12, y13, y14, y15⟩ := hC
  have hS0 := hS
  have hk0 := hk
  obtain ⟨⟨a1, a1x⟩, a2, a3, ⟨a4, a4x⟩, ⟨a5, a5x⟩, a6⟩ := hS
  obtain ⟨g1, g2, g3, g4, g5, g6, g7⟩ := hk
  have g0 := g1
  obtain ⟨o1, o2, o3, o4, o5, o6, o7, o8⟩ := g0
  have n7 := g6.1
  refine gC_of (rt := 1) (ini := false) gm_X7_seen rfl (by decide) (Nat.le_of_ble_eq_true rfl) (fun X hX => ?_)
  refine s_aload_n (q := 1) hX dX7_seen_0 rfl rfl ?_
  refine s_iload_n (q := 2) hX dX7_seen_1 rfl rfl ?_
  refine s_invv1_1 (q := 5) hX dX7_seen_2 rfl glk_7_104 (by assumption) (Nat.le_of_ble_eq_true rfl) ⟨Nat.le_refl _, Nat.le_refl _⟩ (by omega) (m_isPerson (d := 1) (x := x) (Nat.le_refl _) hC0 a2 g1 (fun ra => ?_) (fun i ra hi ei => ?_)) 
  · refine ⟨_, rfl, ?_⟩
    refine s_if_eq_t (q := 8) (r := 27) hX dX7_seen_5 rfl rfl (by decide) ?_
    refine s_iconst (q := 28) (v := (-1)) hX dX7_seen_27 rfl rfl ?_
    refine s_iret hX dX7_seen_28 (Or.inl rfl) ⟨Nat.le_refl _, Nat.le_refl _, Nat.le_refl _, ?_⟩
    exact hcon.ret (by first | (unfold gA.seen; rw [ra]; dsimp only; rw [rw]; dsimp only; rw [ru]) | (unfold gA.seen; rw [ra]; dsimp only; rw [rw]) | (unfold gA.seen; rw [ra])) hS0 (fun _ _ => rfl)
  · subst ei
    refine ⟨_, rfl, ?_⟩
    refine s_if_eq_f (q := 8) (r := 27) hX dX7_seen_5 rfl rfl (by decide) ?_
    refine s_iload_n (q := 9) hX dX7_seen_8 rfl rfl ?_
    refine s_iconst (q := 10) (v := 1) hX dX7_seen_9 rfl rfl ?_
    refine s_iconst (q := 11) (v := 4) hX dX7_seen_10 rfl rfl ?_
    refine s_invs3_1 (q := 14) hX dX7_seen_11 rfl glk_7_66 (by decide) (Nat.le_of_ble_eq_true rfl) ⟨Nat.le_refl _, Nat.le_refl _⟩ (by omega) (m_rng (d := 0) (x := y) (lo := 1) (n := 5) rfl rfl (by decide) (by decide) (fun rw => ?_) (fun w rw lw hw ew => ?_)) 
    · refine ⟨_, rfl, ?_⟩
      refine s_if_eq_t (q := 17) (r := 27) hX dX7_seen_14 rfl rfl (by decide) ?_
      refine s_iconst (q := 28) (v := (-1)) hX dX7_seen_27 rfl rfl ?_
      refine s_iret hX dX7_seen_28 (Or.inl rfl) ⟨Nat.le_refl _, Nat.le_refl _, Nat.le_refl _, ?_⟩
      exact hcon.ret (by first | (unfold gA.seen; rw [ra]; dsimp only; rw [rw]; dsimp only; rw [ru]) | (unfold gA.seen; rw [ra]; dsimp only; rw [rw]) | (unfold gA.seen; rw [ra])) hS0 (fun _ _ => rfl)
    · subst ew
      refine ⟨_, rfl, ?_⟩
      refine s_if_eq_f (q := 17) (r := 27) hX dX7_seen_14 rfl rfl (by decide) ?_
      refine s_iload_n (q := 18) hX dX7_seen_17 rfl rfl ?_
      refine s_iconst (q := 19) (v := 0) hX dX7_seen_18 rfl rfl ?_
      refine s_bipush (q := 21) (v := 7) hX dX7_seen_19 rfl rfl (by decide) ?_
      refine s_invs3_1 (q := 24) hX dX7_seen_21 rfl glk_7_66 (by decide) (Nat.le_of_ble_eq_true rfl) ⟨Nat.le_refl _, Nat.le_refl _⟩ (by omega) (m_rng (d := 0) (x := z) (lo := 0) (n := 8) rfl rfl (by decide) (by decide) (fun ru => ?_) (fun u ru lu hu eu => ?_)) 
      · refine ⟨_, rfl, ?_⟩
        refine s_if_ne_f (q := 27) (r := 29) hX dX7_seen_24 rfl rfl (by decide) ?_
        refine s_iconst (q := 28) (v := (-1)) hX dX7_seen_27 rfl rfl ?_
        refine s_iret hX dX7_seen_28 (Or.inl rfl) ⟨Nat.le_refl _, Nat.le_refl _, Nat.le_refl _, ?_⟩
        exact hcon.ret (by first | (unfold gA.seen; rw [ra]; dsimp only; rw [rw]; dsimp only; rw [ru]) | (unfold gA.seen; rw [ra]; dsimp only; rw [rw]) | (unfold gA.seen; rw [ra])) hS0 (fun _ _ => rfl)
      · subst eu
        refine ⟨_, rfl, ?_⟩
        refine s_if_ne_t (q := 27) (r := 29) hX dX7_seen_24 rfl rfl (by decide) ?_
        refine s_aload_n (q := 30) hX dX7_seen_29 rfl rfl ?_
        refine s_geti (q := 33) hX dX7_seen_30 rfl gfl_7_98 (by assumption) rfl ?_
        refine s_topi (v := nI (S.N.n)) a6.1 ?_
        refine s_bipush (q := 35) (v := 7) hX dX7_seen_33 rfl rfl (by decide) ?_
        refine s_nicmp_ne (a := S.N.n) (b := 7) (q := 38) (r := 41) hX dX7_seen_35 rfl rfl rfl rfl (by omega) (by omega) (fun c35 => ?_) (fun c35 => ?_)
        · refine s_aload_n (q := 42) hX dX7_seen_41 rfl rfl ?_
          refine s_getr (q := 45) hX dX7_seen_42 rfl gfl_7_47 (by assumption) rfl ?_
          refine s_aload_n (q := 46) hX dX7_seen_45 rfl rfl ?_
          refine s_geti (q := 49) hX dX7_seen_46 rfl gfl_7_98 (by assumption) rfl ?_
          refine s_topi (v := nI (S.N.n)) a6.1 ?_
          refine s_iload_n (q := 50) hX dX7_seen_49 rfl rfl ?_
          refine s_iast (k := S.N.n) (q := 51) hX dX7_seen_50 rfl (by assumption) rfl (by omega) (by omega) ?_
          refine s_aload_n (q := 52) hX dX7_seen_51 rfl rfl ?_
          refine s_getr (q := 55) hX dX7_seen_52 rfl gfl_7_50 (by assumption) rfl ?_
          refine s_aload_n (q := 56) hX dX7_seen_55 rfl rfl ?_
          refine s_geti (q := 59) hX dX7_seen_56 rfl gfl_7_98 (by assumption) rfl ?_
          refine s_topi (v := nI (S.N.n)) (by simp only [gsr_n _ _ (show (83 : Nat) ≠ 96 by decide), gsr_n _ _ (show (83 : Nat) ≠ 97 by decide), gsr_n _ _ (show (83 : Nat) ≠ 98 by decide), gsr_n _ _ (show (84 : Nat) ≠ 83 by decide), gsr_n _ _ (show (84 : Nat) ≠ 96 by decide), gsr_n _ _ (show (84 : Nat) ≠ 97 by decide), gsr_n _ _ (show (84 : Nat) ≠ 98 by decide), gsr_n _ _ (show (93 : Nat) ≠ 83 by decide), gsr_n _ _ (show (93 : Nat) ≠ 96 by decide), gsr_n _ _ (show (93 : Nat) ≠ 97 by decide), gsr_n _ _ (show (93 : Nat) ≠ 98 by decide), gsr_n _ _ (show (96 : Nat) ≠ 83 by decide), gsr_n _ _ (show (96 : Nat) ≠ 97 by decide), gsr_n _ _ (show (96 : Nat) ≠ 98 by decide), gsr_n _ _ (show (97 : Nat) ≠ 83 by decide), gsr_n _ _ (show (97 : Nat) ≠ 96 by decide), gsr_n _ _ (show (97 : Nat) ≠ 98 by decide), gsr_n _ _ (show (98 : Nat) ≠ 83 by decide), gsr_n _ _ (show (98 : Nat) ≠ 96 by decide), gsr_n _ _ (show (98 : Nat) ≠ 97 by decide), gsr_s]; exact a6.1) ?_
          refine s_iload_n (q := 60) hX dX7_seen_59 rfl rfl ?_
          refine s_iast (k := S.N.n) (q := 61) hX dX7_seen_60 rfl (by assumption) rfl (by omega) (by omega) ?_
          refine s_aload_n (q := 62) hX dX7_seen_61 rfl rfl ?_
          refine s_getr (q := 65) hX dX7_seen_62 rfl gfl_7_53 (by assumption) rfl ?_
          refine s_aload_n (q := 66) hX dX7_seen_65 rfl rfl ?_
          refine s_geti (q := 69) hX dX7_seen_66 rfl gfl_7_98 (by assumption) rfl ?_
          refine s_topi (v := nI (S.N.n)) (by simp only [gsr_n _ _ (show (83 : Nat) ≠ 96 by decide), gsr_n _ _ (show (83 : Nat) ≠ 97 by decide), gsr_n _ _ (show (83 : Nat) ≠ 98 by decide), gsr_n _ _ (show (84 : Nat) ≠ 83 by decide), gsr_n _ _ (show (84 : Nat) ≠ 96 by decide), gsr_n _ _ (show (84 : Nat) ≠ 97 by decide), gsr_n _ _ (show (84 : Nat) ≠ 98 by decide), gsr_n _ _ (show (93 : Nat) ≠ 83 by decide), gsr_n _ _ (show (93 : Nat) ≠ 96 by decide), gsr_n _ _ (show (93 : Nat) ≠ 97 by decide), gsr_n _ _ (show (93 : Nat) ≠ 98 by decide), gsr_n _ _ (show (96 : Nat) ≠ 83 by decide), gsr_n _ _ (show (96 : Nat) ≠ 97 by decide), gsr_n _ _ (show (96 : Nat) ≠ 98 by decide), gsr_n _ _ (show (97 : Nat) ≠ 83 by decide), gsr_n _ _ (show (97 : Nat) ≠ 96 by decide), gsr_n _ _ (show (97 : Nat) ≠ 98 by decide), gsr_n _ _ (show (98 : Nat) ≠ 83 by decide), gsr_n _ _ (show (98 : Nat) ≠ 96 by decide), gsr_n _ _ (show (98 : Nat) ≠ 97 by decide), gsr_s]; exact a6.1) ?_
          refine s_iload_n (q := 70) hX dX7_seen_69 rfl rfl ?_
          refine s_iast (k := S.N.n) (q := 71) hX dX7_seen_70 rfl (by assumption) rfl (by omega) (by omega) ?_
          refine s_aload_n (q := 72) hX dX7_seen_71 rfl rfl ?_
          refine s_dup (q := 73) hX dX7_seen_72 rfl rfl ?_
          refine s_geti (q := 76) hX dX7_seen_73 rfl gfl_7_98 (by assumption) rfl ?_
          refine s_topi (v := nI (S.N.n)) (by simp only [gsr_n _ _ (show (83 : Nat) ≠ 96 by decide), gsr_n _ _ (show (83 : Nat) ≠ 97 by decide), gsr_n _ _ (show (83 : Nat) ≠ 98 by decide), gsr_n _ _ (show (84 : Nat) ≠ 83 by decide), gsr_n _ _ (show (84 : Nat) ≠ 96 by decide), gsr_n _ _ (show (84 : Nat) ≠ 97 by decide), gsr_n _ _ (show (84 : Nat) ≠ 98 by decide), gsr_n _ _ (show (93 : Nat) ≠ 83 by decide), gsr_n _ _ (show (93 : Nat) ≠ 96 by decide), gsr_n _ _ (show (93 : Nat) ≠ 97 by decide), gsr_n _ _ (show (93 : Nat) ≠ 98 by decide), gsr_n _ _ (show (96 : Nat) ≠ 83 by decide), gsr_n _ _ (show (96 : Nat) ≠ 97 by decide), gsr_n _ _ (show (96 : Nat) ≠ 98 by decide), gsr_n _ _ (show (97 : Nat) ≠ 83 by decide), gsr_n _ _ (show (97 : Nat) ≠ 96 by decide), gsr_n _ _ (show (97 : Nat) ≠ 98 by decide), gsr_n _ _ (show (98 : Nat) ≠ 83 by decide), gsr_n _ _ (show (98 : Nat) ≠ 96 by decide), gsr_n _ _ (show (98 : Nat) ≠ 97 by decide), gsr_s]; exact a6.1) ?_
          refine s_iconst (q := 77) (v := 1) hX dX7_seen_76 rfl rfl ?_
          refine s_iadd (q := 78) (v := nI (S.N.n + 1)) hX dX7_seen_77 rfl (nI_add (S.N.n) (1)) ?_
          refine s_puti (q := 81) hX dX7_seen_78 rfl gfl_7_98 (by assumption) rfl ?_
          refine s_aload_n (q := 82) hX dX7_seen_81 rfl rfl ?_
          refine s_geti (q := 85) hX dX7_seen_82 rfl gfl_7_98 (by assumption) rfl ?_
          refine s_topi (v := nI (S.N.n + 1)) (by rw [gsr_s, pk_us]) ?_
          refine s_iret hX dX7_seen_85 (Or.inl rfl) ⟨Nat.le_refl _, Nat.le_refl _, Nat.le_refl _, ?_⟩
          refine hcon.ret (by unfold gA.seen; rw [ra]; dsimp only; rw [rw]; dsimp only; rw [ru]; dsimp only; rw [if_pos (by omega)]) ⟨⟨?_, fun j hj => ?_⟩, ?_, ?_, ⟨?_, fun k hk => ?_⟩, ⟨?_, fun k hk => ?_⟩, ⟨?_, fun j hj => ?_⟩⟩ (fun c hc => by rw [gsr_n _ _ (by omega), gsr_n _ _ (by omega), gsr_n _ _ (by omega), gsr_n _ _ (by omega)])
          · simp only [gsr_n _ _ (show (83 : Nat) ≠ 96 by decide), gsr_n _ _ (show (83 : Nat) ≠ 97 by decide), gsr_n _ _ (show (83 : Nat) ≠ 98 by decide), gsr_n _ _ (show (84 : Nat) ≠ 83 by decide), gsr_n _ _ (show (84 : Nat) ≠ 96 by decide), gsr_n _ _ (show (84 : Nat) ≠ 97 by decide), gsr_n _ _ (show (84 : Nat) ≠ 98 by decide), gsr_n _ _ (show (93 : Nat) ≠ 83 by decide), gsr_n _ _ (show (93 : Nat) ≠ 96 by decide), gsr_n _ _ (show (93 : Nat) ≠ 97 by decide), gsr_n _ _ (show (93 : Nat) ≠ 98 by decide), gsr_n _ _ (show (96 : Nat) ≠ 83 by decide), gsr_n _ _ (show (96 : Nat) ≠ 97 by decide), gsr_n _ _ (show (96 : Nat) ≠ 98 by decide), gsr_n _ _ (show (97 : Nat) ≠ 83 by decide), gsr_n _ _ (show (97 : Nat) ≠ 96 by decide), gsr_n _ _ (show (97 : Nat) ≠ 98 by decide), gsr_n _ _ (show (98 : Nat) ≠ 83 by decide), gsr_n _ _ (show (98 : Nat) ≠ 96 by decide), gsr_n _ _ (show (98 : Nat) ≠ 97 by decide), gsr_s]; rw [pk_un (by decide)]; exact a1
          · simp only [gsr_n _ _ (show (83 : Nat) ≠ 96 by decide), gsr_n _ _ (show (83 : Nat) ≠ 97 by decide), gsr_n _ _ (show (83 : Nat) ≠ 98 by decide), gsr_n _ _ (show (84 : Nat) ≠ 83 by decide), gsr_n _ _ (show (84 : Nat) ≠ 96 by decide), gsr_n _ _ (show (84 : Nat) ≠ 97 by decide), gsr_n _ _ (show (84 : Nat) ≠ 98 by decide), gsr_n _ _ (show (93 : Nat) ≠ 83 by decide), gsr_n _ _ (show (93 : Nat) ≠ 96 by decide), gsr_n _ _ (show (93 : Nat) ≠ 97 by decide), gsr_n _ _ (show (93 : Nat) ≠ 98 by decide), gsr_n _ _ (show (96 : Nat) ≠ 83 by decide), gsr_n _ _ (show (96 : Nat) ≠ 97 by decide), gsr_n _ _ (show (96 : Nat) ≠ 98 by decide), gsr_n _ _ (show (97 : Nat) ≠ 83 by decide), gsr_n _ _ (show (97 : Nat) ≠ 96 by decide), gsr_n _ _ (show (97 : Nat) ≠ 98 by decide), gsr_n _ _ (show (98 : Nat) ≠ 83 by decide), gsr_n _ _ (show (98 : Nat) ≠ 96 by decide), gsr_n _ _ (show (98 : Nat) ≠ 97 by decide), gsr_s]; exact a1x j hj
          · exact a2.kp (fun c h1 h2 => by rw [gsr_n _ _ (by omega), gsr_n _ _ (by omega), gsr_n _ _ (by omega), gsr_n _ _ (by omega)])
          · exact a3.kp o1 (fun j h1 h2 => by simp only [gsr_n _ _ (show (83 : Nat) ≠ 96 by decide), gsr_n _ _ (show (83 : Nat) ≠ 97 by decide), gsr_n _ _ (show (83 : Nat) ≠ 98 by decide), gsr_n _ _ (show (84 : Nat) ≠ 83 by decide), gsr_n _ _ (show (84 : Nat) ≠ 96 by decide), gsr_n _ _ (show (84 : Nat) ≠ 97 by decide), gsr_n _ _ (show (84 : Nat) ≠ 98 by decide), gsr_n _ _ (show (93 : Nat) ≠ 83 by decide), gsr_n _ _ (show (93 : Nat) ≠ 96 by decide), gsr_n _ _ (show (93 : Nat) ≠ 97 by decide), gsr_n _ _ (show (93 : Nat) ≠ 98 by decide), gsr_n _ _ (show (96 : Nat) ≠ 83 by decide), gsr_n _ _ (show (96 : Nat) ≠ 97 by decide), gsr_n _ _ (show (96 : Nat) ≠ 98 by decide), gsr_n _ _ (show (97 : Nat) ≠ 83 by decide), gsr_n _ _ (show (97 : Nat) ≠ 96 by decide), gsr_n _ _ (show (97 : Nat) ≠ 98 by decide), gsr_n _ _ (show (98 : Nat) ≠ 83 by decide), gsr_n _ _ (show (98 : Nat) ≠ 96 by decide), gsr_n _ _ (show (98 : Nat) ≠ 97 by decide), gsr_s])
          · simp only [gsr_n _ _ (show (83 : Nat) ≠ 96 by decide), gsr_n _ _ (show (83 : Nat) ≠ 97 by decide), gsr_n _ _ (show (83 : Nat) ≠ 98 by decide), gsr_n _ _ (show (84 : Nat) ≠ 83 by decide), gsr_n _ _ (show (84 : Nat) ≠ 96 by decide), gsr_n _ _ (show (84 : Nat) ≠ 97 by decide), gsr_n _ _ (show (84 : Nat) ≠ 98 by decide), gsr_n _ _ (show (93 : Nat) ≠ 83 by decide), gsr_n _ _ (show (93 : Nat) ≠ 96 by decide), gsr_n _ _ (show (93 : Nat) ≠ 97 by decide), gsr_n _ _ (show (93 : Nat) ≠ 98 by decide), gsr_n _ _ (show (96 : Nat) ≠ 83 by decide), gsr_n _ _ (show (96 : Nat) ≠ 97 by decide), gsr_n _ _ (show (96 : Nat) ≠ 98 by decide), gsr_n _ _ (show (97 : Nat) ≠ 83 by decide), gsr_n _ _ (show (97 : Nat) ≠ 96 by decide), gsr_n _ _ (show (97 : Nat) ≠ 98 by decide), gsr_n _ _ (show (98 : Nat) ≠ 83 by decide), gsr_n _ _ (show (98 : Nat) ≠ 96 by decide), gsr_n _ _ (show (98 : Nat) ≠ 97 by decide), gsr_s]; rw [pk_un (by decide)]; exact a4
          · exact (a4x k hk).kp o1 (fun j h1 h2 => by simp only [gsr_n _ _ (show (83 : Nat) ≠ 96 by decide), gsr_n _ _ (show (83 : Nat) ≠ 97 by decide), gsr_n _ _ (show (83 : Nat) ≠ 98 by decide), gsr_n _ _ (show (84 : Nat) ≠ 83 by decide), gsr_n _ _ (show (84 : Nat) ≠ 96 by decide), gsr_n _ _ (show (84 : Nat) ≠ 97 by decide), gsr_n _ _ (show (84 : Nat) ≠ 98 by decide), gsr_n _ _ (show (93 : Nat) ≠ 83 by decide), gsr_n _ _ (show (93 : Nat) ≠ 96 by decide), gsr_n _ _ (show (93 : Nat) ≠ 97 by decide), gsr_n _ _ (show (93 : Nat) ≠ 98 by decide), gsr_n _ _ (show (96 : Nat) ≠ 83 by decide), gsr_n _ _ (show (96 : Nat) ≠ 97 by decide), gsr_n _ _ (show (96 : Nat) ≠ 98 by decide), gsr_n _ _ (show (97 : Nat) ≠ 83 by decide), gsr_n _ _ (show (97 : Nat) ≠ 96 by decide), gsr_n _ _ (show (97 : Nat) ≠ 98 by decide), gsr_n _ _ (show (98 : Nat) ≠ 83 by decide), gsr_n _ _ (show (98 : Nat) ≠ 96 by decide), gsr_n _ _ (show (98 : Nat) ≠ 97 by decide), gsr_s])
          · simp only [gsr_n _ _ (show (83 : Nat) ≠ 96 by decide), gsr_n _ _ (show (83 : Nat) ≠ 97 by decide), gsr_n _ _ (show (83 : Nat) ≠ 98 by decide), gsr_n _ _ (show (84 : Nat) ≠ 83 by decide), gsr_n _ _ (show (84 : Nat) ≠ 96 by decide), gsr_n _ _ (show (84 : Nat) ≠ 97 by decide), gsr_n _ _ (show (84 : Nat) ≠ 98 by decide), gsr_n _ _ (show (93 : Nat) ≠ 83 by decide), gsr_n _ _ (show (93 : Nat) ≠ 96 by decide), gsr_n _ _ (show (93 : Nat) ≠ 97 by decide), gsr_n _ _ (show (93 : Nat) ≠ 98 by decide), gsr_n _ _ (show (96 : Nat) ≠ 83 by decide), gsr_n _ _ (show (96 : Nat) ≠ 97 by decide), gsr_n _ _ (show (96 : Nat) ≠ 98 by decide), gsr_n _ _ (show (97 : Nat) ≠ 83 by decide), gsr_n _ _ (show (97 : Nat) ≠ 96 by decide), gsr_n _ _ (show (97 : Nat) ≠ 98 by decide), gsr_n _ _ (show (98 : Nat) ≠ 83 by decide), gsr_n _ _ (show (98 : Nat) ≠ 96 by decide), gsr_n _ _ (show (98 : Nat) ≠ 97 by decide), gsr_s]; rw [pk_un (by decide)]; exact a5
          · exact (a5x k hk).kp o1 (fun j h1 h2 => by simp only [gsr_n _ _ (show (83 : Nat) ≠ 96 by decide), gsr_n _ _ (show (83 : Nat) ≠ 97 by decide), gsr_n _ _ (show (83 : Nat) ≠ 98 by decide), gsr_n _ _ (show (84 : Nat) ≠ 83 by decide), gsr_n _ _ (show (84 : Nat) ≠ 96 by decide), gsr_n _ _ (show (84 : Nat) ≠ 97 by decide), gsr_n _ _ (show (84 : Nat) ≠ 98 by decide), gsr_n _ _ (show (93 : Nat) ≠ 83 by decide), gsr_n _ _ (show (93 : Nat) ≠ 96 by decide), gsr_n _ _ (show (93 : Nat) ≠ 97 by decide), gsr_n _ _ (show (93 : Nat) ≠ 98 by decide), gsr_n _ _ (show (96 : Nat) ≠ 83 by decide), gsr_n _ _ (show (96 : Nat) ≠ 97 by decide), gsr_n _ _ (show (96 : Nat) ≠ 98 by decide), gsr_n _ _ (show (97 : Nat) ≠ 83 by decide), gsr_n _ _ (show (97 : Nat) ≠ 96 by decide), gsr_n _ _ (show (97 : Nat) ≠ 98 by decide), gsr_n _ _ (show (98 : Nat) ≠ 83 by decide), gsr_n _ _ (show (98 : Nat) ≠ 96 by decide), gsr_n _ _ (show (98 : Nat) ≠ 97 by decide), gsr_s])
          · simp only [gsr_n _ _ (show (83 : Nat) ≠ 96 by decide), gsr_n _ _ (show (83 : Nat) ≠ 97 by decide), gsr_n _ _ (show (83 : Nat) ≠ 98 by decide), gsr_n _ _ (show (84 : Nat) ≠ 83 by decide), gsr_n _ _ (show (84 : Nat) ≠ 96 by decide), gsr_n _ _ (show (84 : Nat) ≠ 97 by decide), gsr_n _ _ (show (84 : Nat) ≠ 98 by decide), gsr_n _ _ (show (93 : Nat) ≠ 83 by decide), gsr_n _ _ (show (93 : Nat) ≠ 96 by decide), gsr_n _ _ (show (93 : Nat) ≠ 97 by decide), gsr_n _ _ (show (93 : Nat) ≠ 98 by decide), gsr_n _ _ (show (96 : Nat) ≠ 83 by decide), gsr_n _ _ (show (96 : Nat) ≠ 97 by decide), gsr_n _ _ (show (96 : Nat) ≠ 98 by decide), gsr_n _ _ (show (97 : Nat) ≠ 83 by decide), gsr_n _ _ (show (97 : Nat) ≠ 96 by decide), gsr_n _ _ (show (97 : Nat) ≠ 98 by decide), gsr_n _ _ (show (98 : Nat) ≠ 83 by decide), gsr_n _ _ (show (98 : Nat) ≠ 96 by decide), gsr_n _ _ (show (98 : Nat) ≠ 97 by decide), gsr_s]; rw [pk_us]; rfl
          · have hj : j < S.N.n + 1 := hj
            simp only [gsr_n _ _ (show (83 : Nat) ≠ 96 by decide), gsr_n _ _ (show (83 : Nat) ≠ 97 by decide), gsr_n _ _ (show (83 : Nat) ≠ 98 by decide), gsr_n _ _ (show (84 : Nat) ≠ 83 by decide), gsr_n _ _ (show (84 : Nat) ≠ 96 by decide), gsr_n _ _ (show (84 : Nat) ≠ 97 by decide), gsr_n _ _ (show (84 : Nat) ≠ 98 by decide), gsr_n _ _ (show (93 : Nat) ≠ 83 by decide), gsr_n _ _ (show (93 : Nat) ≠ 96 by decide), gsr_n _ _ (show (93 : Nat) ≠ 97 by decide), gsr_n _ _ (show (93 : Nat) ≠ 98 by decide), gsr_n _ _ (show (96 : Nat) ≠ 83 by decide), gsr_n _ _ (show (96 : Nat) ≠ 97 by decide), gsr_n _ _ (show (96 : Nat) ≠ 98 by decide), gsr_n _ _ (show (97 : Nat) ≠ 83 by decide), gsr_n _ _ (show (97 : Nat) ≠ 96 by decide), gsr_n _ _ (show (97 : Nat) ≠ 98 by decide), gsr_n _ _ (show (98 : Nat) ≠ 83 by decide), gsr_n _ _ (show (98 : Nat) ≠ 96 by decide), gsr_n _ _ (show (98 : Nat) ≠ 97 by decide), gsr_s]
            show _ = nI (if j = S.N.n then i else S.N.wh j) ∧ _ = nI (if j = S.N.n then w else S.N.wn j) ∧ _ = nI (if j = S.N.n then u else S.N.hu j)
            by_cases e : j = S.N.n
            · subst e; rw [pk_us, pk_us, pk_us, if_pos rfl, if_pos rfl, if_pos rfl]; exact ⟨rfl, rfl, rfl⟩
            · rw [pk_un e, pk_un e, pk_un e, if_neg e, if_neg e, if_neg e]; exact a6.2 j (by omega)
        · refine s_bipush (q := 40) (v := (-3)) hX dX7_seen_38 rfl rfl (by decide) ?_
          refine s_iret hX dX7_seen_40 (Or.inl rfl) ⟨Nat.le_refl _, Nat.le_refl _, Nat.le_refl _, ?_⟩
          exact hcon.ret (by unfold gA.seen; rw [ra]; dsimp only; rw [rw]; dsimp only; rw [ru]; dsimp only; rw [if_neg (by omega)]) hS0 (fun _ _ => rfl)
