theorem FRX.nm {M M' : gM} (hk : ∀ k, k ≠ 10 → k ≠ 11 → M' 83 k = M 83 k) (hc : ∀ c, c ≠ 83 → M' c = M c) : FRX M M' := by
  intro c j h
  by_cases e : c = 83
  · subst e; exact hk j (fun z => h (by unfold dft; omega)) (fun z => h (by unfold dft; omega))
  · rw [hc c e]
theorem TWX.nm {M M' : gM} {T : gT} (h : TWX M T) (hc : ∀ c, c ≠ 83 → M' c = M c) : TWX M' T := by
  unfold TWX
  rw [hc 85 (by decide), hc 86 (by decide), hc 87 (by decide), hc 88 (by decide), hc 89 (by decide), hc 90 (by decide), hc 91 (by decide), hc 92 (by decide)]
  exact h
theorem TWX.sh {M : gM} {T : gT} {v : Nat → Nat} (h : TWX M T) (h0 : v 0 < T.P) (h1 : v 1 < 7) : TWX (gsr M 91 (upd (M 91) (7 * (6 + v 0) + v 1) (nI (v 2)))) (T.sH v) := by
  obtain ⟨h1, h2, h3, h4, h5, h6, h7, h8⟩ := h
  refine ⟨?_, ?_, ?_, fun i hi => ?_, fun j hj => ?_, fun j hj => ?_, fun k hk => ?_, fun j hj => ?_⟩
  · rw [gsr_n _ _ (by decide)]; exact h1
  · rw [gsr_n _ _ (by decide)]; exact h2
  · rw [gsr_n _ _ (by decide)]; exact h3
  · rw [gsr_n _ _ (by decide)]; exact h4 i hi
  · rw [gsr_n _ _ (by decide)]; exact h5 j hj
  · rw [gsr_n _ _ (by decide)]; exact h6 j hj
  · rw [gsr_n _ _ (by decide)]; exact h7 k hk
  · rw [gsr_s]
    show _ = if j = 7 * v 0 + v 1 then nI (v 2) else T.pl j
    by_cases e : j = 7 * v 0 + v 1
    · rw [if_pos e, show 42 + j = 7 * (6 + v 0) + v 1 by omega, pk_us]
    · rw [if_neg e, pk_un (by omega)]; exact h8 j hj
theorem TWX.sc {M : gM} {T : gT} {x : Nat} (h : TWX M T) : TWX (gsr M 92 (upd (M 92) 1 (nI x))) (T.sC x) := by
  obtain ⟨h1, h2, h3, h4, h5, h6, h7, h8⟩ := h
  refine ⟨?_, ?_, ?_, fun i hi => ?_, fun j hj => ?_, fun j hj => ?_, fun k hk => ?_, fun j hj => ?_⟩
  · rw [gsr_n _ _ (by decide)]; exact h1
  · rw [gsr_n _ _ (by decide)]; exact h2
  · rw [gsr_s, pk_us]; rfl
  · rw [gsr_n _ _ (by decide)]; exact h4 i hi
  · rw [gsr_n _ _ (by decide)]; exact h5 j hj
  · rw [gsr_n _ _ (by decide)]; exact h6 j hj
  · rw [gsr_n _ _ (by decide)]; exact h7 k hk
  · rw [gsr_n _ _ (by decide)]; exact h8 j hj
set_option maxHeartbeats 4000000 in
set_option maxRecDepth 100000 in
theorem m_readItem {d pl : Nat} {T : gT} {tx : Nat → Nat} {len : Nat} {sh : List gS} {M : gM} {Q : Option Value → List gS → gM → Prop} (hd : 2 ≤ d) (hC : isMod sh) (hT : TXM M tx len) (hok : txok tx len) (hat : M 83 10 = nI pl) (hlt : pl < len) (hD : TWX M T) (hdr : T.dr) (hcon0 : itm T tx len pl = none → ∀ M', FRX M M' → M' 83 11 = 0 → Q none sh M') (hcon1 : ∀ T' q, itm T tx len pl = some (T', q) → ∀ M', FRX M M' → M' 83 10 = nI q → M' 83 11 = 1 → TWX M' T' → Q none sh M') : gC mX7_readItem d 0 0 [.ref 83] sh M Q := by
  have hC0 := hC
  obtain ⟨y0, y1, y2, y3, y4, y5, y6, y7, y8, y9, y10, y11, y12, y13, y14, y15⟩ := hC
  have hok0 := hok
  obtain ⟨k1, k2⟩ := hok
  have hx9 := k2 pl hlt
  have hdr0 := hdr
  obtain ⟨⟨q1, q2, -⟩, -⟩ := hdr
  refine gC_of (rt := 0) (ini := false) gm_X7_readItem rfl (by decide) (Nat.le_of_ble_eq_true rfl) (fun X hX => ?_)
  have G : ∀ M1 : gM, M1 83 10 = nI (pl + 1) → M1 83 11 = 1 → FRX M M1 → TWX M1 T → X 20 [(0, .ref 83), (1, .int (nI (tx pl)))] [] sh M1 0 0 := by
    intro M1 h10 h11 F1 D1
    have hti : (nI (tx pl)).toInt = (tx pl : Int) := nI_toInt (by omega)
    refine s_iload_n (q := 21) hX dX7_readItem_20 rfl rfl ?_
    refine s_lookup hX dX7_readItem_21 rfl ?_
    refine ⟨fun c21 => ?_, fun c21 => ?_⟩
    · refine s_to (r := 318) rfl ?_
      refine s_aload_n (q := 319) hX dX7_readItem_318 rfl rfl ?_
      refine s_getr (q := 322) hX dX7_readItem_319 rfl gfl_7_35 (by assumption) rfl ?_
      refine s_iconst (q := 323) (v := 1) hX dX7_readItem_322 rfl rfl ?_
      refine s_aload_n (q := 324) hX dX7_readItem_323 rfl rfl ?_
      refine s_iconst (q := 325) (v := 0) hX dX7_readItem_324 rfl rfl ?_
      refine s_bipush (q := 327) (v := 9) hX dX7_readItem_325 rfl rfl (by decide) ?_
      refine s_bipush (q := 329) (v := 59) hX dX7_readItem_327 rfl rfl (by decide) ?_
      refine s_invv3_1 (q := 332) hX dX7_readItem_329 rfl glk_7_85 (by assumption) (Nat.le_of_ble_eq_true rfl) ⟨Nat.le_refl _, Nat.le_refl _⟩ (by omega) (m_number (d := 1) (a := (pl + 1)) (hn := 10) (be := 59) (s := true) (Nat.le_refl _) hC0 (hT.fx F1) hok0 h10 (by omega) (by rw [h11]; rfl) rfl (by omega) (by omega) (fun N0 t0 u0 kk0 cc0 => ?_)) 
      obtain ⟨a1, ha1⟩ : ∃ z, z = nxt tx len (pl + 1) := ⟨_, rfl⟩
      rw [← ha1] at t0
      have hl0 := nvl_le tx len (pl + 1)
      have hn0 := nxt_le tx len (pl + 1)
      rw [← ha1] at hn0
      have F0N : FRX M N0 := FRX.tr F1 (FRX.nm kk0 cc0)
      refine ⟨_, rfl, ?_⟩
      refine s_iast (k := 1) (q := 333) hX dX7_readItem_332 rfl (by assumption) rfl (by omega) (by omega) ?_
      refine s_goto (q := 341) hX dX7_readItem_333 rfl ?_
      refine s_ret hX dX7_readItem_341 rfl ⟨Nat.le_refl _, Nat.le_refl _, Nat.le_refl _, ?_⟩
      have hI := itm_C (T := T) (tx := tx) (len := len) (pl := pl) (by omega) rfl
      rw [Bool.true_and] at u0
      by_cases hB : nok tx len (pl + 1) 10 59 = true
      · rw [if_pos hB] at hI
        exact hcon1 _ _ hI _ (F0N.put (by unfold dft; omega)) (by rw [gsr_n _ _ (by decide), t0, ha1]) (by rw [gsr_n _ _ (by decide), u0, if_pos hB]) (TWX.sc (TWX.nm D1 cc0))
      · rw [if_neg hB] at hI
        exact hcon0 hI _ (F0N.put (by unfold dft; omega)) (by rw [gsr_n _ _ (by decide), u0, if_neg hB])
    refine ⟨fun c21_1 => ?_, fun c21_1 => ?_⟩
    · refine s_to (r := 145) rfl ?_
      refine s_aload_n (q := 146) hX dX7_readItem_145 rfl rfl ?_
      refine s_aload_n (q := 147) hX dX7_readItem_146 rfl rfl ?_
      refine s_getr (q := 150) hX dX7_readItem_147 rfl gfl_7_23 (by assumption) rfl ?_
      refine s_iconst (q := 151) (v := 1) hX dX7_readItem_150 rfl rfl ?_
      refine s_iald (k := 1) (q := 152) hX dX7_readItem_151 rfl (by assumption) rfl (by omega) (by omega) ?_
      refine s_topi (v := nI (T.D)) D1.2.1 ?_
      refine s_bipush (q := 154) (v := 6) hX dX7_readItem_152 rfl rfl (by decide) ?_
      refine s_nicmp_ge (a := T.D) (b := 6) (q := 157) (r := 161) hX dX7_readItem_154 rfl rfl rfl rfl (by omega) (by omega) (fun c154 => ?_) (fun c154 => ?_)
      · refine s_iconst (q := 162) (v := 0) hX dX7_readItem_161 rfl rfl ?_
        refine s_putz (q := 165) hX dX7_readItem_162 rfl gfl_7_81 (by assumption) rfl (Or.inl rfl) ?_
        refine s_aload_n (q := 166) hX dX7_readItem_165 rfl rfl ?_
        refine s_iconst (q := 167) (v := 0) hX dX7_readItem_166 rfl rfl ?_
        refine s_iconst (q := 168) (v := 4) hX dX7_readItem_167 rfl rfl ?_
        refine s_bipush (q := 170) (v := 44) hX dX7_readItem_168 rfl rfl (by decide) ?_
        refine s_invv3_1 (q := 173) hX dX7_readItem_170 rfl glk_7_85 (by assumption) (Nat.le_of_ble_eq_true rfl) ⟨Nat.le_refl _, Nat.le_refl _⟩ (by omega) (m_number (d := 1) (a := (pl + 1)) (hn := 5) (be := 44) (s := false) (Nat.le_refl _) hC0 (hT.fx (FRX.put F1 (by unfold dft; omega))) hok0 (by rw [gsr_s, pk_un (by decide)]; exact h10) (by omega) (by rw [gsr_s, pk_us]; rfl) rfl (by omega) (by omega) (fun N0 t0 u0 kk0 cc0 => ?_)) 
        obtain ⟨a1, ha1⟩ : ∃ z, z = nxt tx len (pl + 1) := ⟨_, rfl⟩
        rw [← ha1] at t0
        have hl0 := nvl_le tx len (pl + 1)
        have hn0 := nxt_le tx len (pl + 1)
        rw [← ha1] at hn0
        have F0N : FRX M N0 := FRX.tr (FRX.put F1 (by unfold dft; omega)) (FRX.nm kk0 cc0)
        refine ⟨_, rfl, ?_⟩
        refine s_istore_n (q := 174) (lv' := [(0, _), (1, _), (2, _)]) hX dX7_readItem_173 rfl (Nat.le_of_ble_eq_true rfl) rfl ?_
        refine s_aload_n (q := 175) hX dX7_readItem_174 rfl rfl ?_
        refine s_iconst (q := 176) (v := 0) hX dX7_readItem_175 rfl rfl ?_
        refine s_iconst (q := 177) (v := 4) hX dX7_readItem_176 rfl rfl ?_
        refine s_bipush (q := 179) (v := 44) hX dX7_readItem_177 rfl rfl (by decide) ?_
        refine s_invv3_1 (q := 182) hX dX7_readItem_179 rfl glk_7_85 (by assumption) (Nat.le_of_ble_eq_true rfl) ⟨Nat.le_refl _, Nat.le_refl _⟩ (by omega) (m_number (d := 1) (a := a1) (hn := 5) (be := 44) (s := (false && nok tx len (pl + 1) 5 44)) (Nat.le_refl _) hC0 (hT.fx F0N) hok0 t0 (by omega) u0 rfl (by omega) (by omega) (fun N1 t1 u1 kk1 cc1 => ?_)) 
        obtain ⟨a2, ha2⟩ : ∃ z, z = nxt tx len a1 := ⟨_, rfl⟩
        rw [← ha2] at t1
        have hl1 := nvl_le tx len a1
        have hn1 := nxt_le tx len a1
        rw [← ha2] at hn1
        have F1N : FRX M N1 := FRX.tr F0N (FRX.nm kk1 cc1)
        refine ⟨_, rfl, ?_⟩
        refine s_istore_n (q := 183) (lv' := [(0, _), (1, _), (2, _), (3, _)]) hX dX7_readItem_182 rfl (Nat.le_of_ble_eq_true rfl) rfl ?_
        refine s_aload_n (q := 184) hX dX7_readItem_183 rfl rfl ?_
        refine s_iconst (q := 185) (v := 0) hX dX7_readItem_184 rfl rfl ?_
        refine s_iconst (q := 186) (v := 4) hX dX7_readItem_185 rfl rfl ?_
        refine s_bipush (q := 188) (v := 44) hX dX7_readItem_186 rfl rfl (by decide) ?_
        refine s_invv3_1 (q := 191) hX dX7_readItem_188 rfl glk_7_85 (by assumption) (Nat.le_of_ble_eq_true rfl) ⟨Nat.le_refl _, Nat.le_refl _⟩ (by omega) (m_number (d := 1) (a := a2) (hn := 5) (be := 44) (s := ((false && nok tx len (pl + 1) 5 44) && nok tx len a1 5 44)) (Nat.le_refl _) hC0 (hT.fx F1N) hok0 t1 (by omega) u1 rfl (by omega) (by omega) (fun N2 t2 u2 kk2 cc2 => ?_)) 
        obtain ⟨a3, ha3⟩ : ∃ z, z = nxt tx len a2 := ⟨_, rfl⟩
        rw [← ha3] at t2
        have hl2 := nvl_le tx len a2
        have hn2 := nxt_le tx len a2
        rw [← ha3] at hn2
        have F2N : FRX M N2 := FRX.tr F1N (FRX.nm kk2 cc2)
        refine ⟨_, rfl, ?_⟩
        refine s_istore (q := 193) (lv' := [(0, _), (1, _), (2, _), (3, _), (4, _)]) hX dX7_readItem_191 rfl (Nat.le_of_ble_eq_true rfl) rfl ?_
        refine s_aload_n (q := 194) hX dX7_readItem_193 rfl rfl ?_
        refine s_iconst (q := 195) (v := 0) hX dX7_readItem_194 rfl rfl ?_
        refine s_bipush (q := 197) (v := 9) hX dX7_readItem_195 rfl rfl (by decide) ?_
        refine s_bipush (q := 199) (v := 59) hX dX7_readItem_197 rfl rfl (by decide) ?_
        refine s_invv3_1 (q := 202) hX dX7_readItem_199 rfl glk_7_85 (by assumption) (Nat.le_of_ble_eq_true rfl) ⟨Nat.le_refl _, Nat.le_refl _⟩ (by omega) (m_number (d := 1) (a := a3) (hn := 10) (be := 59) (s := (((false && nok tx len (pl + 1) 5 44) && nok tx len a1 5 44) && nok tx len a2 5 44)) (Nat.le_refl _) hC0 (hT.fx F2N) hok0 t2 (by omega) u2 rfl (by omega) (by omega) (fun N3 t3 u3 kk3 cc3 => ?_)) 
        obtain ⟨a4, ha4⟩ : ∃ z, z = nxt tx len a3 := ⟨_, rfl⟩
        rw [← ha4] at t3
        have hl3 := nvl_le tx len a3
        have hn3 := nxt_le tx len a3
        rw [← ha4] at hn3
        have F3N : FRX M N3 := FRX.tr F2N (FRX.nm kk3 cc3)
        refine ⟨_, rfl, ?_⟩
        refine s_istore (q := 204) (lv' := [(0, _), (1, _), (2, _), (3, _), (4, _), (5, _)]) hX dX7_readItem_202 rfl (Nat.le_of_ble_eq_true rfl) rfl ?_
        have hI := itm_D (T := T) (tx := tx) (len := len) (pl := pl) (by omega) rfl ha1 ha2 ha3
        rw [decide_eq_false (show ¬ T.D < 6 by omega)] at hI
        have hB : ¬ ((((false && nok tx len (pl + 1) 5 44) && nok tx len a1 5 44) && nok tx len a2 5 44) && nok tx len a3 10 59) = true := by simp
        have hB2 : ¬ (((((false && nok tx len (pl + 1) 5 44) && nok tx len a1 5 44) && nok tx len a2 5 44) && nok tx len a3 10 59) && decide (0 < nvl tx len (pl + 1) + nvl tx len a1 + nvl tx len a2)) = true := by simp
        rw [if_neg hB2] at hI
        refine s_aload_n (q := 205) hX dX7_readItem_204 rfl rfl ?_
        refine s_aload_n (q := 206) hX dX7_readItem_205 rfl rfl ?_
        refine s_geti (q := 209) hX dX7_readItem_206 rfl gfl_7_81 (by assumption) rfl ?_
        refine s_topi (v := 0) (by rw [u3, if_neg hB]) ?_
        refine s_if_eq_t (q := 212) (r := 225) hX dX7_readItem_209 rfl rfl (by decide) ?_
        refine s_iconst (q := 226) (v := 0) hX dX7_readItem_225 rfl rfl ?_
        refine s_putz (q := 229) hX dX7_readItem_226 rfl gfl_7_81 (by assumption) rfl (Or.inl rfl) ?_
        refine s_aload_n (q := 230) hX dX7_readItem_229 rfl rfl ?_
        refine s_geti (q := 233) hX dX7_readItem_230 rfl gfl_7_81 (by assumption) rfl ?_
        refine s_topi (v := 0) (by rw [gsr_s, pk_us]) ?_
        refine s_if_eq_t (q := 236) (r := 341) hX dX7_readItem_233 rfl rfl (by decide) ?_
        refine s_ret hX dX7_readItem_341 rfl ⟨Nat.le_refl _, Nat.le_refl _, Nat.le_refl _, ?_⟩
        exact hcon0 hI _ (F3N.put (by unfold dft; omega)) (by rw [gsr_s, pk_us])
      · refine s_iconst (q := 158) (v := 1) hX dX7_readItem_157 rfl rfl ?_
        refine s_goto (q := 162) hX dX7_readItem_158 rfl ?_
        refine s_putz (q := 165) hX dX7_readItem_162 rfl gfl_7_81 (by assumption) rfl (Or.inr rfl) ?_
        refine s_aload_n (q := 166) hX dX7_readItem_165 rfl rfl ?_
        refine s_iconst (q := 167) (v := 0) hX dX7_readItem_166 rfl rfl ?_
        refine s_iconst (q := 168) (v := 4) hX dX7_readItem_167 rfl rfl ?_
        refine s_bipush (q := 170) (v := 44) hX dX7_readItem_168 rfl rfl (by decide) ?_
        refine s_invv3_1 (q := 173) hX dX7_readItem_170 rfl glk_7_85 (by assumption) (Nat.le_of_ble_eq_true rfl) ⟨Nat.le_refl _, Nat.le_refl _⟩ (by omega) (m_number (d := 1) (a := (pl + 1)) (hn := 5) (be := 44) (s := true) (Nat.le_refl _) hC0 (hT.fx (FRX.put F1 (by unfold dft; omega))) hok0 (by rw [gsr_s, pk_un (by decide)]; exact h10) (by omega) (by rw [gsr_s, pk_us]; rfl) rfl (by omega) (by omega) (fun N0 t0 u0 kk0 cc0 => ?_)) 
        obtain ⟨a1, ha1⟩ : ∃ z, z = nxt tx len (pl + 1) := ⟨_, rfl⟩
        rw [← ha1] at t0
        have hl0 := nvl_le tx len (pl + 1)
        have hn0 := nxt_le tx len (pl + 1)
        rw [← ha1] at hn0
        have F0N : FRX M N0 := FRX.tr (FRX.put F1 (by unfold dft; omega)) (FRX.nm kk0 cc0)
        refine ⟨_, rfl, ?_⟩
        refine s_istore_n (q := 174) (lv' := [(0, _), (1, _), (2, _)]) hX dX7_readItem_173 rfl (Nat.le_of_ble_eq_true rfl) rfl ?_
        refine s_aload_n (q := 175) hX dX7_readItem_174 rfl rfl ?_
        refine s_iconst (q := 176) (v := 0) hX dX7_readItem_175 rfl rfl ?_
        refine s_iconst (q := 177) (v := 4) hX dX7_readItem_176 rfl rfl ?_
        refine s_bipush (q := 179) (v := 44) hX dX7_readItem_177 rfl rfl (by decide) ?_
        refine s_invv3_1 (q := 182) hX dX7_readItem_179 rfl glk_7_85 (by assumption) (Nat.le_of_ble_eq_true rfl) ⟨Nat.le_refl _, Nat.le_refl _⟩ (by omega) (m_number (d := 1) (a := a1) (hn := 5) (be := 44) (s := (true && nok tx len (pl + 1) 5 44)) (Nat.le_refl _) hC0 (hT.fx F0N) hok0 t0 (by omega) u0 rfl (by omega) (by omega) (fun N1 t1 u1 kk1 cc1 => ?_)) 
        obtain ⟨a2, ha2⟩ : ∃ z, z = nxt tx len a1 := ⟨_, rfl⟩
        rw [← ha2] at t1
        have hl1 := nvl_le tx len a1
        have hn1 := nxt_le tx len a1
        rw [← ha2] at hn1
        have F1N : FRX M N1 := FRX.tr F0N (FRX.nm kk1 cc1)
        refine ⟨_, rfl, ?_⟩
        refine s_istore_n (q := 183) (lv' := [(0, _), (1, _), (2, _), (3, _)]) hX dX7_readItem_182 rfl (Nat.le_of_ble_eq_true rfl) rfl ?_
        refine s_aload_n (q := 184) hX dX7_readItem_183 rfl rfl ?_
        refine s_iconst (q := 185) (v := 0) hX dX7_readItem_184 rfl rfl ?_
        refine s_iconst (q := 186) (v := 4) hX dX7_readItem_185 rfl rfl ?_
        refine s_bipush (q := 188) (v := 44) hX dX7_readItem_186 rfl rfl (by decide) ?_
        refine s_invv3_1 (q := 191) hX dX7_readItem_188 rfl glk_7_85 (by assumption) (Nat.le_of_ble_eq_true rfl) ⟨Nat.le_refl _, Nat.le_refl _⟩ (by omega) (m_number (d := 1) (a := a2) (hn := 5) (be := 44) (s := ((true && nok tx len (pl + 1) 5 44) && nok tx len a1 5 44)) (Nat.le_refl _) hC0 (hT.fx F1N) hok0 t1 (by omega) u1 rfl (by omega) (by omega) (fun N2 t2 u2 kk2 cc2 => ?_)) 
        obtain ⟨a3, ha3⟩ : ∃ z, z = nxt tx len a2 := ⟨_, rfl⟩
        rw [← ha3] at t2
        have hl2 := nvl_le tx len a2
        have hn2 := nxt_le tx len a2
        rw [← ha3] at hn2
        have F2N : FRX M N2 := FRX.tr F1N (FRX.nm kk2 cc2)
        refine ⟨_, rfl, ?_⟩
        refine s_istore (q := 193) (lv' := [(0, _), (1, _), (2, _), (3, _), (4, _)]) hX dX7_readItem_191 rfl (Nat.le_of_ble_eq_true rfl) rfl ?_
        refine s_aload_n (q := 194) hX dX7_readItem_193 rfl rfl ?_
        refine s_iconst (q := 195) (v := 0) hX dX7_readItem_194 rfl rfl ?_
        refine s_bipush (q := 197) (v := 9) hX dX7_readItem_195 rfl rfl (by decide) ?_
        refine s_bipush (q := 199) (v := 59) hX dX7_readItem_197 rfl rfl (by decide) ?_
        refine s_invv3_1 (q := 202) hX dX7_readItem_199 rfl glk_7_85 (by assumption) (Nat.le_of_ble_eq_true rfl) ⟨Nat.le_refl _, Nat.le_refl _⟩ (by omega) (m_number (d := 1) (a := a3) (hn := 10) (be := 59) (s := (((true && nok tx len (pl + 1) 5 44) && nok tx len a1 5 44) && nok tx len a2 5 44)) (Nat.le_refl _) hC0 (hT.fx F2N) hok0 t2 (by omega) u2 rfl (by omega) (by omega) (fun N3 t3 u3 kk3 cc3 => ?_)) 
        obtain ⟨a4, ha4⟩ : ∃ z, z = nxt tx len a3 := ⟨_, rfl⟩
        rw [← ha4] at t3
        have hl3 := nvl_le tx len a3
        have hn3 := nxt_le tx len a3
        rw [← ha4] at hn3
        have F3N : FRX M N3 := FRX.tr F2N (FRX.nm kk3 cc3)
        refine ⟨_, rfl, ?_⟩
        refine s_istore (q := 204) (lv' := [(0, _), (1, _), (2, _), (3, _), (4, _), (5, _)]) hX dX7_readItem_202 rfl (Nat.le_of_ble_eq_true rfl) rfl ?_
        have hI := itm_D (T := T) (tx := tx) (len := len) (pl := pl) (by omega) rfl ha1 ha2 ha3
        rw [decide_eq_true (show T.D < 6 by omega)] at hI
        by_cases hB : ((((true && nok tx len (pl + 1) 5 44) && nok tx len a1 5 44) && nok tx len a2 5 44) && nok tx len a3 10 59) = true
        · refine s_aload_n (q := 205) hX dX7_readItem_204 rfl rfl ?_
          refine s_aload_n (q := 206) hX dX7_readItem_205 rfl rfl ?_
          refine s_geti (q := 209) hX dX7_readItem_206 rfl gfl_7_81 (by assumption) rfl ?_
          refine s_topi (v := 1) (by rw [u3, if_pos hB]) ?_
          refine s_if_eq_f (q := 212) (r := 225) hX dX7_readItem_209 rfl rfl (by decide) ?_
          refine s_iload_n (q := 213) hX dX7_readItem_212 rfl rfl ?_
          refine s_iload_n (q := 214) hX dX7_readItem_213 rfl rfl ?_
          refine s_iadd (q := 215) (v := nI (nvl tx len (pl + 1) + (nvl tx len a1))) hX dX7_readItem_214 rfl (nI_add (nvl tx len (pl + 1)) (nvl tx len a1)) ?_
          refine s_iload (q := 217) hX dX7_readItem_215 rfl rfl ?_
          refine s_iadd (q := 218) (v := nI (nvl tx len (pl + 1) + (nvl tx len a1) + (nvl tx len a2))) hX dX7_readItem_217 rfl (nI_add (nvl tx len (pl + 1) + (nvl tx len a1)) (nvl tx len a2)) ?_
          refine s_nif_le (a := nvl tx len (pl + 1) + (nvl tx len a1) + (nvl tx len a2)) (b := 0) (q := 221) (r := 225) hX dX7_readItem_218 rfl rfl rfl rfl (by omega) (by omega) (fun c218 => ?_) (fun c218 => ?_)
          · refine s_iconst (q := 226) (v := 0) hX dX7_readItem_225 rfl rfl ?_
            rw [hB, decide_eq_false (by omega), if_neg (by decide)] at hI
            refine s_putz (q := 229) hX dX7_readItem_226 rfl gfl_7_81 (by assumption) rfl (Or.inl rfl) ?_
            refine s_aload_n (q := 230) hX dX7_readItem_229 rfl rfl ?_
            refine s_geti (q := 233) hX dX7_readItem_230 rfl gfl_7_81 (by assumption) rfl ?_
            refine s_topi (v := 0) (by rw [gsr_s, pk_us]) ?_
            refine s_if_eq_t (q := 236) (r := 341) hX dX7_readItem_233 rfl rfl (by decide) ?_
            refine s_ret hX dX7_readItem_341 rfl ⟨Nat.le_refl _, Nat.le_refl _, Nat.le_refl _, ?_⟩
            exact hcon0 hI _ (F3N.put (by unfold dft; omega)) (by rw [gsr_s, pk_us])
          · refine s_iconst (q := 222) (v := 1) hX dX7_readItem_221 rfl rfl ?_
            refine s_goto (q := 226) hX dX7_readItem_222 rfl ?_
            rw [hB, decide_eq_true (by omega), if_pos (show (true && true) = true from rfl)] at hI
            refine s_putz (q := 229) hX dX7_readItem_226 rfl gfl_7_81 (by assumption) rfl (Or.inr rfl) ?_
            refine s_aload_n (q := 230) hX dX7_readItem_229 rfl rfl ?_
            refine s_geti (q := 233) hX dX7_readItem_230 rfl gfl_7_81 (by assumption) rfl ?_
            refine s_topi (v := 1) (by rw [gsr_s, pk_us]) ?_
            refine s_if_eq_f (q := 236) (r := 341) hX dX7_readItem_233 rfl rfl (by decide) ?_
            refine s_aload_n (q := 237) hX dX7_readItem_236 rfl rfl ?_
            refine s_iload_n (q := 238) hX dX7_readItem_237 rfl rfl ?_
            refine s_iload_n (q := 239) hX dX7_readItem_238 rfl rfl ?_
            refine s_iload (q := 241) hX dX7_readItem_239 rfl rfl ?_
            refine s_iload (q := 243) hX dX7_readItem_241 rfl rfl ?_
            refine s_invv4_0 (q := 246) hX dX7_readItem_243 rfl glk_7_60 (by assumption) (Nat.le_of_ble_eq_true rfl) ⟨Nat.le_refl _, Nat.le_refl _⟩ (by omega) (m_firstDeed (d := 0) (T := T) (v := w4 (nvl tx len (pl + 1)) (nvl tx len a1) (nvl tx len a2) (nvl tx len a3)) hC0 (TWX.nm (TWX.nm (TWX.nm (TWX.nm (TWX.nm (TWX.nm D1 (fun c z => gsr_n _ _ z)) cc0) cc1) cc2) cc3) (fun c z => gsr_n _ _ z)) (by omega) q1 rfl rfl rfl rfl (fun N9 d9 f9 e9 => ?_)) 
            refine ⟨rfl, ?_⟩
            refine s_goto (q := 341) hX dX7_readItem_246 rfl ?_
            refine s_ret hX dX7_readItem_341 rfl ⟨Nat.le_refl _, Nat.le_refl _, Nat.le_refl _, ?_⟩
            exact hcon1 _ _ hI N9 ((F3N.put (by unfold dft; omega)).tr f9) (by rw [e9, gsr_s, pk_un (by decide), t3, ha4]) (by rw [e9, gsr_s, pk_us]) d9
        · rw [if_neg (fun z => hB (by rw [Bool.and_eq_true] at z; exact z.1))] at hI
          refine s_aload_n (q := 205) hX dX7_readItem_204 rfl rfl ?_
          refine s_aload_n (q := 206) hX dX7_readItem_205 rfl rfl ?_
          refine s_geti (q := 209) hX dX7_readItem_206 rfl gfl_7_81 (by assumption) rfl ?_
          refine s_topi (v := 0) (by rw [u3, if_neg hB]) ?_
          refine s_if_eq_t (q := 212) (r := 225) hX dX7_readItem_209 rfl rfl (by decide) ?_
          refine s_iconst (q := 226) (v := 0) hX dX7_readItem_225 rfl rfl ?_
          refine s_putz (q := 229) hX dX7_readItem_226 rfl gfl_7_81 (by assumption) rfl (Or.inl rfl) ?_
          refine s_aload_n (q := 230) hX dX7_readItem_229 rfl rfl ?_
          refine s_geti (q := 233) hX dX7_readItem_230 rfl gfl_7_81 (by assumption) rfl ?_
          refine s_topi (v := 0) (by rw [gsr_s, pk_us]) ?_
          refine s_if_eq_t (q := 236) (r := 341) hX dX7_readItem_233 rfl rfl (by decide) ?_
          refine s_ret hX dX7_readItem_341 rfl ⟨Nat.le_refl _, Nat.le_refl _, Nat.le_refl _, ?_⟩
          exact hcon0 hI _ (F3N.put (by unfold dft; omega)) (by rw [gsr_s, pk_us])
    refine ⟨fun c21_2 => ?_, fun c21_2 => ?_⟩
    · refine s_to (r := 249) rfl ?_
      refine s_aload_n (q := 250) hX dX7_readItem_249 rfl rfl ?_
      refine s_iconst (q := 251) (v := 0) hX dX7_readItem_250 rfl rfl ?_
      refine s_aload_n (q := 252) hX dX7_readItem_251 rfl rfl ?_
      refine s_getr (q := 255) hX dX7_readItem_252 rfl gfl_7_13 (by assumption) rfl ?_
      refine s_iconst (q := 256) (v := 1) hX dX7_readItem_255 rfl rfl ?_
      refine s_iald (k := 1) (q := 257) hX dX7_readItem_256 rfl (by assumption) rfl (by omega) (by omega) ?_
      refine s_topi (v := nI (T.P)) D1.1 ?_
      refine s_iconst (q := 258) (v := 1) hX dX7_readItem_257 rfl rfl ?_
      refine s_isub (q := 259) hX dX7_readItem_258 rfl rfl ?_
      refine s_bipush (q := 261) (v := 44) hX dX7_readItem_259 rfl rfl (by decide) ?_
      refine s_invv3_1 (q := 264) hX dX7_readItem_261 rfl glk_7_85 (by assumption) (Nat.le_of_ble_eq_true rfl) ⟨Nat.le_refl _, Nat.le_refl _⟩ (by omega) (m_number (d := 1) (a := (pl + 1)) (hn := T.P) (be := 44) (s := true) (Nat.le_refl _) hC0 (hT.fx F1) hok0 h10 (by omega) (by rw [h11]; rfl) rfl (by omega) (by omega) (fun N0 t0 u0 kk0 cc0 => ?_)) 
      obtain ⟨a1, ha1⟩ : ∃ z, z = nxt tx len (pl + 1) := ⟨_, rfl⟩
      rw [← ha1] at t0
      have hl0 := nvl_le tx len (pl + 1)
      have hn0 := nxt_le tx len (pl + 1)
      rw [← ha1] at hn0
      have F0N : FRX M N0 := FRX.tr F1 (FRX.nm kk0 cc0)
      refine ⟨_, rfl, ?_⟩
      refine s_istore_n (q := 265) (lv' := [(0, _), (1, _), (2, _)]) hX dX7_readItem_264 rfl (Nat.le_of_ble_eq_true rfl) rfl ?_
      refine s_aload_n (q := 266) hX dX7_readItem_265 rfl rfl ?_
      refine s_iconst (q := 267) (v := 0) hX dX7_readItem_266 rfl rfl ?_
      refine s_bipush (q := 269) (v := 6) hX dX7_readItem_267 rfl rfl (by decide) ?_
      refine s_bipush (q := 271) (v := 44) hX dX7_readItem_269 rfl rfl (by decide) ?_
      refine s_invv3_1 (q := 274) hX dX7_readItem_271 rfl glk_7_85 (by assumption) (Nat.le_of_ble_eq_true rfl) ⟨Nat.le_refl _, Nat.le_refl _⟩ (by omega) (m_number (d := 1) (a := a1) (hn := 7) (be := 44) (s := (true && nok tx len (pl + 1) T.P 44)) (Nat.le_refl _) hC0 (hT.fx F0N) hok0 t0 (by omega) u0 rfl (by omega) (by omega) (fun N1 t1 u1 kk1 cc1 => ?_)) 
      obtain ⟨a2, ha2⟩ : ∃ z, z = nxt tx len a1 := ⟨_, rfl⟩
      rw [← ha2] at t1
      have hl1 := nvl_le tx len a1
      have hn1 := nxt_le tx len a1
      rw [← ha2] at hn1
      have F1N : FRX M N1 := FRX.tr F0N (FRX.nm kk1 cc1)
      refine ⟨_, rfl, ?_⟩
      refine s_istore_n (q := 275) (lv' := [(0, _), (1, _), (2, _), (3, _)]) hX dX7_readItem_274 rfl (Nat.le_of_ble_eq_true rfl) rfl ?_
      refine s_aload_n (q := 276) hX dX7_readItem_275 rfl rfl ?_
      refine s_iconst (q := 277) (v := 0) hX dX7_readItem_276 rfl rfl ?_
      refine s_aload_n (q := 278) hX dX7_readItem_277 rfl rfl ?_
      refine s_getr (q := 281) hX dX7_readItem_278 rfl gfl_7_23 (by assumption) rfl ?_
      refine s_iconst (q := 282) (v := 1) hX dX7_readItem_281 rfl rfl ?_
      refine s_iald (k := 1) (q := 283) hX dX7_readItem_282 rfl (by assumption) rfl (by omega) (by omega) ?_
      refine s_topi (v := nI (T.D)) ((TWX.nm (TWX.nm D1 cc0) cc1)).2.1 ?_
      refine s_iconst (q := 284) (v := 1) hX dX7_readItem_283 rfl rfl ?_
      refine s_isub (q := 285) hX dX7_readItem_284 rfl rfl ?_
      refine s_bipush (q := 287) (v := 59) hX dX7_readItem_285 rfl rfl (by decide) ?_
      refine s_invv3_1 (q := 290) hX dX7_readItem_287 rfl glk_7_85 (by assumption) (Nat.le_of_ble_eq_true rfl) ⟨Nat.le_refl _, Nat.le_refl _⟩ (by omega) (m_number (d := 1) (a := a2) (hn := T.D) (be := 59) (s := ((true && nok tx len (pl + 1) T.P 44) && nok tx len a1 7 44)) (Nat.le_refl _) hC0 (hT.fx F1N) hok0 t1 (by omega) u1 rfl (by omega) (by omega) (fun N2 t2 u2 kk2 cc2 => ?_)) 
      obtain ⟨a3, ha3⟩ : ∃ z, z = nxt tx len a2 := ⟨_, rfl⟩
      rw [← ha3] at t2
      have hl2 := nvl_le tx len a2
      have hn2 := nxt_le tx len a2
      rw [← ha3] at hn2
      have F2N : FRX M N2 := FRX.tr F1N (FRX.nm kk2 cc2)
      refine ⟨_, rfl, ?_⟩
      refine s_istore (q := 292) (lv' := [(0, _), (1, _), (2, _), (3, _), (4, _)]) hX dX7_readItem_290 rfl (Nat.le_of_ble_eq_true rfl) rfl ?_
      have hI := itm_H (T := T) (tx := tx) (len := len) (pl := pl) (by omega) rfl ha1 ha2
      by_cases hB : (((true && nok tx len (pl + 1) T.P 44) && nok tx len a1 7 44) && nok tx len a2 T.D 59) = true
      · have hB2 := hB
        rw [Bool.true_and] at hB2
        rw [if_pos hB2] at hI
        unfold nok at hB2
        simp only [Bool.and_eq_true, decide_eq_true_eq] at hB2
        have hb1 : nvl tx len (pl + 1) < T.P := by omega
        have hb2 : nvl tx len a1 < 7 := by omega
        refine s_aload_n (q := 293) hX dX7_readItem_292 rfl rfl ?_
        refine s_geti (q := 296) hX dX7_readItem_293 rfl gfl_7_81 (by assumption) rfl ?_
        refine s_topi (v := 1) (by rw [u2, if_pos hB]) ?_
        refine s_if_eq_f (q := 299) (r := 341) hX dX7_readItem_296 rfl rfl (by decide) ?_
        refine s_aload_n (q := 300) hX dX7_readItem_299 rfl rfl ?_
        refine s_getr (q := 303) hX dX7_readItem_300 rfl gfl_7_32 (by assumption) rfl ?_
        refine s_bipush (q := 305) (v := 7) hX dX7_readItem_303 rfl rfl (by decide) ?_
        refine s_bipush (q := 307) (v := 6) hX dX7_readItem_305 rfl rfl (by decide) ?_
        refine s_iload_n (q := 308) hX dX7_readItem_307 rfl rfl ?_
        refine s_iadd (q := 309) (v := nI (6 + (nvl tx len (pl + 1)))) hX dX7_readItem_308 rfl (nI_add (6) (nvl tx len (pl + 1))) ?_
        refine s_imul (q := 310) (v := nI (7 * (6 + (nvl tx len (pl + 1))))) hX dX7_readItem_309 rfl (pk_mul (7) (6 + (nvl tx len (pl + 1)))) ?_
        refine s_iload_n (q := 311) hX dX7_readItem_310 rfl rfl ?_
        refine s_iadd (q := 312) (v := nI (7 * (6 + (nvl tx len (pl + 1))) + (nvl tx len a1))) hX dX7_readItem_311 rfl (nI_add (7 * (6 + (nvl tx len (pl + 1)))) (nvl tx len a1)) ?_
        refine s_iload (q := 314) hX dX7_readItem_312 rfl rfl ?_
        refine s_iast (k := 7 * (6 + (nvl tx len (pl + 1))) + (nvl tx len a1)) (q := 315) hX dX7_readItem_314 rfl (by assumption) rfl (by omega) (by omega) ?_
        refine s_goto (q := 341) hX dX7_readItem_315 rfl ?_
        refine s_ret hX dX7_readItem_341 rfl ⟨Nat.le_refl _, Nat.le_refl _, Nat.le_refl _, ?_⟩
        exact hcon1 _ _ hI _ (F2N.put (by unfold dft; omega)) (by rw [gsr_n _ _ (by decide), t2, ha3]) (by rw [gsr_n _ _ (by decide), u2, if_pos hB]) (TWX.sh (v := w3 (nvl tx len (pl + 1)) (nvl tx len a1) (nvl tx len a2)) (TWX.nm (TWX.nm (TWX.nm D1 cc0) cc1) cc2) hb1 hb2)
      · have hB2 := hB
        rw [Bool.true_and] at hB2
        rw [if_neg hB2] at hI
        refine s_aload_n (q := 293) hX dX7_readItem_292 rfl rfl ?_
        refine s_geti (q := 296) hX dX7_readItem_293 rfl gfl_7_81 (by assumption) rfl ?_
        refine s_topi (v := 0) (by rw [u2, if_neg hB]) ?_
        refine s_if_eq_t (q := 299) (r := 341) hX dX7_readItem_296 rfl rfl (by decide) ?_
        refine s_ret hX dX7_readItem_341 rfl ⟨Nat.le_refl _, Nat.le_refl _, Nat.le_refl _, ?_⟩
        exact hcon0 hI N2 F2N (by rw [u2, if_neg hB])
    refine ⟨fun c21_3 => ?_, fun c21_3 => ?_⟩
    · refine s_to (r := 64) rfl ?_
      refine s_aload_n (q := 65) hX dX7_readItem_64 rfl rfl ?_
      refine s_aload_n (q := 66) hX dX7_readItem_65 rfl rfl ?_
      refine s_getr (q := 69) hX dX7_readItem_66 rfl gfl_7_13 (by assumption) rfl ?_
      refine s_iconst (q := 70) (v := 1) hX dX7_readItem_69 rfl rfl ?_
      refine s_iald (k := 1) (q := 71) hX dX7_readItem_70 rfl (by assumption) rfl (by omega) (by omega) ?_
      refine s_topi (v := nI (T.P)) D1.1 ?_
      refine s_bipush (q := 73) (v := 6) hX dX7_readItem_71 rfl rfl (by decide) ?_
      refine s_nicmp_ge (a := T.P) (b := 6) (q := 76) (r := 80) hX dX7_readItem_73 rfl rfl rfl rfl (by omega) (by omega) (fun c73 => ?_) (fun c73 => ?_)
      · refine s_iconst (q := 81) (v := 0) hX dX7_readItem_80 rfl rfl ?_
        refine s_putz (q := 84) hX dX7_readItem_81 rfl gfl_7_81 (by assumption) rfl (Or.inl rfl) ?_
        refine s_aload_n (q := 85) hX dX7_readItem_84 rfl rfl ?_
        refine s_iconst (q := 86) (v := 0) hX dX7_readItem_85 rfl rfl ?_
        refine s_iconst (q := 87) (v := 4) hX dX7_readItem_86 rfl rfl ?_
        refine s_bipush (q := 89) (v := 44) hX dX7_readItem_87 rfl rfl (by decide) ?_
        refine s_invv3_1 (q := 92) hX dX7_readItem_89 rfl glk_7_85 (by assumption) (Nat.le_of_ble_eq_true rfl) ⟨Nat.le_refl _, Nat.le_refl _⟩ (by omega) (m_number (d := 1) (a := (pl + 1)) (hn := 5) (be := 44) (s := false) (Nat.le_refl _) hC0 (hT.fx (FRX.put F1 (by unfold dft; omega))) hok0 (by rw [gsr_s, pk_un (by decide)]; exact h10) (by omega) (by rw [gsr_s, pk_us]; rfl) rfl (by omega) (by omega) (fun N0 t0 u0 kk0 cc0 => ?_)) 
        obtain ⟨a1, ha1⟩ : ∃ z, z = nxt tx len (pl + 1) := ⟨_, rfl⟩
        rw [← ha1] at t0
        have hl0 := nvl_le tx len (pl + 1)
        have hn0 := nxt_le tx len (pl + 1)
        rw [← ha1] at hn0
        have F0N : FRX M N0 := FRX.tr (FRX.put F1 (by unfold dft; omega)) (FRX.nm kk0 cc0)
        refine ⟨_, rfl, ?_⟩
        refine s_istore_n (q := 93) (lv' := [(0, _), (1, _), (2, _)]) hX dX7_readItem_92 rfl (Nat.le_of_ble_eq_true rfl) rfl ?_
        refine s_aload_n (q := 94) hX dX7_readItem_93 rfl rfl ?_
        refine s_iconst (q := 95) (v := 0) hX dX7_readItem_94 rfl rfl ?_
        refine s_bipush (q := 97) (v := 9) hX dX7_readItem_95 rfl rfl (by decide) ?_
        refine s_bipush (q := 99) (v := 44) hX dX7_readItem_97 rfl rfl (by decide) ?_
        refine s_invv3_1 (q := 102) hX dX7_readItem_99 rfl glk_7_85 (by assumption) (Nat.le_of_ble_eq_true rfl) ⟨Nat.le_refl _, Nat.le_refl _⟩ (by omega) (m_number (d := 1) (a := a1) (hn := 10) (be := 44) (s := (false && nok tx len (pl + 1) 5 44)) (Nat.le_refl _) hC0 (hT.fx F0N) hok0 t0 (by omega) u0 rfl (by omega) (by omega) (fun N1 t1 u1 kk1 cc1 => ?_)) 
        obtain ⟨a2, ha2⟩ : ∃ z, z = nxt tx len a1 := ⟨_, rfl⟩
        rw [← ha2] at t1
        have hl1 := nvl_le tx len a1
        have hn1 := nxt_le tx len a1
        rw [← ha2] at hn1
        have F1N : FRX M N1 := FRX.tr F0N (FRX.nm kk1 cc1)
        refine ⟨_, rfl, ?_⟩
        refine s_istore_n (q := 103) (lv' := [(0, _), (1, _), (2, _), (3, _)]) hX dX7_readItem_102 rfl (Nat.le_of_ble_eq_true rfl) rfl ?_
        refine s_aload_n (q := 104) hX dX7_readItem_103 rfl rfl ?_
        refine s_iconst (q := 105) (v := 0) hX dX7_readItem_104 rfl rfl ?_
        refine s_bipush (q := 107) (v := 9) hX dX7_readItem_105 rfl rfl (by decide) ?_
        refine s_bipush (q := 109) (v := 44) hX dX7_readItem_107 rfl rfl (by decide) ?_
        refine s_invv3_1 (q := 112) hX dX7_readItem_109 rfl glk_7_85 (by assumption) (Nat.le_of_ble_eq_true rfl) ⟨Nat.le_refl _, Nat.le_refl _⟩ (by omega) (m_number (d := 1) (a := a2) (hn := 10) (be := 44) (s := ((false && nok tx len (pl + 1) 5 44) && nok tx len a1 10 44)) (Nat.le_refl _) hC0 (hT.fx F1N) hok0 t1 (by omega) u1 rfl (by omega) (by omega) (fun N2 t2 u2 kk2 cc2 => ?_)) 
        obtain ⟨a3, ha3⟩ : ∃ z, z = nxt tx len a2 := ⟨_, rfl⟩
        rw [← ha3] at t2
        have hl2 := nvl_le tx len a2
        have hn2 := nxt_le tx len a2
        rw [← ha3] at hn2
        have F2N : FRX M N2 := FRX.tr F1N (FRX.nm kk2 cc2)
        refine ⟨_, rfl, ?_⟩
        refine s_istore (q := 114) (lv' := [(0, _), (1, _), (2, _), (3, _), (4, _)]) hX dX7_readItem_112 rfl (Nat.le_of_ble_eq_true rfl) rfl ?_
        refine s_aload_n (q := 115) hX dX7_readItem_114 rfl rfl ?_
        refine s_iconst (q := 116) (v := 0) hX dX7_readItem_115 rfl rfl ?_
        refine s_bipush (q := 118) (v := 9) hX dX7_readItem_116 rfl rfl (by decide) ?_
        refine s_bipush (q := 120) (v := 59) hX dX7_readItem_118 rfl rfl (by decide) ?_
        refine s_invv3_1 (q := 123) hX dX7_readItem_120 rfl glk_7_85 (by assumption) (Nat.le_of_ble_eq_true rfl) ⟨Nat.le_refl _, Nat.le_refl _⟩ (by omega) (m_number (d := 1) (a := a3) (hn := 10) (be := 59) (s := (((false && nok tx len (pl + 1) 5 44) && nok tx len a1 10 44) && nok tx len a2 10 44)) (Nat.le_refl _) hC0 (hT.fx F2N) hok0 t2 (by omega) u2 rfl (by omega) (by omega) (fun N3 t3 u3 kk3 cc3 => ?_)) 
        obtain ⟨a4, ha4⟩ : ∃ z, z = nxt tx len a3 := ⟨_, rfl⟩
        rw [← ha4] at t3
        have hl3 := nvl_le tx len a3
        have hn3 := nxt_le tx len a3
        rw [← ha4] at hn3
        have F3N : FRX M N3 := FRX.tr F2N (FRX.nm kk3 cc3)
        refine ⟨_, rfl, ?_⟩
        refine s_istore (q := 125) (lv' := [(0, _), (1, _), (2, _), (3, _), (4, _), (5, _)]) hX dX7_readItem_123 rfl (Nat.le_of_ble_eq_true rfl) rfl ?_
        have hI := itm_P (T := T) (tx := tx) (len := len) (pl := pl) (by omega) rfl ha1 ha2 ha3
        rw [decide_eq_false (show ¬ T.P < 6 by omega)] at hI
        have hB : ¬ ((((false && nok tx len (pl + 1) 5 44) && nok tx len a1 10 44) && nok tx len a2 10 44) && nok tx len a3 10 59) = true := by simp
        rw [if_neg hB] at hI
        refine s_aload_n (q := 126) hX dX7_readItem_125 rfl rfl ?_
        refine s_geti (q := 129) hX dX7_readItem_126 rfl gfl_7_81 (by assumption) rfl ?_
        refine s_topi (v := 0) (by rw [u3, if_neg hB]) ?_
        refine s_if_eq_t (q := 132) (r := 341) hX dX7_readItem_129 rfl rfl (by decide) ?_
        refine s_ret hX dX7_readItem_341 rfl ⟨Nat.le_refl _, Nat.le_refl _, Nat.le_refl _, ?_⟩
        exact hcon0 hI N3 F3N (by rw [u3, if_neg hB])
      · refine s_iconst (q := 77) (v := 1) hX dX7_readItem_76 rfl rfl ?_
        refine s_goto (q := 81) hX dX7_readItem_77 rfl ?_
        refine s_putz (q := 84) hX dX7_readItem_81 rfl gfl_7_81 (by assumption) rfl (Or.inr rfl) ?_
        refine s_aload_n (q := 85) hX dX7_readItem_84 rfl rfl ?_
        refine s_iconst (q := 86) (v := 0) hX dX7_readItem_85 rfl rfl ?_
        refine s_iconst (q := 87) (v := 4) hX dX7_readItem_86 rfl rfl ?_
        refine s_bipush (q := 89) (v := 44) hX dX7_readItem_87 rfl rfl (by decide) ?_
        refine s_invv3_1 (q := 92) hX dX7_readItem_89 rfl glk_7_85 (by assumption) (Nat.le_of_ble_eq_true rfl) ⟨Nat.le_refl _, Nat.le_refl _⟩ (by omega) (m_number (d := 1) (a := (pl + 1)) (hn := 5) (be := 44) (s := true) (Nat.le_refl _) hC0 (hT.fx (FRX.put F1 (by unfold dft; omega))) hok0 (by rw [gsr_s, pk_un (by decide)]; exact h10) (by omega) (by rw [gsr_s, pk_us]; rfl) rfl (by omega) (by omega) (fun N0 t0 u0 kk0 cc0 => ?_)) 
        obtain ⟨a1, ha1⟩ : ∃ z, z = nxt tx len (pl + 1) := ⟨_, rfl⟩
        rw [← ha1] at t0
        have hl0 := nvl_le tx len (pl + 1)
        have hn0 := nxt_le tx len (pl + 1)
        rw [← ha1] at hn0
        have F0N : FRX M N0 := FRX.tr (FRX.put F1 (by unfold dft; omega)) (FRX.nm kk0 cc0)
        refine ⟨_, rfl, ?_⟩
        refine s_istore_n (q := 93) (lv' := [(0, _), (1, _), (2, _)]) hX dX7_readItem_92 rfl (Nat.le_of_ble_eq_true rfl) rfl ?_
        refine s_aload_n (q := 94) hX dX7_readItem_93 rfl rfl ?_
        refine s_iconst (q := 95) (v := 0) hX dX7_readItem_94 rfl rfl ?_
        refine s_bipush (q := 97) (v := 9) hX dX7_readItem_95 rfl rfl (by decide) ?_
        refine s_bipush (q := 99) (v := 44) hX dX7_readItem_97 rfl rfl (by decide) ?_
        refine s_invv3_1 (q := 102) hX dX7_readItem_99 rfl glk_7_85 (by assumption) (Nat.le_of_ble_eq_true rfl) ⟨Nat.le_refl _, Nat.le_refl _⟩ (by omega) (m_number (d := 1) (a := a1) (hn := 10) (be := 44) (s := (true && nok tx len (pl + 1) 5 44)) (Nat.le_refl _) hC0 (hT.fx F0N) hok0 t0 (by omega) u0 rfl (by omega) (by omega) (fun N1 t1 u1 kk1 cc1 => ?_)) 
        obtain ⟨a2, ha2⟩ : ∃ z, z = nxt tx len a1 := ⟨_, rfl⟩
        rw [← ha2] at t1
        have hl1 := nvl_le tx len a1
        have hn1 := nxt_le tx len a1
        rw [← ha2] at hn1
        have F1N : FRX M N1 := FRX.tr F0N (FRX.nm kk1 cc1)
        refine ⟨_, rfl, ?_⟩
        refine s_istore_n (q := 103) (lv' := [(0, _), (1, _), (2, _), (3, _)]) hX dX7_readItem_102 rfl (Nat.le_of_ble_eq_true rfl) rfl ?_
        refine s_aload_n (q := 104) hX dX7_readItem_103 rfl rfl ?_
        refine s_iconst (q := 105) (v := 0) hX dX7_readItem_104 rfl rfl ?_
        refine s_bipush (q := 107) (v := 9) hX dX7_readItem_105 rfl rfl (by decide) ?_
        refine s_bipush (q := 109) (v := 44) hX dX7_readItem_107 rfl rfl (by decide) ?_
        refine s_invv3_1 (q := 112) hX dX7_readItem_109 rfl glk_7_85 (by assumption) (Nat.le_of_ble_eq_true rfl) ⟨Nat.le_refl _, Nat.le_refl _⟩ (by omega) (m_number (d := 1) (a := a2) (hn := 10) (be := 44) (s := ((true && nok tx len (pl + 1) 5 44) && nok tx len a1 10 44)) (Nat.le_refl _) hC0 (hT.fx F1N) hok0 t1 (by omega) u1 rfl (by omega) (by omega) (fun N2 t2 u2 kk2 cc2 => ?_)) 
        obtain ⟨a3, ha3⟩ : ∃ z, z = nxt tx len a2 := ⟨_, rfl⟩
        rw [← ha3] at t2
        have hl2 := nvl_le tx len a2
        have hn2 := nxt_le tx len a2
        rw [← ha3] at hn2
        have F2N : FRX M N2 := FRX.tr F1N (FRX.nm kk2 cc2)
        refine ⟨_, rfl, ?_⟩
        refine s_istore (q := 114) (lv' := [(0, _), (1, _), (2, _), (3, _), (4, _)]) hX dX7_readItem_112 rfl (Nat.le_of_ble_eq_true rfl) rfl ?_
        refine s_aload_n (q := 115) hX dX7_readItem_114 rfl rfl ?_
        refine s_iconst (q := 116) (v := 0) hX dX7_readItem_115 rfl rfl ?_
        refine s_bipush (q := 118) (v := 9) hX dX7_readItem_116 rfl rfl (by decide) ?_
        refine s_bipush (q := 120) (v := 59) hX dX7_readItem_118 rfl rfl (by decide) ?_
        refine s_invv3_1 (q := 123) hX dX7_readItem_120 rfl glk_7_85 (by assumption) (Nat.le_of_ble_eq_true rfl) ⟨Nat.le_refl _, Nat.le_refl _⟩ (by omega) (m_number (d := 1) (a := a3) (hn := 10) (be := 59) (s := (((true && nok tx len (pl + 1) 5 44) && nok tx len a1 10 44) && nok tx len a2 10 44)) (Nat.le_refl _) hC0 (hT.fx F2N) hok0 t2 (by omega) u2 rfl (by omega) (by omega) (fun N3 t3 u3 kk3 cc3 => ?_)) 
        obtain ⟨a4, ha4⟩ : ∃ z, z = nxt tx len a3 := ⟨_, rfl⟩
        rw [← ha4] at t3
        have hl3 := nvl_le tx len a3
        have hn3 := nxt_le tx len a3
        rw [← ha4] at hn3
        have F3N : FRX M N3 := FRX.tr F2N (FRX.nm kk3 cc3)
        refine ⟨_, rfl, ?_⟩
        refine s_istore (q := 125) (lv' := [(0, _), (1, _), (2, _), (3, _), (4, _), (5, _)]) hX dX7_readItem_123 rfl (Nat.le_of_ble_eq_true rfl) rfl ?_
        have hI := itm_P (T := T) (tx := tx) (len := len) (pl := pl) (by omega) rfl ha1 ha2 ha3
        rw [decide_eq_true (show T.P < 6 by omega)] at hI
        by_cases hB : ((((true && nok tx len (pl + 1) 5 44) && nok tx len a1 10 44) && nok tx len a2 10 44) && nok tx len a3 10 59) = true
        · rw [if_pos hB] at hI
          refine s_aload_n (q := 126) hX dX7_readItem_125 rfl rfl ?_
          refine s_geti (q := 129) hX dX7_readItem_126 rfl gfl_7_81 (by assumption) rfl ?_
          refine s_topi (v := 1) (by rw [u3, if_pos hB]) ?_
          refine s_if_eq_f (q := 132) (r := 341) hX dX7_readItem_129 rfl rfl (by decide) ?_
          refine s_aload_n (q := 133) hX dX7_readItem_132 rfl rfl ?_
          refine s_iload_n (q := 134) hX dX7_readItem_133 rfl rfl ?_
          refine s_iload_n (q := 135) hX dX7_readItem_134 rfl rfl ?_
          refine s_iload (q := 137) hX dX7_readItem_135 rfl rfl ?_
          refine s_iload (q := 139) hX dX7_readItem_137 rfl rfl ?_
          refine s_invv4_0 (q := 142) hX dX7_readItem_139 rfl glk_7_56 (by assumption) (Nat.le_of_ble_eq_true rfl) ⟨Nat.le_refl _, Nat.le_refl _⟩ (by omega) (m_firstPerson (d := 0) (T := T) (v := w4 (nvl tx len (pl + 1)) (nvl tx len a1) (nvl tx len a2) (nvl tx len a3)) hC0 (TWX.nm (TWX.nm (TWX.nm (TWX.nm (TWX.nm D1 (fun c z => gsr_n _ _ z)) cc0) cc1) cc2) cc3) hdr0 (by omega) rfl rfl rfl rfl (fun N9 d9 f9 e9 => ?_)) 
          refine ⟨rfl, ?_⟩
          refine s_goto (q := 341) hX dX7_readItem_142 rfl ?_
          refine s_ret hX dX7_readItem_341 rfl ⟨Nat.le_refl _, Nat.le_refl _, Nat.le_refl _, ?_⟩
          exact hcon1 _ _ hI N9 (F3N.tr f9) (by rw [e9, t3, ha4]) (by rw [e9, u3, if_pos hB]) d9
        · rw [if_neg hB] at hI
          refine s_aload_n (q := 126) hX dX7_readItem_125 rfl rfl ?_
          refine s_geti (q := 129) hX dX7_readItem_126 rfl gfl_7_81 (by assumption) rfl ?_
          refine s_topi (v := 0) (by rw [u3, if_neg hB]) ?_
          refine s_if_eq_t (q := 132) (r := 341) hX dX7_readItem_129 rfl rfl (by decide) ?_
          refine s_ret hX dX7_readItem_341 rfl ⟨Nat.le_refl _, Nat.le_refl _, Nat.le_refl _, ?_⟩
          exact hcon0 hI N3 F3N (by rw [u3, if_neg hB])
    refine s_to (r := 336) rfl ?_
    refine s_aload_n (q := 337) hX dX7_readItem_336 rfl rfl ?_
    refine s_iconst (q := 338) (v := 0) hX dX7_readItem_337 rfl rfl ?_
    refine s_putz (q := 341) hX dX7_readItem_338 rfl gfl_7_81 (by assumption) rfl (Or.inl rfl) ?_
    refine s_ret hX dX7_readItem_341 rfl ⟨Nat.le_refl _, Nat.le_refl _, Nat.le_refl _, ?_⟩
    exact hcon0 (itm_X (by omega) (by omega) (by omega) (by omega)) _ (F1.put (by unfold dft; omega)) (by rw [gsr_s, pk_us])
  refine s_aload_n (q := 1) hX dX7_readItem_0 rfl rfl ?_
  refine s_invv0_1 (q := 4) hX dX7_readItem_1 rfl glk_7_77 (by assumption) (Nat.le_of_ble_eq_true rfl) ⟨Nat.le_refl _, Nat.le_refl _⟩ (by omega) (m_here (d := 0) (a := pl) hC0 hT hat (by omega) (by omega) (fun hq => ?_) (fun _ => ?_)) 
  · exact absurd hlt hq
  · refine ⟨_, rfl, ?_⟩
    refine s_istore_n (q := 5) (lv' := [(0, _), (1, _)]) hX dX7_readItem_4 rfl (Nat.le_of_ble_eq_true rfl) rfl ?_
    refine s_aload_n (q := 6) hX dX7_readItem_5 rfl rfl ?_
    refine s_dup (q := 7) hX dX7_readItem_6 rfl rfl ?_
    refine s_geti (q := 10) hX dX7_readItem_7 rfl gfl_7_74 (by assumption) rfl ?_
    refine s_topi (v := nI (pl)) hat ?_
    refine s_iconst (q := 11) (v := 1) hX dX7_readItem_10 rfl rfl ?_
    refine s_iadd (q := 12) (v := nI (pl + 1)) hX dX7_readItem_11 rfl (nI_add (pl) (1)) ?_
    refine s_puti (q := 15) hX dX7_readItem_12 rfl gfl_7_74 (by assumption) rfl ?_
    refine s_aload_n (q := 16) hX dX7_readItem_15 rfl rfl ?_
    refine s_iconst (q := 17) (v := 1) hX dX7_readItem_16 rfl rfl ?_
    refine s_putz (q := 20) hX dX7_readItem_17 rfl gfl_7_81 (by assumption) rfl (Or.inr rfl) ?_
    refine G _ ?_ ?_ ((FRX.rf.put (by unfold dft; omega)).put (by unfold dft; omega)) (TWX.nm (TWX.nm hD (fun c z => gsr_n _ _ z)) (fun c z => gsr_n _ _ z))
    · rw [gsr_s, pk_un (by decide), gsr_s, pk_us]
    · rw [gsr_s, pk_us]
