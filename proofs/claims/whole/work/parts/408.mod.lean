theorem gdraw2 {z k i : Nat} (hz : z ≤ 9999) (hk : k ≤ 60) (hi : i ≤ 6) : (lrm ((7919 * (nI z).toInt64 + 6151 * (nI k).toInt64 + 331 * (nI i).toInt64 + 1) * (7919 * (nI z).toInt64 + 6151 * (nI k).toInt64 + 331 * (nI i).toInt64 + 1)) 65521).toInt32 / 8 = nI (drawN z k i) := by
  rw [nI_l (by omega), nI_l (by omega), nI_l (by omega)]
  have e : (7919 * lN z + 6151 * lN k + 331 * lN i + 1 : Int64) = lN (7919 * z + 6151 * k + 331 * i + 1) := by
    rw [show (7919 : Int64) = lN 7919 from rfl, show (6151 : Int64) = lN 6151 from rfl, show (331 : Int64) = lN 331 from rfl, show (1 : Int64) = lN 1 from rfl, lN_mul, lN_mul, lN_mul, lN_add, lN_add, lN_add]
  have hb : 7919 * z + 6151 * k + 331 * i + 1 ≤ 80000000 := by omega
  have hb2 : (7919 * z + 6151 * k + 331 * i + 1) * (7919 * z + 6151 * k + 331 * i + 1) ≤ 80000000 * 80000000 := Nat.mul_le_mul hb hb
  have hr : ∀ n : Nat, n % 65521 < 65521 := fun n => Nat.mod_lt _ (by decide)
  rw [e, lN_mul, lrm, show (65521 : Int64) = lN 65521 from rfl]
  rw [pk_lRem (Nat.lt_of_le_of_lt hb2 (by decide)) (by decide) (by decide), lN_i, show (8 : Int32) = nI 8 from rfl, pk_div (Nat.lt_trans (hr _) (by decide)) (by decide) (by decide)]
  rfl
theorem sumI_sub (f g : Nat → Int32) : ∀ n, sumI (fun i => f i - g i) n = sumI f n - sumI g n
  | 0 => by show (0 : Int32) = 0 - 0; decide
  | n + 1 => by
    show sumI (fun i => f i - g i) n + (f n - g n) = (sumI f n + f n) - (sumI g n + g n)
    rw [sumI_sub f g n]
    simp only [Int32.sub_eq_add_neg, Int32.neg_add]
    ac_rfl
set_option maxHeartbeats 4000000 in
set_option maxRecDepth 100000 in
theorem p_year {d b : Nat} {x y z : Int32} {S : gA} {sh : List gS} {M : gM} {Q : Option Value → List gS → gM → Prop} (hd : 3 ≤ d) (hC : isMod sh) (hS : MOD M S) (hk : S.ok b) (hb : b ≤ 20000) (hcon : kM sh M (S.year x y z) Q) : gC mX7_year d 0 0 [.ref 83, .int x, .int y, .int z] sh M Q := by
  have hC0 := hC
  obtain ⟨y0, y1, y2, y3, y4, y5, y6, y7, y8, y9, y10, y11, y12, y13, y14, y15⟩ := hC
  have hS0 := hS
  have hk0 := hk
  obtain ⟨⟨a1, a1x⟩, a2, a3, ⟨a4, a4x⟩, ⟨a5, a5x⟩, a6⟩ := hS
  obtain ⟨g1, g2, g3, g4, g5, g6, g7⟩ := hk
  have g0 := g1
  obtain ⟨o1, o2, o3, o4, o5, o6, o7, o8⟩ := g0
  refine gC_of (rt := 1) (ini := false) gm_X7_year rfl (by decide) (Nat.le_of_ble_eq_true rfl) (fun X hX => ?_)
  refine s_iload_n (q := 1) hX dX7_year_0 rfl rfl ?_
  refine s_iconst (q := 2) (v := 0) hX dX7_year_1 rfl rfl ?_
  refine s_sipush (q := 5) (v := 9999) hX dX7_year_2 rfl rfl (by decide) ?_
  refine s_invs3_1 (q := 8) hX dX7_year_5 rfl glk_7_66 (by decide) (Nat.le_of_ble_eq_true rfl) ⟨Nat.le_refl _, Nat.le_refl _⟩ (by omega) (m_rng (d := 0) (x := x) (lo := 0) (n := 10000) rfl rfl (by decide) (by decide) (fun rx => ?_) (fun q rx lq hq eq => ?_)) 
  · refine ⟨_, rfl, ?_⟩
    refine s_if_eq_t (q := 11) (r := 30) hX dX7_year_8 rfl rfl (by decide) ?_
    refine s_iconst (q := 31) (v := (-1)) hX dX7_year_30 rfl rfl ?_
    refine s_iret hX dX7_year_31 (Or.inl rfl) ⟨Nat.le_refl _, Nat.le_refl _, Nat.le_refl _, ?_⟩
    exact hcon.ret (by first | (unfold gA.year; rw [rx]; dsimp only; rw [ry]; dsimp only; rw [rw]) | (unfold gA.year; rw [rx]; dsimp only; rw [ry]) | (unfold gA.year; rw [rx])) hS0 (fun _ _ => rfl)
  · subst eq
    refine ⟨_, rfl, ?_⟩
    refine s_if_eq_f (q := 11) (r := 30) hX dX7_year_8 rfl rfl (by decide) ?_
    refine s_iload_n (q := 12) hX dX7_year_11 rfl rfl ?_
    refine s_iconst (q := 13) (v := 1) hX dX7_year_12 rfl rfl ?_
    refine s_bipush (q := 15) (v := 60) hX dX7_year_13 rfl rfl (by decide) ?_
    refine s_invs3_1 (q := 18) hX dX7_year_15 rfl glk_7_66 (by decide) (Nat.le_of_ble_eq_true rfl) ⟨Nat.le_refl _, Nat.le_refl _⟩ (by omega) (m_rng (d := 0) (x := y) (lo := 1) (n := 61) rfl rfl (by decide) (by decide) (fun ry => ?_) (fun n ry ln hn en => ?_)) 
    · refine ⟨_, rfl, ?_⟩
      refine s_if_eq_t (q := 21) (r := 30) hX dX7_year_18 rfl rfl (by decide) ?_
      refine s_iconst (q := 31) (v := (-1)) hX dX7_year_30 rfl rfl ?_
      refine s_iret hX dX7_year_31 (Or.inl rfl) ⟨Nat.le_refl _, Nat.le_refl _, Nat.le_refl _, ?_⟩
      exact hcon.ret (by first | (unfold gA.year; rw [rx]; dsimp only; rw [ry]; dsimp only; rw [rw]) | (unfold gA.year; rw [rx]; dsimp only; rw [ry]) | (unfold gA.year; rw [rx])) hS0 (fun _ _ => rfl)
    · subst en
      refine ⟨_, rfl, ?_⟩
      refine s_if_eq_f (q := 21) (r := 30) hX dX7_year_18 rfl rfl (by decide) ?_
      refine s_iload_n (q := 22) hX dX7_year_21 rfl rfl ?_
      refine s_iconst (q := 23) (v := 0) hX dX7_year_22 rfl rfl ?_
      refine s_iconst (q := 24) (v := 1) hX dX7_year_23 rfl rfl ?_
      refine s_invs3_1 (q := 27) hX dX7_year_24 rfl glk_7_66 (by decide) (Nat.le_of_ble_eq_true rfl) ⟨Nat.le_refl _, Nat.le_refl _⟩ (by omega) (m_rng (d := 0) (x := z) (lo := 0) (n := 2) rfl rfl (by decide) (by decide) (fun rw => ?_) (fun w rw lw hw ew => ?_)) 
      · refine ⟨_, rfl, ?_⟩
        refine s_if_ne_f (q := 30) (r := 32) hX dX7_year_27 rfl rfl (by decide) ?_
        refine s_iconst (q := 31) (v := (-1)) hX dX7_year_30 rfl rfl ?_
        refine s_iret hX dX7_year_31 (Or.inl rfl) ⟨Nat.le_refl _, Nat.le_refl _, Nat.le_refl _, ?_⟩
        exact hcon.ret (by first | (unfold gA.year; rw [rx]; dsimp only; rw [ry]; dsimp only; rw [rw]) | (unfold gA.year; rw [rx]; dsimp only; rw [ry]) | (unfold gA.year; rw [rx])) hS0 (fun _ _ => rfl)
      · subst ew
        refine ⟨_, rfl, ?_⟩
        refine s_if_ne_t (q := 30) (r := 32) hX dX7_year_27 rfl rfl (by decide) ?_
        refine s_aload_n (q := 33) hX dX7_year_32 rfl rfl ?_
        refine s_iconst (q := 34) (v := 0) hX dX7_year_33 rfl rfl ?_
        refine s_sipush (q := 37) (v := 341) hX dX7_year_34 rfl rfl (by decide) ?_
        refine s_invv2_0 (q := 40) hX dX7_year_37 rfl glk_7_131 (by assumption) (Nat.le_of_ble_eq_true rfl) ⟨Nat.le_refl _, Nat.le_refl _⟩ (by omega) (m_copy (d := 0) (f := 0) (t := 341) hC0 (by omega) (by omega) (by omega) (fun M1 f1 f2 f3 => ?_)) 
        refine ⟨rfl, ?_⟩
        refine s_iconst (q := 41) (v := 0) hX dX7_year_40 rfl rfl ?_
        refine s_istore (q := 43) (lv' := [(0, _), (1, _), (2, _), (3, _), (4, _)]) hX dX7_year_41 rfl (Nat.le_of_ble_eq_true rfl) rfl ?_
        refine s_iconst (q := 44) (v := 0) hX dX7_year_43 rfl rfl ?_
        refine s_istore (q := 46) (lv' := [(0, _), (1, _), (2, _), (3, _), (4, _), (5, _)]) hX dX7_year_44 rfl (Nat.le_of_ble_eq_true rfl) rfl ?_
        have L : ∀ (m k : Nat) (M' : gM), k + m = n → TRM M M' S (S.T.yr q k S.U).2 → X 46 [(0, .ref 83), (1, .int (nI q)), (2, .int (nI n)), (3, .int (nI w)), (4, .int (nI (S.T.yr q k S.U).1)), (5, .int (nI k))] [] sh M' 0 0 := by
          intro m
          induction m with
          | zero =>
            intro k M' h1 h5
            have e : k = n := by omega
            subst e
            obtain ⟨h6, h7, h8⟩ := h5
            have hU0 : STM M' 0 S.T.P S.U := h6.2.2.1
            obtain ⟨G, hG⟩ : ∃ G, G = (S.T.yr q k S.U).1 := ⟨_, rfl⟩
            obtain ⟨V, hV⟩ : ∃ V, V = (S.T.yr q k S.U).2 := ⟨_, rfl⟩
            rw [← hG]
            rw [← hV] at h7
            have I3 : ∀ (p i : Nat), i + p = S.T.P → X 213 [(0, .ref 83), (1, .int (nI q)), (2, .int (nI k)), (3, .int (nI w)), (4, .int (nI G)), (5, .int (sumI (fun i => V.w i - S.U.w i) i)), (6, .int (nI i))] [] sh M' 0 0 := by
              intro p
              induction p with
              | zero =>
                intro i hi
                have e : i = S.T.P := by omega
                rw [e]
                refine s_iload (q := 215) hX dX7_year_213 rfl rfl ?_
                refine s_aload_n (q := 216) hX dX7_year_215 rfl rfl ?_
                refine s_getr (q := 219) hX dX7_year_216 rfl gfl_7_13 (by assumption) rfl ?_
                refine s_iconst (q := 220) (v := 0) hX dX7_year_219 rfl rfl ?_
                refine s_iald (k := 0) (q := 221) hX dX7_year_220 rfl (by assumption) rfl (by omega) (by omega) ?_
                refine s_topi (v := nI (S.T.P)) h6.2.1.1 ?_
                refine s_icmp_ge_t (q := 224) (r := 257) hX dX7_year_221 rfl rfl (Int32.le_refl _) ?_
                refine s_iload_n (q := 258) hX dX7_year_257 rfl rfl ?_
                refine s_nif_ne (a := w) (b := 0) (q := 261) (r := 266) hX dX7_year_258 rfl rfl rfl rfl (by omega) (by omega) (fun c258 => ?_) (fun c258 => ?_)
                · refine s_iload (q := 268) hX dX7_year_266 rfl rfl ?_
                  refine s_iret hX dX7_year_268 (Or.inl rfl) ⟨Nat.le_refl _, Nat.le_refl _, Nat.le_refl _, ?_⟩
                  exact hcon.ret (by unfold gA.year; rw [rx]; dsimp only; rw [ry]; dsimp only; rw [rw]; dsimp only; rw [if_neg (by omega)]; rw [sumI_sub, hV]) h6 h8
                · refine s_iload (q := 263) hX dX7_year_261 rfl rfl ?_
                  refine s_goto (q := 268) hX dX7_year_263 rfl ?_
                  refine s_iret hX dX7_year_268 (Or.inl rfl) ⟨Nat.le_refl _, Nat.le_refl _, Nat.le_refl _, ?_⟩
                  exact hcon.ret (by unfold gA.year; rw [rx]; dsimp only; rw [ry]; dsimp only; rw [rw]; dsimp only; rw [if_pos (by omega)]; rw [hG]) h6 h8
              | succ p ihp =>
                intro i hi
                have q1 : M' 93 (366 + i) = V.w i := h7.2.2.2 i (by omega)
                have q2 : M' 93 (25 + i) = S.U.w i := by
                  have := hU0.2.2.2 i (by omega)
                  rw [show 0 + 25 + i = 25 + i by omega] at this
                  exact this
                refine s_iload (q := 215) hX dX7_year_213 rfl rfl ?_
                refine s_aload_n (q := 216) hX dX7_year_215 rfl rfl ?_
                refine s_getr (q := 219) hX dX7_year_216 rfl gfl_7_13 (by assumption) rfl ?_
                refine s_iconst (q := 220) (v := 0) hX dX7_year_219 rfl rfl ?_
                refine s_iald (k := 0) (q := 221) hX dX7_year_220 rfl (by assumption) rfl (by omega) (by omega) ?_
                refine s_topi (v := nI (S.T.P)) h6.2.1.1 ?_
                refine s_icmp_ge_f (q := 224) (r := 257) hX dX7_year_221 rfl rfl (Int32.not_le.mpr (nI_lt (by omega) (by omega))) ?_
                refine s_iload (q := 226) hX dX7_year_224 rfl rfl ?_
                refine s_aload_n (q := 227) hX dX7_year_226 rfl rfl ?_
                refine s_getr (q := 230) hX dX7_year_227 rfl gfl_7_38 (by assumption) rfl ?_
                refine s_sipush (q := 233) (v := 366) hX dX7_year_230 rfl rfl (by decide) ?_
                refine s_iload (q := 235) hX dX7_year_233 rfl rfl ?_
                refine s_iadd (q := 236) (v := nI (366 + i)) hX dX7_year_235 rfl (nI_add (366) (i)) ?_
                refine s_iald (k := 366 + i) (q := 237) hX dX7_year_236 rfl (by assumption) rfl (by omega) (by omega) ?_
                refine s_aload_n (q := 238) hX dX7_year_237 rfl rfl ?_
                refine s_getr (q := 241) hX dX7_year_238 rfl gfl_7_38 (by assumption) rfl ?_
                refine s_bipush (q := 243) (v := 25) hX dX7_year_241 rfl rfl (by decide) ?_
                refine s_iload (q := 245) hX dX7_year_243 rfl rfl ?_
                refine s_iadd (q := 246) (v := nI (25 + i)) hX dX7_year_245 rfl (nI_add (25) (i)) ?_
                refine s_iald (k := 25 + i) (q := 247) hX dX7_year_246 rfl (by assumption) rfl (by omega) (by omega) ?_
                refine s_isub (q := 248) hX dX7_year_247 rfl rfl ?_
                refine s_iadd (q := 249) hX dX7_year_248 rfl rfl ?_
                refine s_istore (q := 251) (lv' := [(0, _), (1, _), (2, _), (3, _), (4, _), (5, _), (6, _)]) hX dX7_year_249 rfl (Nat.le_of_ble_eq_true rfl) rfl ?_
                refine s_iinc (q := 254) (v := nI (i + 1)) (lv' := [(0, _), (1, _), (2, _), (3, _), (4, _), (5, _), (6, _)]) hX dX7_year_251 rfl rfl (nI_add (i) 1) (Nat.le_of_ble_eq_true rfl) rfl ?_
                refine s_goto (q := 213) hX dX7_year_254 rfl ?_
                rw [q1, q2]
                exact ihp (i + 1) (by omega)
            refine s_iload (q := 48) hX dX7_year_46 rfl rfl ?_
            refine s_iload_n (q := 49) hX dX7_year_48 rfl rfl ?_
            refine s_icmp_ge_t (q := 52) (r := 207) hX dX7_year_49 rfl rfl (Int32.le_refl _) ?_
            refine s_iconst (q := 208) (v := 0) hX dX7_year_207 rfl rfl ?_
            refine s_istore (q := 210) (lv' := [(0, _), (1, _), (2, _), (3, _), (4, _), (5, _)]) hX dX7_year_208 rfl (Nat.le_of_ble_eq_true rfl) rfl ?_
            refine s_iconst (q := 211) (v := 0) hX dX7_year_210 rfl rfl ?_
            refine s_istore (q := 213) (lv' := [(0, _), (1, _), (2, _), (3, _), (4, _), (5, _), (6, _)]) hX dX7_year_211 rfl (Nat.le_of_ble_eq_true rfl) rfl ?_
            exact I3 S.T.P 0 (by omega)
          | succ m ih =>
            intro k M' h1 h5
            obtain ⟨k1, k2, k3⟩ := S.T.yr_ok (z := q) g3.1 k (by omega)
            have k4 : S.T.P * k ≤ 6 * 60 := Nat.mul_le_mul o1 (by omega)
            obtain ⟨G, hG⟩ : ∃ G, G = (S.T.yr q k S.U).1 := ⟨_, rfl⟩
            obtain ⟨V, hV⟩ : ∃ V, V = (S.T.yr q k S.U).2 := ⟨_, rfl⟩
            have hY : S.T.yr q (k + 1) S.U = (G + (S.T.sea (S.T.drw q k S.T.P V)).gc S.T.P, S.T.over (S.T.sea (S.T.drw q k S.T.P V))) := by rw [hG, hV]; rfl
            have ih2 := ih (k + 1)
            rw [hY] at ih2
            dsimp only at ih2
            rw [← hG]
            rw [← hG] at k3
            rw [← hV] at h5 k1 k2
            obtain ⟨t1, t2⟩ := S.T.drw_ok (z := q) (k := k) k1 S.T.P
            have t3 := S.T.sea_ok t1
            obtain ⟨W, hW⟩ : ∃ W, W = S.T.sea (S.T.drw q k S.T.P V) := ⟨_, rfl⟩
            rw [← hW] at t3 ih2
            have hWd : W.d = V.d := by rw [hW]; exact t2
            have I2 : ∀ (M1 : gM), TRM M M1 S W → ∀ (p i : Nat), i + p = S.T.P → X 155 [(0, .ref 83), (1, .int (nI q)), (2, .int (nI n)), (3, .int (nI w)), (4, .int (nI (G + W.gc i))), (5, .int (nI k)), (6, .int (nI i))] [] sh M1 0 0 := by
              intro M1 hm p
              induction p with
              | zero =>
                intro i hi
                have e : i = S.T.P := by omega
                rw [e]
                refine s_iload (q := 157) hX dX7_year_155 rfl rfl ?_
                refine s_aload_n (q := 158) hX dX7_year_157 rfl rfl ?_
                refine s_getr (q := 161) hX dX7_year_158 rfl gfl_7_13 (by assumption) rfl ?_
                refine s_iconst (q := 162) (v := 0) hX dX7_year_161 rfl rfl ?_
                refine s_iald (k := 0) (q := 163) hX dX7_year_162 rfl (by assumption) rfl (by omega) (by omega) ?_
                refine s_topi (v := nI (S.T.P)) hm.1.2.1.1 ?_
                refine s_icmp_ge_t (q := 166) (r := 194) hX dX7_year_163 rfl rfl (Int32.le_refl _) ?_
                refine s_aload_n (q := 195) hX dX7_year_194 rfl rfl ?_
                refine s_sipush (q := 198) (v := 341) hX dX7_year_195 rfl rfl (by decide) ?_
                refine s_invv1_0 (q := 201) hX dX7_year_198 rfl glk_7_144 (by assumption) (Nat.le_of_ble_eq_true rfl) ⟨Nat.le_refl _, Nat.le_refl _⟩ (by omega) (m_over (d := 0) (a := 341) (T := S.T) (U := W) hC0 hm.1.2.1 g1 hm.2.1 t3 (by omega) (fun M3 f3 u3 => ?_)) 
                refine ⟨rfl, ?_⟩
                refine s_iinc (q := 204) (v := nI (k + 1)) (lv' := [(0, _), (1, _), (2, _), (3, _), (4, _), (5, _), (6, _)]) hX dX7_year_201 rfl rfl (nI_add (k) 1) (Nat.le_of_ble_eq_true rfl) rfl ?_
                refine s_goto (q := 46) hX dX7_year_204 rfl ?_
                exact s_dl hX (ih2 M3 (by omega) (hm.st o1 g4.1 g5.1 f3 u3))
              | succ p ihp =>
                intro i hi
                have hhu := hueN_lt (W.tr i)
                have hgl := W.gc_le i
                have hgc : W.gc (i + 1) = W.gc i + (if hueN (W.tr i) = 0 then 1 else 0) := rfl
                have hx := ihp (i + 1) (by omega)
                rw [hgc] at hx
                refine s_iload (q := 157) hX dX7_year_155 rfl rfl ?_
                refine s_aload_n (q := 158) hX dX7_year_157 rfl rfl ?_
                refine s_getr (q := 161) hX dX7_year_158 rfl gfl_7_13 (by assumption) rfl ?_
                refine s_iconst (q := 162) (v := 0) hX dX7_year_161 rfl rfl ?_
                refine s_iald (k := 0) (q := 163) hX dX7_year_162 rfl (by assumption) rfl (by omega) (by omega) ?_
                refine s_topi (v := nI (S.T.P)) hm.1.2.1.1 ?_
                refine s_icmp_ge_f (q := 166) (r := 194) hX dX7_year_163 rfl rfl (Int32.not_le.mpr (nI_lt (by omega) (by omega))) ?_
                refine s_iload (q := 168) hX dX7_year_166 rfl rfl ?_
                refine s_aload_n (q := 169) hX dX7_year_168 rfl rfl ?_
                refine s_sipush (q := 172) (v := 341) hX dX7_year_169 rfl rfl (by decide) ?_
                refine s_iload (q := 174) hX dX7_year_172 rfl rfl ?_
                refine s_invv2_1 (q := 177) hX dX7_year_174 rfl glk_7_108 (by assumption) (Nat.le_of_ble_eq_true rfl) ⟨Nat.le_refl _, Nat.le_refl _⟩ (by omega) (m_hue (d := 0) (a := 341) (T := S.T) (U := W) hC0 hm.1.2.1 g1 hm.2.1 t3 (by omega) (by omega) ?_) 
                refine ⟨_, rfl, ?_⟩
                refine s_nif_ne (a := hueN (W.tr i)) (b := 0) (q := 180) (r := 184) hX dX7_year_177 rfl rfl rfl rfl (by omega) (by omega) (fun c177 => ?_) (fun c177 => ?_)
                · refine s_iconst (q := 185) (v := 0) hX dX7_year_184 rfl rfl ?_
                  refine s_iadd (q := 186) (v := nI (G + W.gc i + 0)) hX dX7_year_185 rfl (nI_add (G + W.gc i) (0)) ?_
                  refine s_istore (q := 188) (lv' := [(0, _), (1, _), (2, _), (3, _), (4, _), (5, _), (6, _)]) hX dX7_year_186 rfl (Nat.le_of_ble_eq_true rfl) rfl ?_
                  refine s_iinc (q := 191) (v := nI (i + 1)) (lv' := [(0, _), (1, _), (2, _), (3, _), (4, _), (5, _), (6, _)]) hX dX7_year_188 rfl rfl (nI_add (i) 1) (Nat.le_of_ble_eq_true rfl) rfl ?_
                  refine s_goto (q := 155) hX dX7_year_191 rfl ?_
                  rw [if_neg (by omega)] at hx
                  exact hx
                · refine s_iconst (q := 181) (v := 1) hX dX7_year_180 rfl rfl ?_
                  refine s_goto (q := 185) hX dX7_year_181 rfl ?_
                  refine s_iadd (q := 186) (v := nI (G + W.gc i + 1)) hX dX7_year_185 rfl (nI_add (G + W.gc i) (1)) ?_
                  refine s_istore (q := 188) (lv' := [(0, _), (1, _), (2, _), (3, _), (4, _), (5, _), (6, _)]) hX dX7_year_186 rfl (Nat.le_of_ble_eq_true rfl) rfl ?_
                  refine s_iinc (q := 191) (v := nI (i + 1)) (lv' := [(0, _), (1, _), (2, _), (3, _), (4, _), (5, _), (6, _)]) hX dX7_year_188 rfl rfl (nI_add (i) 1) (Nat.le_of_ble_eq_true rfl) rfl ?_
                  refine s_goto (q := 155) hX dX7_year_191 rfl ?_
                  rw [if_pos (by omega)] at hx
                  exact hx
            have I1 : ∀ (p i : Nat) (M1 : gM), i + p = S.T.P → TRM M M1 S (S.T.drw q k i V) → X 55 [(0, .ref 83), (1, .int (nI q)), (2, .int (nI n)), (3, .int (nI w)), (4, .int (nI G)), (5, .int (nI k)), (6, .int (nI i))] [] sh M1 0 0 := by
              intro p
              induction p with
              | zero =>
                intro i M1 hi hm
                have e : i = S.T.P := by omega
                rw [e] at hm ⊢
                refine s_iload (q := 57) hX dX7_year_55 rfl rfl ?_
                refine s_aload_n (q := 58) hX dX7_year_57 rfl rfl ?_
                refine s_getr (q := 61) hX dX7_year_58 rfl gfl_7_13 (by assumption) rfl ?_
                refine s_iconst (q := 62) (v := 0) hX dX7_year_61 rfl rfl ?_
                refine s_iald (k := 0) (q := 63) hX dX7_year_62 rfl (by assumption) rfl (by omega) (by omega) ?_
                refine s_topi (v := nI (S.T.P)) hm.1.2.1.1 ?_
                refine s_icmp_ge_t (q := 66) (r := 145) hX dX7_year_63 rfl rfl (Int32.le_refl _) ?_
                refine s_aload_n (q := 146) hX dX7_year_145 rfl rfl ?_
                refine s_sipush (q := 149) (v := 341) hX dX7_year_146 rfl rfl (by decide) ?_
                refine s_invv1_0 (q := 152) hX dX7_year_149 rfl glk_7_141 (by assumption) (Nat.le_of_ble_eq_true rfl) ⟨Nat.le_refl _, Nat.le_refl _⟩ (by omega) (m_seaAll (d := 1) (a := 341) (T := S.T) (U := S.T.drw q k S.T.P V) (Nat.le_refl _) hC0 hm.1.2.1 g1 hm.2.1 t1 (by omega) (fun M2 f2 u2 => ?_)) 
                refine ⟨rfl, ?_⟩
                refine s_iconst (q := 153) (v := 0) hX dX7_year_152 rfl rfl ?_
                refine s_istore (q := 155) (lv' := [(0, _), (1, _), (2, _), (3, _), (4, _), (5, _), (6, _)]) hX dX7_year_153 rfl (Nat.le_of_ble_eq_true rfl) rfl ?_
                rw [← hW] at u2
                exact I2 M2 (hm.st o1 g4.1 g5.1 f2 u2) S.T.P 0 (by omega)
              | succ p ihp =>
                intro i M1 hi hm
                obtain ⟨e1, e2⟩ := S.T.drw_ok (z := q) (k := k) k1 i
                have hdl := drawN_lt q k i
                have hml : drawN q k i % (S.T.D + 1) < S.T.D + 1 := Nat.mod_lt _ (by omega)
                refine s_iload (q := 57) hX dX7_year_55 rfl rfl ?_
                refine s_aload_n (q := 58) hX dX7_year_57 rfl rfl ?_
                refine s_getr (q := 61) hX dX7_year_58 rfl gfl_7_13 (by assumption) rfl ?_
                refine s_iconst (q := 62) (v := 0) hX dX7_year_61 rfl rfl ?_
                refine s_iald (k := 0) (q := 63) hX dX7_year_62 rfl (by assumption) rfl (by omega) (by omega) ?_
                refine s_topi (v := nI (S.T.P)) hm.1.2.1.1 ?_
                refine s_icmp_ge_f (q := 66) (r := 145) hX dX7_year_63 rfl rfl (Int32.not_le.mpr (nI_lt (by omega) (by omega))) ?_
                refine s_ldc2 (q := 69) hX dX7_year_66 rfl gcl_7_176 ?_
                refine s_iload_n (q := 70) hX dX7_year_69 rfl rfl ?_
                refine s_i2l (q := 71) hX dX7_year_70 rfl rfl ?_
                refine s_lmul (q := 72) hX dX7_year_71 rfl rfl ?_
                refine s_ldc2 (q := 75) hX dX7_year_72 rfl gcl_7_178 ?_
                refine s_iload (q := 77) hX dX7_year_75 rfl rfl ?_
                refine s_i2l (q := 78) hX dX7_year_77 rfl rfl ?_
                refine s_lmul (q := 79) hX dX7_year_78 rfl rfl ?_
                refine s_ladd (q := 80) hX dX7_year_79 rfl rfl ?_
                refine s_ldc2 (q := 83) hX dX7_year_80 rfl gcl_7_180 ?_
                refine s_iload (q := 85) hX dX7_year_83 rfl rfl ?_
                refine s_i2l (q := 86) hX dX7_year_85 rfl rfl ?_
                refine s_lmul (q := 87) hX dX7_year_86 rfl rfl ?_
                refine s_ladd (q := 88) hX dX7_year_87 rfl rfl ?_
                refine s_lconst (q := 89) (z := 1) hX dX7_year_88 rfl rfl ?_
                refine s_ladd (q := 90) hX dX7_year_89 rfl rfl ?_
                refine s_lstore (q := 92) (lv' := [(0, _), (1, _), (2, _), (3, _), (4, _), (5, _), (6, _), (7, _)]) hX dX7_year_90 rfl (Nat.le_of_ble_eq_true rfl) rfl ?_
                refine s_lload (q := 94) hX dX7_year_92 rfl rfl ?_
                refine s_lload (q := 96) hX dX7_year_94 rfl rfl ?_
                refine s_lmul (q := 97) hX dX7_year_96 rfl rfl ?_
                refine s_ldc2 (q := 100) hX dX7_year_97 rfl gcl_7_182 ?_
                refine s_lrem (q := 101) hX dX7_year_100 rfl rfl (by decide) ?_
                refine s_l2i (q := 102) hX dX7_year_101 rfl rfl ?_
                refine s_bipush (q := 104) (v := 8) hX dX7_year_102 rfl rfl (by decide) ?_
                refine s_idiv (q := 105) (v := nI (drawN q k i)) hX dX7_year_104 rfl (gdraw2 (by omega) (by omega) (by omega)) (by decide) ?_
                refine s_aload_n (q := 106) hX dX7_year_105 rfl rfl ?_
                refine s_getr (q := 109) hX dX7_year_106 rfl gfl_7_23 (by assumption) rfl ?_
                refine s_iconst (q := 110) (v := 0) hX dX7_year_109 rfl rfl ?_
                refine s_iald (k := 0) (q := 111) hX dX7_year_110 rfl (by assumption) rfl (by omega) (by omega) ?_
                refine s_topi (v := nI (S.T.D)) hm.1.2.1.2.1 ?_
                refine s_iconst (q := 112) (v := 1) hX dX7_year_111 rfl rfl ?_
                refine s_iadd (q := 113) (v := nI (S.T.D + 1)) hX dX7_year_112 rfl (nI_add (S.T.D) (1)) ?_
                refine s_irem (q := 114) (v := nI (drawN q k i % (S.T.D + 1))) hX dX7_year_113 rfl (pk_rem (a := drawN q k i) (d := S.T.D + 1) (by omega) (by omega) (by omega)) (nI_ne0 (by omega) (by omega)) ?_
                refine s_istore (q := 116) (lv' := [(0, _), (1, _), (2, _), (3, _), (4, _), (5, _), (6, _), (7, _), (9, _)]) hX dX7_year_114 rfl (Nat.le_of_ble_eq_true rfl) rfl ?_
                refine s_iload (q := 118) hX dX7_year_116 rfl rfl ?_
                refine s_aload_n (q := 119) hX dX7_year_118 rfl rfl ?_
                refine s_getr (q := 122) hX dX7_year_119 rfl gfl_7_23 (by assumption) rfl ?_
                refine s_iconst (q := 123) (v := 0) hX dX7_year_122 rfl rfl ?_
                refine s_iald (k := 0) (q := 124) hX dX7_year_123 rfl (by assumption) rfl (by omega) (by omega) ?_
                refine s_topi (v := nI (S.T.D)) hm.1.2.1.2.1 ?_
                refine s_nicmp_ge (a := drawN q k i % (S.T.D + 1)) (b := S.T.D) (q := 127) (r := 139) hX dX7_year_124 rfl rfl rfl rfl (by omega) (by omega) (fun c124 => ?_) (fun c124 => ?_)
                · refine s_iinc (q := 142) (v := nI (i + 1)) (lv' := [(0, _), (1, _), (2, _), (3, _), (4, _), (5, _), (6, _), (7, _), (9, _)]) hX dX7_year_139 rfl rfl (nI_add (i) 1) (Nat.le_of_ble_eq_true rfl) rfl ?_
                  refine s_goto (q := 55) hX dX7_year_142 rfl ?_
                  first
                    | (refine s_dl hX (s_dl hX (ihp (i + 1) M2 (by omega) (hm.st o1 g4.1 g5.1 f2 ?_)))
                       show STM M2 341 S.T.P (S.T.drw1 q k i (S.T.drw q k i V))
                       unfold gT.drw1
                       rw [if_pos (by omega)]
                       exact u2)
                    | (refine s_dl hX (s_dl hX (ihp (i + 1) M1 (by omega) ?_))
                       show TRM M M1 S (S.T.drw1 q k i (S.T.drw q k i V))
                       unfold gT.drw1
                       rw [if_neg (by omega)]
                       exact hm)
                · refine s_aload_n (q := 128) hX dX7_year_127 rfl rfl ?_
                  refine s_sipush (q := 131) (v := 341) hX dX7_year_128 rfl rfl (by decide) ?_
                  refine s_iload (q := 133) hX dX7_year_131 rfl rfl ?_
                  refine s_iload (q := 135) hX dX7_year_133 rfl rfl ?_
                  refine s_invv3_1 (q := 138) hX dX7_year_135 rfl glk_7_125 (by assumption) (Nat.le_of_ble_eq_true rfl) ⟨Nat.le_refl _, Nat.le_refl _⟩ (by omega) (m_doIt (d := 2) (a := 341) (T := S.T) (U := S.T.drw q k i V) (Nat.le_refl _) hC0 hm.1.2.1 g1 hm.2.1 e1 (by omega) (by omega) (by omega) (fun hc M2 f2 u1 => ?_) (fun hc M2 f2 u2 => ?_)) 
                  · have u2 : STM M2 341 S.T.P (S.T.act i (drawN q k i % (S.T.D + 1)) (S.T.drw q k i V)) := by unfold gT.act; rw [if_neg (by rw [hc]; decide)]; exact u1
                    refine ⟨_, rfl, ?_⟩
                    refine s_pop (q := 139) hX dX7_year_138 rfl rfl ?_
                    refine s_iinc (q := 142) (v := nI (i + 1)) (lv' := [(0, _), (1, _), (2, _), (3, _), (4, _), (5, _), (6, _), (7, _), (9, _)]) hX dX7_year_139 rfl rfl (nI_add (i) 1) (Nat.le_of_ble_eq_true rfl) rfl ?_
                    refine s_goto (q := 55) hX dX7_year_142 rfl ?_
                    first
                      | (refine s_dl hX (s_dl hX (ihp (i + 1) M2 (by omega) (hm.st o1 g4.1 g5.1 f2 ?_)))
                         show STM M2 341 S.T.P (S.T.drw1 q k i (S.T.drw q k i V))
                         unfold gT.drw1
                         rw [if_pos (by omega)]
                         exact u2)
                      | (refine s_dl hX (s_dl hX (ihp (i + 1) M1 (by omega) ?_))
                         show TRM M M1 S (S.T.drw1 q k i (S.T.drw q k i V))
                         unfold gT.drw1
                         rw [if_neg (by omega)]
                         exact hm)
                  · refine ⟨_, rfl, ?_⟩
                    refine s_pop (q := 139) hX dX7_year_138 rfl rfl ?_
                    refine s_iinc (q := 142) (v := nI (i + 1)) (lv' := [(0, _), (1, _), (2, _), (3, _), (4, _), (5, _), (6, _), (7, _), (9, _)]) hX dX7_year_139 rfl rfl (nI_add (i) 1) (Nat.le_of_ble_eq_true rfl) rfl ?_
                    refine s_goto (q := 55) hX dX7_year_142 rfl ?_
                    first
                      | (refine s_dl hX (s_dl hX (ihp (i + 1) M2 (by omega) (hm.st o1 g4.1 g5.1 f2 ?_)))
                         show STM M2 341 S.T.P (S.T.drw1 q k i (S.T.drw q k i V))
                         unfold gT.drw1
                         rw [if_pos (by omega)]
                         exact u2)
                      | (refine s_dl hX (s_dl hX (ihp (i + 1) M1 (by omega) ?_))
                         show TRM M M1 S (S.T.drw1 q k i (S.T.drw q k i V))
                         unfold gT.drw1
                         rw [if_neg (by omega)]
                         exact hm)
            refine s_iload (q := 48) hX dX7_year_46 rfl rfl ?_
            refine s_iload_n (q := 49) hX dX7_year_48 rfl rfl ?_
            refine s_icmp_ge_f (q := 52) (r := 207) hX dX7_year_49 rfl rfl (nI_ge (by omega) (by omega)) ?_
            refine s_iconst (q := 53) (v := 0) hX dX7_year_52 rfl rfl ?_
            refine s_istore (q := 55) (lv' := [(0, _), (1, _), (2, _), (3, _), (4, _), (5, _), (6, _)]) hX dX7_year_53 rfl (Nat.le_of_ble_eq_true rfl) rfl ?_
            exact I1 S.T.P 0 M' (by omega) h5
        exact L n 0 M1 (by omega) (TRM.init hS0 o1 g4.1 g5.1 f1 f2 f3)
