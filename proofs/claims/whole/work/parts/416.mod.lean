set_option maxHeartbeats 4000000 in
set_option maxRecDepth 100000 in
theorem p_lasts {d b : Nat} {x y z u w : Int32} {S : gA} {sh : List gS} {M : gM} {Q : Option Value → List gS → gM → Prop} (hd : 3 ≤ d) (hC : isMod sh) (hS : MOD M S) (hk : S.ok b) (hb : b ≤ 20000) (hcon : kM sh M (S.lasts x y z u w) Q) : gC mX7_lasts d 0 0 [.ref 83, .int x, .int y, .int z, .int u, .int w] sh M Q := by
  have hC0 := hC
  obtain ⟨y0, y1, y2, y3, y4, y5, y6, y7, y8, y9, y10, y11, y12, y13, y14, y15⟩ := hC
  have hS0 := hS
  have hk0 := hk
  obtain ⟨⟨a1, a1x⟩, a2, a3, ⟨a4, a4x⟩, ⟨a5, a5x⟩, a6⟩ := hS
  obtain ⟨g1, g2, g3, g4, g5, g6, g7⟩ := hk
  have g0 := g1
  obtain ⟨o1, o2, o3, o4, o5, o6, o7, o8⟩ := g0
  refine gC_of (rt := 1) (ini := false) gm_X7_lasts rfl (by decide) (Nat.le_of_ble_eq_true rfl) (fun X hX => ?_)
  refine s_aload_n (q := 1) hX dX7_lasts_0 rfl rfl ?_
  refine s_iload_n (q := 2) hX dX7_lasts_1 rfl rfl ?_
  refine s_invv1_1 (q := 5) hX dX7_lasts_2 rfl glk_7_104 (by assumption) (Nat.le_of_ble_eq_true rfl) ⟨Nat.le_refl _, Nat.le_refl _⟩ (by omega) (m_isPerson (d := 1) (x := x) (Nat.le_refl _) hC0 a2 g1 (fun ra => ?_) (fun i ra hi ei => ?_)) 
  · refine ⟨_, rfl, ?_⟩
    refine s_if_eq_t (q := 8) (r := 47) hX dX7_lasts_5 rfl rfl (by decide) ?_
    refine s_iconst (q := 48) (v := (-1)) hX dX7_lasts_47 rfl rfl ?_
    refine s_iret hX dX7_lasts_48 (Or.inl rfl) ⟨Nat.le_refl _, Nat.le_refl _, Nat.le_refl _, ?_⟩
    exact hcon.ret (by first | (unfold gA.lasts; rw [ra]; dsimp only; rw [rb]; dsimp only; rw [rz]; dsimp only; rw [ru]; dsimp only; rw [rw]) | (unfold gA.lasts; rw [ra]; dsimp only; rw [rb]; dsimp only; rw [rz]; dsimp only; rw [ru]) | (unfold gA.lasts; rw [ra]; dsimp only; rw [rb]; dsimp only; rw [rz]) | (unfold gA.lasts; rw [ra]; dsimp only; rw [rb]) | (unfold gA.lasts; rw [ra])) hS0 (fun _ _ => rfl)
  · subst ei
    refine ⟨_, rfl, ?_⟩
    refine s_if_eq_f (q := 8) (r := 47) hX dX7_lasts_5 rfl rfl (by decide) ?_
    refine s_aload_n (q := 9) hX dX7_lasts_8 rfl rfl ?_
    refine s_iload_n (q := 10) hX dX7_lasts_9 rfl rfl ?_
    refine s_invv1_1 (q := 13) hX dX7_lasts_10 rfl glk_7_112 (by assumption) (Nat.le_of_ble_eq_true rfl) ⟨Nat.le_refl _, Nat.le_refl _⟩ (by omega) (m_isDeed (d := 1) (x := y) (Nat.le_refl _) hC0 a2 g1 (fun rb => ?_) (fun k rb hk ek => ?_)) 
    · refine ⟨_, rfl, ?_⟩
      refine s_if_eq_t (q := 16) (r := 47) hX dX7_lasts_13 rfl rfl (by decide) ?_
      refine s_iconst (q := 48) (v := (-1)) hX dX7_lasts_47 rfl rfl ?_
      refine s_iret hX dX7_lasts_48 (Or.inl rfl) ⟨Nat.le_refl _, Nat.le_refl _, Nat.le_refl _, ?_⟩
      exact hcon.ret (by first | (unfold gA.lasts; rw [ra]; dsimp only; rw [rb]; dsimp only; rw [rz]; dsimp only; rw [ru]; dsimp only; rw [rw]) | (unfold gA.lasts; rw [ra]; dsimp only; rw [rb]; dsimp only; rw [rz]; dsimp only; rw [ru]) | (unfold gA.lasts; rw [ra]; dsimp only; rw [rb]; dsimp only; rw [rz]) | (unfold gA.lasts; rw [ra]; dsimp only; rw [rb]) | (unfold gA.lasts; rw [ra])) hS0 (fun _ _ => rfl)
    · subst ek
      refine ⟨_, rfl, ?_⟩
      refine s_if_eq_f (q := 16) (r := 47) hX dX7_lasts_13 rfl rfl (by decide) ?_
      refine s_iload_n (q := 17) hX dX7_lasts_16 rfl rfl ?_
      refine s_iconst (q := 18) (v := 0) hX dX7_lasts_17 rfl rfl ?_
      refine s_bipush (q := 20) (v := 10) hX dX7_lasts_18 rfl rfl (by decide) ?_
      refine s_invs3_1 (q := 23) hX dX7_lasts_20 rfl glk_7_66 (by decide) (Nat.le_of_ble_eq_true rfl) ⟨Nat.le_refl _, Nat.le_refl _⟩ (by omega) (m_rng (d := 0) (x := z) (lo := 0) (n := 11) rfl rfl (by decide) (by decide) (fun rz => ?_) (fun q rz lq hq eq => ?_)) 
      · refine ⟨_, rfl, ?_⟩
        refine s_if_eq_t (q := 26) (r := 47) hX dX7_lasts_23 rfl rfl (by decide) ?_
        refine s_iconst (q := 48) (v := (-1)) hX dX7_lasts_47 rfl rfl ?_
        refine s_iret hX dX7_lasts_48 (Or.inl rfl) ⟨Nat.le_refl _, Nat.le_refl _, Nat.le_refl _, ?_⟩
        exact hcon.ret (by first | (unfold gA.lasts; rw [ra]; dsimp only; rw [rb]; dsimp only; rw [rz]; dsimp only; rw [ru]; dsimp only; rw [rw]) | (unfold gA.lasts; rw [ra]; dsimp only; rw [rb]; dsimp only; rw [rz]; dsimp only; rw [ru]) | (unfold gA.lasts; rw [ra]; dsimp only; rw [rb]; dsimp only; rw [rz]) | (unfold gA.lasts; rw [ra]; dsimp only; rw [rb]) | (unfold gA.lasts; rw [ra])) hS0 (fun _ _ => rfl)
      · subst eq
        refine ⟨_, rfl, ?_⟩
        refine s_if_eq_f (q := 26) (r := 47) hX dX7_lasts_23 rfl rfl (by decide) ?_
        refine s_iload (q := 28) hX dX7_lasts_26 rfl rfl ?_
        refine s_iconst (q := 29) (v := 0) hX dX7_lasts_28 rfl rfl ?_
        refine s_bipush (q := 31) (v := 7) hX dX7_lasts_29 rfl rfl (by decide) ?_
        refine s_invs3_1 (q := 34) hX dX7_lasts_31 rfl glk_7_66 (by decide) (Nat.le_of_ble_eq_true rfl) ⟨Nat.le_refl _, Nat.le_refl _⟩ (by omega) (m_rng (d := 0) (x := u) (lo := 0) (n := 8) rfl rfl (by decide) (by decide) (fun ru => ?_) (fun n ru ln hn en => ?_)) 
        · refine ⟨_, rfl, ?_⟩
          refine s_if_eq_t (q := 37) (r := 47) hX dX7_lasts_34 rfl rfl (by decide) ?_
          refine s_iconst (q := 48) (v := (-1)) hX dX7_lasts_47 rfl rfl ?_
          refine s_iret hX dX7_lasts_48 (Or.inl rfl) ⟨Nat.le_refl _, Nat.le_refl _, Nat.le_refl _, ?_⟩
          exact hcon.ret (by first | (unfold gA.lasts; rw [ra]; dsimp only; rw [rb]; dsimp only; rw [rz]; dsimp only; rw [ru]; dsimp only; rw [rw]) | (unfold gA.lasts; rw [ra]; dsimp only; rw [rb]; dsimp only; rw [rz]; dsimp only; rw [ru]) | (unfold gA.lasts; rw [ra]; dsimp only; rw [rb]; dsimp only; rw [rz]) | (unfold gA.lasts; rw [ra]; dsimp only; rw [rb]) | (unfold gA.lasts; rw [ra])) hS0 (fun _ _ => rfl)
        · subst en
          refine ⟨_, rfl, ?_⟩
          refine s_if_eq_f (q := 37) (r := 47) hX dX7_lasts_34 rfl rfl (by decide) ?_
          refine s_iload (q := 39) hX dX7_lasts_37 rfl rfl ?_
          refine s_iconst (q := 40) (v := 0) hX dX7_lasts_39 rfl rfl ?_
          refine s_iconst (q := 41) (v := 1) hX dX7_lasts_40 rfl rfl ?_
          refine s_invs3_1 (q := 44) hX dX7_lasts_41 rfl glk_7_66 (by decide) (Nat.le_of_ble_eq_true rfl) ⟨Nat.le_refl _, Nat.le_refl _⟩ (by omega) (m_rng (d := 0) (x := w) (lo := 0) (n := 2) rfl rfl (by decide) (by decide) (fun rw => ?_) (fun p rw lp hp ep => ?_)) 
          · refine ⟨_, rfl, ?_⟩
            refine s_if_ne_f (q := 47) (r := 49) hX dX7_lasts_44 rfl rfl (by decide) ?_
            refine s_iconst (q := 48) (v := (-1)) hX dX7_lasts_47 rfl rfl ?_
            refine s_iret hX dX7_lasts_48 (Or.inl rfl) ⟨Nat.le_refl _, Nat.le_refl _, Nat.le_refl _, ?_⟩
            exact hcon.ret (by first | (unfold gA.lasts; rw [ra]; dsimp only; rw [rb]; dsimp only; rw [rz]; dsimp only; rw [ru]; dsimp only; rw [rw]) | (unfold gA.lasts; rw [ra]; dsimp only; rw [rb]; dsimp only; rw [rz]; dsimp only; rw [ru]) | (unfold gA.lasts; rw [ra]; dsimp only; rw [rb]; dsimp only; rw [rz]) | (unfold gA.lasts; rw [ra]; dsimp only; rw [rb]) | (unfold gA.lasts; rw [ra])) hS0 (fun _ _ => rfl)
          · subst ep
            refine ⟨_, rfl, ?_⟩
            refine s_if_ne_t (q := 47) (r := 49) hX dX7_lasts_44 rfl rfl (by decide) ?_
            refine s_aload_n (q := 50) hX dX7_lasts_49 rfl rfl ?_
            refine s_iconst (q := 51) (v := 0) hX dX7_lasts_50 rfl rfl ?_
            refine s_sipush (q := 54) (v := 341) hX dX7_lasts_51 rfl rfl (by decide) ?_
            refine s_invv2_0 (q := 57) hX dX7_lasts_54 rfl glk_7_131 (by assumption) (Nat.le_of_ble_eq_true rfl) ⟨Nat.le_refl _, Nat.le_refl _⟩ (by omega) (m_copy (d := 0) (f := 0) (t := 341) hC0 (by omega) (by omega) (by omega) (fun M1 f1 f2 f3 => ?_)) 
            refine ⟨rfl, ?_⟩
            refine s_iconst (q := 58) (v := 0) hX dX7_lasts_57 rfl rfl ?_
            refine s_istore (q := 60) (lv' := [(0, _), (1, _), (2, _), (3, _), (4, _), (5, _), (6, _)]) hX dX7_lasts_58 rfl (Nat.le_of_ble_eq_true rfl) rfl ?_
            have hp7 : (10 : Nat) ^ n ≤ 10 ^ 7 := Nat.pow_le_pow_right (by decide) (by omega)
            have hp8 : (10 : Nat) ^ 7 = 10000000 := by decide
            have hp0 : 0 < (10 : Nat) ^ n := Nat.pow_pos (by decide)
            have ht7 : (2 : Nat) ^ n ≤ 2 ^ 7 := Nat.pow_le_pow_right (by decide) (by omega)
            have ht8 : (2 : Nat) ^ 7 = 128 := by decide
            obtain ⟨cn, hcn⟩ : ∃ cn, cn = S.T.row i k n (S.U.tr i) := ⟨_, rfl⟩
            have hcl : cn ≤ n := by rw [hcn]; exact S.T.row_le i k n _
            obtain ⟨ab, hab⟩ : ∃ ab, ab = abv n q cn := ⟨_, rfl⟩
            have hub : ∀ m, upn q cn n m ≤ m * 10000000 := fun m => sumN_bd m (fun s _ => by
              split
              · exact Nat.le_trans (prd_le (by omega) s n) (by omega)
              · exact Nat.zero_le _)
            have hue : upn q cn n (2 ^ n) = ab := by rw [hab]; exact upn_abv q n cn (by omega)
            have hub2 := hub (2 ^ n)
            rw [hue] at hub2
            have hab9 : ab ≤ 1280000000 := by omega
            obtain ⟨g, hg⟩ : ∃ g, g = Nat.gcd ab (10 ^ n) := ⟨_, rfl⟩
            have hg0 : 0 < g := by rw [hg]; exact Nat.gcd_pos_of_pos_right _ hp0
            have hg1 : g ≤ 10 ^ n := by rw [hg]; exact Nat.gcd_le_right _ hp0
            have E : ∀ (M1 : gM), MOD M1 S → (∀ c, c < 83 → M1 c = M c) → X 85 [(0, .ref 83), (1, .int (nI i)), (2, .int (nI k)), (3, .int (nI q)), (4, .int (nI n)), (5, .int (nI p)), (6, .int (nI cn))] [] sh M1 0 0 := by
              intro M1 m1 f1
              have G : ∀ (f a b : Nat), b < f → a < 2 ^ 31 → b < 2 ^ 31 → Nat.gcd a b = g → X 204 [(0, .ref 83), (1, .int (nI i)), (2, .int (nI k)), (3, .int (nI q)), (4, .int (nI n)), (5, .int (nI p)), (6, .int (nI cn)), (7, .int (nI ab)), (8, .int (nI (10 ^ n))), (9, .int (nI a)), (10, .int (nI b))] [] sh M1 0 0 := by
                intro f
                induction f with
                | zero => intro a b h1; omega
                | succ f ih =>
                  intro a b h1 h2 h3 h4
                  by_cases hb0 : b = 0
                  · rw [hb0, Nat.gcd_zero_right] at h4
                    rw [h4, hb0]
                    refine s_iload (q := 206) hX dX7_lasts_204 rfl rfl ?_
                    refine s_if_eq_t (q := 209) (r := 227) hX dX7_lasts_206 rfl rfl (by decide) ?_
                    refine s_iload (q := 229) hX dX7_lasts_227 rfl rfl ?_
                    refine s_nif_ne (a := p) (b := 0) (q := 232) (r := 240) hX dX7_lasts_229 rfl rfl rfl rfl (by omega) (by omega) (fun c229 => ?_) (fun c229 => ?_)
                    · refine s_iload (q := 242) hX dX7_lasts_240 rfl rfl ?_
                      refine s_iload (q := 244) hX dX7_lasts_242 rfl rfl ?_
                      refine s_idiv (q := 245) (v := nI (10 ^ n / g)) hX dX7_lasts_244 rfl (pk_div (by omega) (by omega) (by omega)) (nI_ne0 (by omega) (by omega)) ?_
                      refine s_iret hX dX7_lasts_245 (Or.inl rfl) ⟨Nat.le_refl _, Nat.le_refl _, Nat.le_refl _, ?_⟩
                      exact hcon.ret (by unfold gA.lasts; rw [ra]; dsimp only; rw [rb]; dsimp only; rw [rz]; dsimp only; rw [ru]; dsimp only; rw [rw]; dsimp only; rw [if_neg (by omega), ← hcn, ← hab, ← hg]) m1 f1
                    · refine s_iload (q := 234) hX dX7_lasts_232 rfl rfl ?_
                      refine s_iload (q := 236) hX dX7_lasts_234 rfl rfl ?_
                      refine s_idiv (q := 237) (v := nI (ab / g)) hX dX7_lasts_236 rfl (pk_div (by omega) (by omega) (by omega)) (nI_ne0 (by omega) (by omega)) ?_
                      refine s_goto (q := 245) hX dX7_lasts_237 rfl ?_
                      refine s_iret hX dX7_lasts_245 (Or.inl rfl) ⟨Nat.le_refl _, Nat.le_refl _, Nat.le_refl _, ?_⟩
                      exact hcon.ret (by unfold gA.lasts; rw [ra]; dsimp only; rw [rb]; dsimp only; rw [rz]; dsimp only; rw [ru]; dsimp only; rw [rw]; dsimp only; rw [if_pos (by omega), ← hcn, ← hab, ← hg]) m1 f1
                  · have hml : a % b < b := Nat.mod_lt _ (by omega)
                    have hgr : Nat.gcd b (a % b) = g := by rw [← h4, Nat.gcd_comm a b, Nat.gcd_rec b a, Nat.gcd_comm]
                    refine s_iload (q := 206) hX dX7_lasts_204 rfl rfl ?_
                    refine s_if_eq_f (q := 209) (r := 227) hX dX7_lasts_206 rfl rfl (nI_ne0 (by omega) (by omega)) ?_
                    refine s_iload (q := 211) hX dX7_lasts_209 rfl rfl ?_
                    refine s_iload (q := 213) hX dX7_lasts_211 rfl rfl ?_
                    refine s_irem (q := 214) (v := nI (a % b)) hX dX7_lasts_213 rfl (pk_rem (a := a) (d := b) (by omega) (by omega) (by omega)) (nI_ne0 (by omega) (by omega)) ?_
                    refine s_istore (q := 216) (lv' := [(0, _), (1, _), (2, _), (3, _), (4, _), (5, _), (6, _), (7, _), (8, _), (9, _), (10, _), (11, _)]) hX dX7_lasts_214 rfl (Nat.le_of_ble_eq_true rfl) rfl ?_
                    refine s_iload (q := 218) hX dX7_lasts_216 rfl rfl ?_
                    refine s_istore (q := 220) (lv' := [(0, _), (1, _), (2, _), (3, _), (4, _), (5, _), (6, _), (7, _), (8, _), (9, _), (10, _), (11, _)]) hX dX7_lasts_218 rfl (Nat.le_of_ble_eq_true rfl) rfl ?_
                    refine s_iload (q := 222) hX dX7_lasts_220 rfl rfl ?_
                    refine s_istore (q := 224) (lv' := [(0, _), (1, _), (2, _), (3, _), (4, _), (5, _), (6, _), (7, _), (8, _), (9, _), (10, _), (11, _)]) hX dX7_lasts_222 rfl (Nat.le_of_ble_eq_true rfl) rfl ?_
                    refine s_goto (q := 204) hX dX7_lasts_224 rfl ?_
                    exact s_dl hX (ih b (a % b) (by omega) (by omega) (by omega) hgr)
              have D : ∀ (m t : Nat), t + m = n → X 176 [(0, .ref 83), (1, .int (nI i)), (2, .int (nI k)), (3, .int (nI q)), (4, .int (nI n)), (5, .int (nI p)), (6, .int (nI cn)), (7, .int (nI ab)), (8, .int (nI (10 ^ t))), (9, .int (nI t))] [] sh M1 0 0 := by
                intro m
                induction m with
                | zero =>
                  intro t ht
                  have e : t = n := by omega
                  rw [e]
                  refine s_iload (q := 178) hX dX7_lasts_176 rfl rfl ?_
                  refine s_iload (q := 180) hX dX7_lasts_178 rfl rfl ?_
                  refine s_icmp_ge_t (q := 183) (r := 196) hX dX7_lasts_180 rfl rfl (Int32.le_refl _) ?_
                  refine s_iload (q := 198) hX dX7_lasts_196 rfl rfl ?_
                  refine s_istore (q := 200) (lv' := [(0, _), (1, _), (2, _), (3, _), (4, _), (5, _), (6, _), (7, _), (8, _), (9, _)]) hX dX7_lasts_198 rfl (Nat.le_of_ble_eq_true rfl) rfl ?_
                  refine s_iload (q := 202) hX dX7_lasts_200 rfl rfl ?_
                  refine s_istore (q := 204) (lv' := [(0, _), (1, _), (2, _), (3, _), (4, _), (5, _), (6, _), (7, _), (8, _), (9, _), (10, _)]) hX dX7_lasts_202 rfl (Nat.le_of_ble_eq_true rfl) rfl ?_
                  exact G (10 ^ n + 1) ab (10 ^ n) (by omega) (by omega) (by omega) hg.symm
                | succ m ih =>
                  intro t ht
                  have hx := ih (t + 1) (by omega)
                  rw [Nat.pow_succ] at hx
                  refine s_iload (q := 178) hX dX7_lasts_176 rfl rfl ?_
                  refine s_iload (q := 180) hX dX7_lasts_178 rfl rfl ?_
                  refine s_icmp_ge_f (q := 183) (r := 196) hX dX7_lasts_180 rfl rfl (Int32.not_le.mpr (nI_lt (by omega) (by omega))) ?_
                  refine s_iload (q := 185) hX dX7_lasts_183 rfl rfl ?_
                  refine s_bipush (q := 187) (v := 10) hX dX7_lasts_185 rfl rfl (by decide) ?_
                  refine s_imul (q := 188) (v := nI ((10 ^ t) * 10)) hX dX7_lasts_187 rfl (pk_mul (10 ^ t) (10)) ?_
                  refine s_istore (q := 190) (lv' := [(0, _), (1, _), (2, _), (3, _), (4, _), (5, _), (6, _), (7, _), (8, _), (9, _)]) hX dX7_lasts_188 rfl (Nat.le_of_ble_eq_true rfl) rfl ?_
                  refine s_iinc (q := 193) (v := nI (t + 1)) (lv' := [(0, _), (1, _), (2, _), (3, _), (4, _), (5, _), (6, _), (7, _), (8, _), (9, _)]) hX dX7_lasts_190 rfl rfl (nI_add (t) 1) (Nat.le_of_ble_eq_true rfl) rfl ?_
                  refine s_goto (q := 176) hX dX7_lasts_193 rfl ?_
                  exact hx
              have O : ∀ (m s : Nat), s + m = 2 ^ n → X 94 [(0, .ref 83), (1, .int (nI i)), (2, .int (nI k)), (3, .int (nI q)), (4, .int (nI n)), (5, .int (nI p)), (6, .int (nI cn)), (7, .int (nI (upn q cn n s))), (8, .int 1), (9, .int (nI s))] [] sh M1 0 0 := by
                intro m
                induction m with
                | zero =>
                  intro s hs
                  have e : s = 2 ^ n := by omega
                  rw [e, hue]
                  refine s_iload (q := 96) hX dX7_lasts_94 rfl rfl ?_
                  refine s_iconst (q := 97) (v := 1) hX dX7_lasts_96 rfl rfl ?_
                  refine s_iload (q := 99) hX dX7_lasts_97 rfl rfl ?_
                  refine s_ishl (q := 100) (v := nI (2 ^ n)) hX dX7_lasts_99 rfl (gshl (by omega)) ?_
                  refine s_icmp_ge_t (q := 103) (r := 173) hX dX7_lasts_100 rfl rfl (Int32.le_refl _) ?_
                  refine s_iconst (q := 174) (v := 0) hX dX7_lasts_173 rfl rfl ?_
                  refine s_istore (q := 176) (lv' := [(0, _), (1, _), (2, _), (3, _), (4, _), (5, _), (6, _), (7, _), (8, _), (9, _)]) hX dX7_lasts_174 rfl (Nat.le_of_ble_eq_true rfl) rfl ?_
                  exact D n 0 (by omega)
                | succ m ih =>
                  intro s hs
                  have hpc := popc_b9 s (by omega)
                  have I : ∀ (v : Nat), (∀ m t : Nat, t + m = n → X 123 [(0, .ref 83), (1, .int (nI i)), (2, .int (nI k)), (3, .int (nI q)), (4, .int (nI n)), (5, .int (nI p)), (6, .int (nI cn)), (7, .int (nI (upn q cn n s))), (8, .int 1), (9, .int (nI s)), (10, .int (nI (v * prd q s t))), (11, .int (nI t))] [] sh M1 0 0) ∨ ¬ upn q cn n (s + 1) = upn q cn n s + v * prd q s n := by
                    intro v
                    by_cases hv : upn q cn n (s + 1) = upn q cn n s + v * prd q s n
                    · refine Or.inl ?_
                      intro m
                      induction m with
                      | zero =>
                        intro t ht
                        have e : t = n := by omega
                        rw [e]
                        have hx := ih (s + 1) (by omega)
                        rw [hv] at hx
                        refine s_iload (q := 125) hX dX7_lasts_123 rfl rfl ?_
                        refine s_iload (q := 127) hX dX7_lasts_125 rfl rfl ?_
                        refine s_icmp_ge_t (q := 130) (r := 160) hX dX7_lasts_127 rfl rfl (Int32.le_refl _) ?_
                        refine s_iload (q := 162) hX dX7_lasts_160 rfl rfl ?_
                        refine s_iload (q := 164) hX dX7_lasts_162 rfl rfl ?_
                        refine s_iadd (q := 165) (v := nI (upn q cn n s + (v * prd q s n))) hX dX7_lasts_164 rfl (nI_add (upn q cn n s) (v * prd q s n)) ?_
                        refine s_istore (q := 167) (lv' := [(0, _), (1, _), (2, _), (3, _), (4, _), (5, _), (6, _), (7, _), (8, _), (9, _), (10, _), (11, _)]) hX dX7_lasts_165 rfl (Nat.le_of_ble_eq_true rfl) rfl ?_
                        refine s_iinc (q := 170) (v := nI (s + 1)) (lv' := [(0, _), (1, _), (2, _), (3, _), (4, _), (5, _), (6, _), (7, _), (8, _), (9, _), (10, _), (11, _)]) hX dX7_lasts_167 rfl rfl (nI_add (s) 1) (Nat.le_of_ble_eq_true rfl) rfl ?_
                        refine s_goto (q := 94) hX dX7_lasts_170 rfl ?_
                        exact s_dl hX (s_dl hX hx)
                      | succ m ihm =>
                        intro t ht
                        have hx := ihm (t + 1) (by omega)
                        have hst : v * prd q s (t + 1) = v * prd q s t * (if s / 2 ^ t % 2 = 1 then q else 10 - q) := by
                          show v * (prd q s t * _) = _
                          rw [Nat.mul_assoc]
                        rw [hst] at hx
                        have hdv : s / 2 ^ t ≤ s := Nat.div_le_self _ _
                        refine s_iload (q := 125) hX dX7_lasts_123 rfl rfl ?_
                        refine s_iload (q := 127) hX dX7_lasts_125 rfl rfl ?_
                        refine s_icmp_ge_f (q := 130) (r := 160) hX dX7_lasts_127 rfl rfl (Int32.not_le.mpr (nI_lt (by omega) (by omega))) ?_
                        refine s_iload (q := 132) hX dX7_lasts_130 rfl rfl ?_
                        refine s_iload (q := 134) hX dX7_lasts_132 rfl rfl ?_
                        refine s_iload (q := 136) hX dX7_lasts_134 rfl rfl ?_
                        refine s_ishr (q := 137) (v := nI (s / 2 ^ t)) hX dX7_lasts_136 rfl (gshr (by omega) (by omega)) ?_
                        refine s_iconst (q := 138) (v := 1) hX dX7_lasts_137 rfl rfl ?_
                        refine s_iand (q := 139) (v := nI (s / 2 ^ t % 2)) hX dX7_lasts_138 rfl (gan1 (by omega)) ?_
                        refine s_iconst (q := 140) (v := 1) hX dX7_lasts_139 rfl rfl ?_
                        refine s_nicmp_ne (a := s / 2 ^ t % 2) (b := 1) (q := 143) (r := 147) hX dX7_lasts_140 rfl rfl rfl rfl (by omega) (by omega) (fun c140 => ?_) (fun c140 => ?_)
                        · refine s_bipush (q := 149) (v := 10) hX dX7_lasts_147 rfl rfl (by decide) ?_
                          refine s_iload_n (q := 150) hX dX7_lasts_149 rfl rfl ?_
                          refine s_isub (q := 151) (v := nI (10 - q)) hX dX7_lasts_150 rfl (pk_sub (a := 10) (by omega)) ?_
                          refine s_imul (q := 152) (v := nI ((v * prd q s t) * (10 - q))) hX dX7_lasts_151 rfl (pk_mul (v * prd q s t) (10 - q)) ?_
                          refine s_istore (q := 154) (lv' := [(0, _), (1, _), (2, _), (3, _), (4, _), (5, _), (6, _), (7, _), (8, _), (9, _), (10, _), (11, _)]) hX dX7_lasts_152 rfl (Nat.le_of_ble_eq_true rfl) rfl ?_
                          refine s_iinc (q := 157) (v := nI (t + 1)) (lv' := [(0, _), (1, _), (2, _), (3, _), (4, _), (5, _), (6, _), (7, _), (8, _), (9, _), (10, _), (11, _)]) hX dX7_lasts_154 rfl rfl (nI_add (t) 1) (Nat.le_of_ble_eq_true rfl) rfl ?_
                          refine s_goto (q := 123) hX dX7_lasts_157 rfl ?_
                          rw [if_neg (by omega)] at hx
                          exact hx
                        · refine s_iload_n (q := 144) hX dX7_lasts_143 rfl rfl ?_
                          refine s_goto (q := 151) hX dX7_lasts_144 rfl ?_
                          refine s_imul (q := 152) (v := nI ((v * prd q s t) * q)) hX dX7_lasts_151 rfl (pk_mul (v * prd q s t) (q)) ?_
                          refine s_istore (q := 154) (lv' := [(0, _), (1, _), (2, _), (3, _), (4, _), (5, _), (6, _), (7, _), (8, _), (9, _), (10, _), (11, _)]) hX dX7_lasts_152 rfl (Nat.le_of_ble_eq_true rfl) rfl ?_
                          refine s_iinc (q := 157) (v := nI (t + 1)) (lv' := [(0, _), (1, _), (2, _), (3, _), (4, _), (5, _), (6, _), (7, _), (8, _), (9, _), (10, _), (11, _)]) hX dX7_lasts_154 rfl rfl (nI_add (t) 1) (Nat.le_of_ble_eq_true rfl) rfl ?_
                          refine s_goto (q := 123) hX dX7_lasts_157 rfl ?_
                          rw [if_pos (by omega)] at hx
                          exact hx
                    · exact Or.inr hv
                  refine s_iload (q := 96) hX dX7_lasts_94 rfl rfl ?_
                  refine s_iconst (q := 97) (v := 1) hX dX7_lasts_96 rfl rfl ?_
                  refine s_iload (q := 99) hX dX7_lasts_97 rfl rfl ?_
                  refine s_ishl (q := 100) (v := nI (2 ^ n)) hX dX7_lasts_99 rfl (gshl (by omega)) ?_
                  refine s_icmp_ge_f (q := 103) (r := 173) hX dX7_lasts_100 rfl rfl (nI_ge (by omega) (by omega)) ?_
                  refine s_iload (q := 105) hX dX7_lasts_103 rfl rfl ?_
                  refine s_invs1_1 (q := 108) hX dX7_lasts_105 rfl glk_7_163 (by decide) (Nat.le_of_ble_eq_true rfl) ⟨Nat.le_refl _, Nat.le_refl _⟩ (by omega) (m_manyOf (d := 0) (n := s) (by omega) ?_) 
                  refine ⟨_, rfl, ?_⟩
                  refine s_iload (q := 110) hX dX7_lasts_108 rfl rfl ?_
                  refine s_nicmp_gt (a := popc s) (b := cn) (q := 113) (r := 117) hX dX7_lasts_110 rfl rfl rfl rfl (by omega) (by omega) (fun c110 => ?_) (fun c110 => ?_)
                  · refine s_iconst (q := 118) (v := 0) hX dX7_lasts_117 rfl rfl ?_
                    refine s_istore (q := 120) (lv' := [(0, _), (1, _), (2, _), (3, _), (4, _), (5, _), (6, _), (7, _), (8, _), (9, _), (10, _)]) hX dX7_lasts_118 rfl (Nat.le_of_ble_eq_true rfl) rfl ?_
                    refine s_iconst (q := 121) (v := 0) hX dX7_lasts_120 rfl rfl ?_
                    refine s_istore (q := 123) (lv' := [(0, _), (1, _), (2, _), (3, _), (4, _), (5, _), (6, _), (7, _), (8, _), (9, _), (10, _), (11, _)]) hX dX7_lasts_121 rfl (Nat.le_of_ble_eq_true rfl) rfl ?_
                    have hv : upn q cn n (s + 1) = upn q cn n s + 0 * prd q s n := by
                      show upn q cn n s + (if popc s ≤ cn then prd q s n else 0) = _
                      rw [if_neg (by omega)]; omega
                    exact ((I 0).resolve_right (fun z => z hv)) n 0 (by omega)
                  · refine s_iconst (q := 114) (v := 1) hX dX7_lasts_113 rfl rfl ?_
                    refine s_goto (q := 118) hX dX7_lasts_114 rfl ?_
                    refine s_istore (q := 120) (lv' := [(0, _), (1, _), (2, _), (3, _), (4, _), (5, _), (6, _), (7, _), (8, _), (9, _), (10, _)]) hX dX7_lasts_118 rfl (Nat.le_of_ble_eq_true rfl) rfl ?_
                    refine s_iconst (q := 121) (v := 0) hX dX7_lasts_120 rfl rfl ?_
                    refine s_istore (q := 123) (lv' := [(0, _), (1, _), (2, _), (3, _), (4, _), (5, _), (6, _), (7, _), (8, _), (9, _), (10, _), (11, _)]) hX dX7_lasts_121 rfl (Nat.le_of_ble_eq_true rfl) rfl ?_
                    have hv : upn q cn n (s + 1) = upn q cn n s + 1 * prd q s n := by
                      show upn q cn n s + (if popc s ≤ cn then prd q s n else 0) = _
                      rw [if_pos (by omega)]; omega
                    exact ((I 1).resolve_right (fun z => z hv)) n 0 (by omega)
              refine s_iconst (q := 86) (v := 0) hX dX7_lasts_85 rfl rfl ?_
              refine s_istore (q := 88) (lv' := [(0, _), (1, _), (2, _), (3, _), (4, _), (5, _), (6, _), (7, _)]) hX dX7_lasts_86 rfl (Nat.le_of_ble_eq_true rfl) rfl ?_
              refine s_iconst (q := 89) (v := 1) hX dX7_lasts_88 rfl rfl ?_
              refine s_istore (q := 91) (lv' := [(0, _), (1, _), (2, _), (3, _), (4, _), (5, _), (6, _), (7, _), (8, _)]) hX dX7_lasts_89 rfl (Nat.le_of_ble_eq_true rfl) rfl ?_
              refine s_iconst (q := 92) (v := 0) hX dX7_lasts_91 rfl rfl ?_
              refine s_istore (q := 94) (lv' := [(0, _), (1, _), (2, _), (3, _), (4, _), (5, _), (6, _), (7, _), (8, _), (9, _)]) hX dX7_lasts_92 rfl (Nat.le_of_ble_eq_true rfl) rfl ?_
              exact O (2 ^ n) 0 (by omega)
            have L : ∀ (m t : Nat) (V : gU) (h : Nat → Nat) (M' : gM), t + m = n → S.T.row i k m h + t = cn → V.ok S.T.P → (∀ s, s < 3 → h s = V.tr i s) → TRM M M' S V → X 60 [(0, .ref 83), (1, .int (nI i)), (2, .int (nI k)), (3, .int (nI q)), (4, .int (nI n)), (5, .int (nI p)), (6, .int (nI t))] [] sh M' 0 0 := by
              intro m
              induction m with
              | zero =>
                intro t V h M' h1 h2 h3 h4 h5
                have h2 : 0 + t = cn := h2
                have e : t = n := by omega
                have e2 : t = cn := by omega
                refine s_iload (q := 62) hX dX7_lasts_60 rfl rfl ?_
                refine s_iload (q := 64) hX dX7_lasts_62 rfl rfl ?_
                refine s_icmp_ge_t (q := 67) (r := 85) hX dX7_lasts_64 rfl rfl (nI_le (by omega) (by omega)) ?_
                rw [e2]
                exact E M' h5.1 h5.2.2
              | succ m ih =>
                intro t V h M' h1 h2 h3 h4 h5
                have h2 : (if S.T.can i k h = true then S.T.row i k m (fun s => h s - S.T.pay i k h s) + 1 else 0) + t = cn := h2
                rw [S.T.can_cg h4] at h2
                refine s_iload (q := 62) hX dX7_lasts_60 rfl rfl ?_
                refine s_iload (q := 64) hX dX7_lasts_62 rfl rfl ?_
                refine s_icmp_ge_f (q := 67) (r := 85) hX dX7_lasts_64 rfl rfl (Int32.not_le.mpr (nI_lt (by omega) (by omega))) ?_
                refine s_aload_n (q := 68) hX dX7_lasts_67 rfl rfl ?_
                refine s_sipush (q := 71) (v := 341) hX dX7_lasts_68 rfl rfl (by decide) ?_
                refine s_iload_n (q := 72) hX dX7_lasts_71 rfl rfl ?_
                refine s_iload_n (q := 73) hX dX7_lasts_72 rfl rfl ?_
                refine s_invv3_1 (q := 76) hX dX7_lasts_73 rfl glk_7_125 (by assumption) (Nat.le_of_ble_eq_true rfl) ⟨Nat.le_refl _, Nat.le_refl _⟩ (by omega) (m_doIt (d := 2) (a := 341) (T := S.T) (U := V) (Nat.le_refl _) hC0 h5.1.2.1 g1 h5.2.1 h3 (by omega) hi (by omega) (fun hc9 M2 f2 u2 => ?_) (fun hc9 M2 f2 u2 => ?_)) 
                · refine ⟨_, rfl, ?_⟩
                  refine s_if_lt_t (q := 79) (r := 85) hX dX7_lasts_76 rfl rfl (by decide) ?_
                  rw [if_neg (by rw [hc9]; decide)] at h2
                  have e2 : t = cn := by omega
                  rw [e2]
                  exact E M2 (h5.st o1 g4.1 g5.1 f2 u2).1 (h5.st o1 g4.1 g5.1 f2 u2).2.2
                · have hpl := payC_le hc9
                  have z0 : S.T.pay i k (V.tr i) 0 ≤ 99 := Nat.le_trans (hpl 0 (by omega)) (h3.1 _ (by omega))
                  have z1 : S.T.pay i k (V.tr i) 1 ≤ 99 := Nat.le_trans (hpl 1 (by omega)) (h3.1 _ (by omega))
                  have z2 : S.T.pay i k (V.tr i) 2 ≤ 99 := Nat.le_trans (hpl 2 (by omega)) (h3.1 _ (by omega))
                  refine ⟨_, rfl, ?_⟩
                  refine s_if_lt_f (q := 79) (r := 85) hX dX7_lasts_76 rfl rfl (nI_pos (by omega)) ?_
                  refine s_iinc (q := 82) (v := nI (t + 1)) (lv' := [(0, _), (1, _), (2, _), (3, _), (4, _), (5, _), (6, _)]) hX dX7_lasts_79 rfl rfl (nI_add (t) 1) (Nat.le_of_ble_eq_true rfl) rfl ?_
                  refine s_goto (q := 60) hX dX7_lasts_82 rfl ?_
                  rw [if_pos hc9] at h2
                  refine ih (t + 1) (S.T.act i k V) (fun s => h s - S.T.pay i k h s) M2 (by omega) (by omega) (S.T.act_ok h3).1 (fun s hs => ?_) (h5.st o1 g4.1 g5.1 f2 u2)
                  show h s - S.T.pay i k h s = _
                  rw [S.T.act_tr hc9 s hs, h4 s hs, S.T.pay_cg h4 hs]
            exact L n 0 S.U (S.U.tr i) M1 (by omega) (by rw [hcn]; rfl) g3.1 (fun _ _ => rfl) (TRM.init hS0 o1 g4.1 g5.1 f1 f2 f3)
