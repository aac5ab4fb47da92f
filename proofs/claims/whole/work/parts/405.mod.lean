set_option maxHeartbeats 4000000 in
set_option maxRecDepth 100000 in
theorem p_pass {d b : Nat} {x : Int32} {S : gA} {sh : List gS} {M : gM} {Q : Option Value → List gS → gM → Prop} (hd : 4 ≤ d) (hC : isMod sh) (hS : MOD M S) (hk : S.ok b) (hb : b ≤ 20000) (hcon : kM sh M (S.pass x) Q) : gC mX7_pass d 0 0 [.ref 83, .int x] sh M Q := by
  have hC0 := hC
  obtain ⟨y0, y1, y2, y3, y4, y5, y6, y7, y8, y9, y10, y11, y12, y13, y14, y15⟩ := hC
  have hS0 := hS
  have hk0 := hk
  obtain ⟨⟨a1, a1x⟩, a2, a3, ⟨a4, a4x⟩, ⟨a5, a5x⟩, a6⟩ := hS
  obtain ⟨g1, g2, g3, g4, g5, g6, g7⟩ := hk
  have g0 := g1
  obtain ⟨o1, o2, o3, o4, o5, o6, o7, o8⟩ := g0
  refine gC_of (rt := 1) (ini := false) gm_X7_pass rfl (by decide) (Nat.le_of_ble_eq_true rfl) (fun X hX => ?_)
  have L : ∀ (n : Nat), n ≤ 30 → rng x 1 31 = some n → ∀ (m i : Nat) (V : gU) (M' : gM), i + m = n → S.T.days m V = S.T.days n S.U → V.ok S.T.P → V.d + m ≤ 100000 → MOD M' (S.know.setU V) → (∀ c, c < 83 → M' c = M c) → X 18 [(0, .ref 83), (1, .int (nI n)), (2, .int (nI i))] [] sh M' 0 0 := by
    intro n hn rx m
    induction m with
    | zero =>
      intro i V M' h1 h2 h3 h4 h5 h6
      have e : i = n := by omega
      subst e
      have hdd : M' 93 0 = nI V.d := h5.2.2.1.1
      have h2 : V = S.T.days i S.U := h2
      have h39 := h3.2
      refine s_iload_n (q := 19) hX dX7_pass_18 rfl rfl ?_
      refine s_iload_n (q := 20) hX dX7_pass_19 rfl rfl ?_
      refine s_icmp_ge_t (q := 23) (r := 44) hX dX7_pass_20 rfl rfl (Int32.le_refl _) ?_
      refine s_aload_n (q := 45) hX dX7_pass_44 rfl rfl ?_
      refine s_getr (q := 48) hX dX7_pass_45 rfl gfl_7_38 (by assumption) rfl ?_
      refine s_iconst (q := 49) (v := 0) hX dX7_pass_48 rfl rfl ?_
      refine s_iald (k := 0) (q := 50) hX dX7_pass_49 rfl (by assumption) rfl (by omega) (by omega) ?_
      refine s_topi (v := nI (V.d)) hdd ?_
      refine s_bipush (q := 52) (v := 7) hX dX7_pass_50 rfl rfl (by decide) ?_
      refine s_irem (q := 53) (v := nI ((V.d) % 7)) hX dX7_pass_52 rfl (pk_rem (a := V.d) (d := 7) (by omega) (by decide) (by decide)) (by decide) ?_
      refine s_iret hX dX7_pass_53 (Or.inl rfl) ⟨Nat.le_refl _, Nat.le_refl _, Nat.le_refl _, ?_⟩
      exact hcon.ret (by unfold gA.pass; rw [rx]; dsimp only; rw [← h2]) h5 h6
    | succ m ih =>
      intro i V M' h1 h2 h3 h4 h5 h6
      obtain ⟨t1, t2⟩ := S.T.told_ok h3 S.T.P
      have t3 := S.T.sea_ok t1
      obtain ⟨t4, t5⟩ := S.T.day_ok h3 (by omega)
      refine s_iload_n (q := 19) hX dX7_pass_18 rfl rfl ?_
      refine s_iload_n (q := 20) hX dX7_pass_19 rfl rfl ?_
      refine s_icmp_ge_f (q := 23) (r := 44) hX dX7_pass_20 rfl rfl (nI_ge (by omega) (by omega)) ?_
      refine s_aload_n (q := 24) hX dX7_pass_23 rfl rfl ?_
      refine s_iconst (q := 25) (v := 0) hX dX7_pass_24 rfl rfl ?_
      refine s_invv1_0 (q := 28) hX dX7_pass_25 rfl glk_7_137 (by assumption) (Nat.le_of_ble_eq_true rfl) ⟨Nat.le_refl _, Nat.le_refl _⟩ (by omega) (m_toldDeeds (d := 3) (a := 0) (T := S.T) (U := V) (Nat.le_refl _) hC0 h5.2.1 g1 h5.2.2.1 h3 (by omega) (fun M1 f1 u1 => ?_)) 
      refine ⟨rfl, ?_⟩
      refine s_aload_n (q := 29) hX dX7_pass_28 rfl rfl ?_
      refine s_iconst (q := 30) (v := 0) hX dX7_pass_29 rfl rfl ?_
      refine s_invv1_0 (q := 33) hX dX7_pass_30 rfl glk_7_141 (by assumption) (Nat.le_of_ble_eq_true rfl) ⟨Nat.le_refl _, Nat.le_refl _⟩ (by omega) (m_seaAll (d := 1) (a := 0) (T := S.T) (Nat.le_refl _) hC0 (f1.tw h5.2.1) g1 u1 t1 (by omega) (fun M2 f2 u2 => ?_)) 
      refine ⟨rfl, ?_⟩
      refine s_aload_n (q := 34) hX dX7_pass_33 rfl rfl ?_
      refine s_iconst (q := 35) (v := 0) hX dX7_pass_34 rfl rfl ?_
      refine s_invv1_0 (q := 38) hX dX7_pass_35 rfl glk_7_144 (by assumption) (Nat.le_of_ble_eq_true rfl) ⟨Nat.le_refl _, Nat.le_refl _⟩ (by omega) (m_over (d := 0) (a := 0) (T := S.T) hC0 (f2.tw (f1.tw h5.2.1)) g1 u2 t3 (by omega) (fun M3 f3 u3 => ?_)) 
      refine ⟨rfl, ?_⟩
      refine s_iinc (q := 41) (v := nI (i + 1)) (lv' := [(0, _), (1, _), (2, _)]) hX dX7_pass_38 rfl rfl (nI_add (i) 1) (Nat.le_of_ble_eq_true rfl) rfl ?_
      refine s_goto (q := 18) hX dX7_pass_41 rfl ?_
      have ff := f1.tr (f2.tr f3)
      exact ih (i + 1) (S.T.day V) M3 (by omega) h2 t4 (by omega) (MOD.stU (S := S.know.setU V) h5 o1 (Nat.min_le_left _ _) g5.1 u3 ff) (fun c hc => by rw [ff.1 c (by omega) (by omega)]; exact h6 c hc)
  refine s_iload_n (q := 1) hX dX7_pass_0 rfl rfl ?_
  refine s_iconst (q := 2) (v := 1) hX dX7_pass_1 rfl rfl ?_
  refine s_bipush (q := 4) (v := 30) hX dX7_pass_2 rfl rfl (by decide) ?_
  refine s_invs3_1 (q := 7) hX dX7_pass_4 rfl glk_7_66 (by decide) (Nat.le_of_ble_eq_true rfl) ⟨Nat.le_refl _, Nat.le_refl _⟩ (by omega) (m_rng (d := 0) (x := x) (lo := 1) (n := 31) rfl rfl (by decide) (by decide) (fun rx => ?_) (fun n rx ln hn en => ?_)) 
  · refine ⟨_, rfl, ?_⟩
    refine s_if_ne_f (q := 10) (r := 12) hX dX7_pass_7 rfl rfl (by decide) ?_
    refine s_iconst (q := 11) (v := (-1)) hX dX7_pass_10 rfl rfl ?_
    refine s_iret hX dX7_pass_11 (Or.inl rfl) ⟨Nat.le_refl _, Nat.le_refl _, Nat.le_refl _, ?_⟩
    exact hcon.ret (by unfold gA.pass; rw [rx]) hS0 (fun _ _ => rfl)
  · subst en
    refine ⟨_, rfl, ?_⟩
    refine s_if_ne_t (q := 10) (r := 12) hX dX7_pass_7 rfl rfl (by decide) ?_
    refine s_aload_n (q := 13) hX dX7_pass_12 rfl rfl ?_
    refine s_invv0_0 (q := 16) hX dX7_pass_13 rfl glk_7_134 (by assumption) (Nat.le_of_ble_eq_true rfl) ⟨Nat.le_refl _, Nat.le_refl _⟩ (by omega) (m_know (d := 1) (Nat.le_refl _) hC0 hS0 hk0 hb (fun M1 w1 w2 => ?_)) 
    refine ⟨rfl, ?_⟩
    refine s_iconst (q := 17) (v := 0) hX dX7_pass_16 rfl rfl ?_
    refine s_istore_n (q := 18) (lv' := [(0, _), (1, _), (2, _)]) hX dX7_pass_17 rfl (Nat.le_of_ble_eq_true rfl) rfl ?_
    exact L n (by omega) rx n 0 S.U M1 (by omega) rfl g3.1 (by omega) w1 w2
set_option maxHeartbeats 4000000 in
set_option maxRecDepth 100000 in
theorem p_lend {d b : Nat} {x y z w : Int32} {S : gA} {sh : List gS} {M : gM} {Q : Option Value → List gS → gM → Prop} (hd : 2 ≤ d) (hC : isMod sh) (hS : MOD M S) (hk : S.ok b) (hb : b ≤ 20000) (hcon : kM sh M (S.lend x y z w) Q) : gC mX7_lend d 0 0 [.ref 83, .int x, .int y, .int z, .int w] sh M Q := by
  have hC0 := hC
  obtain ⟨y0, y1, y2, y3, y4, y5, y6, y7, y8, y9, y10, y11, y12, y13, y14, y15⟩ := hC
  have hS0 := hS
  have hk0 := hk
  obtain ⟨⟨a1, a1x⟩, a2, a3, ⟨a4, a4x⟩, ⟨a5, a5x⟩, a6⟩ := hS
  obtain ⟨g1, g2, g3, g4, g5, g6, g7⟩ := hk
  have g0 := g1
  obtain ⟨o1, o2, o3, o4, o5, o6, o7, o8⟩ := g0
  refine gC_of (rt := 1) (ini := false) gm_X7_lend rfl (by decide) (Nat.le_of_ble_eq_true rfl) (fun X hX => ?_)
  refine s_aload_n (q := 1) hX dX7_lend_0 rfl rfl ?_
  refine s_iload_n (q := 2) hX dX7_lend_1 rfl rfl ?_
  refine s_invv1_1 (q := 5) hX dX7_lend_2 rfl glk_7_104 (by assumption) (Nat.le_of_ble_eq_true rfl) ⟨Nat.le_refl _, Nat.le_refl _⟩ (by omega) (m_isPerson (d := 1) (x := x) (Nat.le_refl _) hC0 a2 g1 (fun ra => ?_) (fun i ra hi ei => ?_)) 
  · refine ⟨_, rfl, ?_⟩
    refine s_if_eq_t (q := 8) (r := 39) hX dX7_lend_5 rfl rfl (by decide) ?_
    refine s_iconst (q := 40) (v := (-1)) hX dX7_lend_39 rfl rfl ?_
    refine s_iret hX dX7_lend_40 (Or.inl rfl) ⟨Nat.le_refl _, Nat.le_refl _, Nat.le_refl _, ?_⟩
    exact hcon.ret (by first | (unfold gA.lend; rw [ra]; dsimp only; rw [rj]; dsimp only; rw [if_neg (by omega)]; rw [rc]; dsimp only; rw [rw]) | (unfold gA.lend; rw [ra]; dsimp only; rw [rj]; dsimp only; rw [if_neg (by omega)]; rw [rc]) | (unfold gA.lend; rw [ra]; dsimp only; rw [rj]; dsimp only; rw [if_pos (by omega)]) | (unfold gA.lend; rw [ra]; dsimp only; rw [rj]) | (unfold gA.lend; rw [ra])) hS0 (fun _ _ => rfl)
  · subst ei
    refine ⟨_, rfl, ?_⟩
    refine s_if_eq_f (q := 8) (r := 39) hX dX7_lend_5 rfl rfl (by decide) ?_
    refine s_aload_n (q := 9) hX dX7_lend_8 rfl rfl ?_
    refine s_iload_n (q := 10) hX dX7_lend_9 rfl rfl ?_
    refine s_invv1_1 (q := 13) hX dX7_lend_10 rfl glk_7_104 (by assumption) (Nat.le_of_ble_eq_true rfl) ⟨Nat.le_refl _, Nat.le_refl _⟩ (by omega) (m_isPerson (d := 1) (x := y) (Nat.le_refl _) hC0 a2 g1 (fun rj => ?_) (fun j rj hj ej => ?_)) 
    · refine ⟨_, rfl, ?_⟩
      refine s_if_eq_t (q := 16) (r := 39) hX dX7_lend_13 rfl rfl (by decide) ?_
      refine s_iconst (q := 40) (v := (-1)) hX dX7_lend_39 rfl rfl ?_
      refine s_iret hX dX7_lend_40 (Or.inl rfl) ⟨Nat.le_refl _, Nat.le_refl _, Nat.le_refl _, ?_⟩
      exact hcon.ret (by first | (unfold gA.lend; rw [ra]; dsimp only; rw [rj]; dsimp only; rw [if_neg (by omega)]; rw [rc]; dsimp only; rw [rw]) | (unfold gA.lend; rw [ra]; dsimp only; rw [rj]; dsimp only; rw [if_neg (by omega)]; rw [rc]) | (unfold gA.lend; rw [ra]; dsimp only; rw [rj]; dsimp only; rw [if_pos (by omega)]) | (unfold gA.lend; rw [ra]; dsimp only; rw [rj]) | (unfold gA.lend; rw [ra])) hS0 (fun _ _ => rfl)
    · subst ej
      refine ⟨_, rfl, ?_⟩
      refine s_if_eq_f (q := 16) (r := 39) hX dX7_lend_13 rfl rfl (by decide) ?_
      refine s_iload_n (q := 17) hX dX7_lend_16 rfl rfl ?_
      refine s_iload_n (q := 18) hX dX7_lend_17 rfl rfl ?_
      refine s_nicmp_eq (a := i) (b := j) (q := 21) (r := 39) hX dX7_lend_18 rfl rfl rfl rfl (by omega) (by omega) (fun c18 => ?_) (fun c18 => ?_)
      · refine s_iconst (q := 40) (v := (-1)) hX dX7_lend_39 rfl rfl ?_
        refine s_iret hX dX7_lend_40 (Or.inl rfl) ⟨Nat.le_refl _, Nat.le_refl _, Nat.le_refl _, ?_⟩
        exact hcon.ret (by first | (unfold gA.lend; rw [ra]; dsimp only; rw [rj]; dsimp only; rw [if_neg (by omega)]; rw [rc]; dsimp only; rw [rw]) | (unfold gA.lend; rw [ra]; dsimp only; rw [rj]; dsimp only; rw [if_neg (by omega)]; rw [rc]) | (unfold gA.lend; rw [ra]; dsimp only; rw [rj]; dsimp only; rw [if_pos (by omega)]) | (unfold gA.lend; rw [ra]; dsimp only; rw [rj]) | (unfold gA.lend; rw [ra])) hS0 (fun _ _ => rfl)
      · refine s_iload_n (q := 22) hX dX7_lend_21 rfl rfl ?_
        refine s_invs1_1 (q := 25) hX dX7_lend_22 rfl glk_7_147 (by decide) (Nat.le_of_ble_eq_true rfl) ⟨Nat.le_refl _, Nat.le_refl _⟩ (by omega) (m_isSort (d := 1) (x := z) (Nat.le_refl _) (fun rc => ?_) (fun s rc hs es => ?_)) 
        · refine ⟨_, rfl, ?_⟩
          refine s_if_eq_t (q := 28) (r := 39) hX dX7_lend_25 rfl rfl (by decide) ?_
          refine s_iconst (q := 40) (v := (-1)) hX dX7_lend_39 rfl rfl ?_
          refine s_iret hX dX7_lend_40 (Or.inl rfl) ⟨Nat.le_refl _, Nat.le_refl _, Nat.le_refl _, ?_⟩
          exact hcon.ret (by first | (unfold gA.lend; rw [ra]; dsimp only; rw [rj]; dsimp only; rw [if_neg (by omega)]; rw [rc]; dsimp only; rw [rw]) | (unfold gA.lend; rw [ra]; dsimp only; rw [rj]; dsimp only; rw [if_neg (by omega)]; rw [rc]) | (unfold gA.lend; rw [ra]; dsimp only; rw [rj]; dsimp only; rw [if_pos (by omega)]) | (unfold gA.lend; rw [ra]; dsimp only; rw [rj]) | (unfold gA.lend; rw [ra])) hS0 (fun _ _ => rfl)
        · subst es
          refine ⟨_, rfl, ?_⟩
          refine s_if_eq_f (q := 28) (r := 39) hX dX7_lend_25 rfl rfl (by decide) ?_
          refine s_iload (q := 30) hX dX7_lend_28 rfl rfl ?_
          refine s_iconst (q := 31) (v := 1) hX dX7_lend_30 rfl rfl ?_
          refine s_bipush (q := 33) (v := 99) hX dX7_lend_31 rfl rfl (by decide) ?_
          refine s_invs3_1 (q := 36) hX dX7_lend_33 rfl glk_7_66 (by decide) (Nat.le_of_ble_eq_true rfl) ⟨Nat.le_refl _, Nat.le_refl _⟩ (by omega) (m_rng (d := 0) (x := w) (lo := 1) (n := 100) rfl rfl (by decide) (by decide) (fun rw => ?_) (fun n rw ln hn en => ?_)) 
          · refine ⟨_, rfl, ?_⟩
            refine s_if_ne_f (q := 39) (r := 41) hX dX7_lend_36 rfl rfl (by decide) ?_
            refine s_iconst (q := 40) (v := (-1)) hX dX7_lend_39 rfl rfl ?_
            refine s_iret hX dX7_lend_40 (Or.inl rfl) ⟨Nat.le_refl _, Nat.le_refl _, Nat.le_refl _, ?_⟩
            exact hcon.ret (by first | (unfold gA.lend; rw [ra]; dsimp only; rw [rj]; dsimp only; rw [if_neg (by omega)]; rw [rc]; dsimp only; rw [rw]) | (unfold gA.lend; rw [ra]; dsimp only; rw [rj]; dsimp only; rw [if_neg (by omega)]; rw [rc]) | (unfold gA.lend; rw [ra]; dsimp only; rw [rj]; dsimp only; rw [if_pos (by omega)]) | (unfold gA.lend; rw [ra]; dsimp only; rw [rj]) | (unfold gA.lend; rw [ra])) hS0 (fun _ _ => rfl)
          · subst en
            refine ⟨_, rfl, ?_⟩
            refine s_if_ne_t (q := 39) (r := 41) hX dX7_lend_36 rfl rfl (by decide) ?_
            have hU1 := g3.1.1 (3 * i + s) (by omega)
            have hU2 := g3.1.1 (3 * j + s) (by omega)
            refine s_iconst (q := 42) (v := 1) hX dX7_lend_41 rfl rfl ?_
            refine s_iconst (q := 43) (v := 3) hX dX7_lend_42 rfl rfl ?_
            refine s_iload_n (q := 44) hX dX7_lend_43 rfl rfl ?_
            refine s_imul (q := 45) (v := nI (3 * i)) hX dX7_lend_44 rfl (pk_mul (3) (i)) ?_
            refine s_iadd (q := 46) (v := nI (1 + (3 * i))) hX dX7_lend_45 rfl (nI_add (1) (3 * i)) ?_
            refine s_iload_n (q := 47) hX dX7_lend_46 rfl rfl ?_
            refine s_iadd (q := 48) (v := nI (1 + (3 * i) + s)) hX dX7_lend_47 rfl (nI_add (1 + (3 * i)) (s)) ?_
            refine s_istore (q := 50) (lv' := [(0, _), (1, _), (2, _), (3, _), (4, _), (5, _)]) hX dX7_lend_48 rfl (Nat.le_of_ble_eq_true rfl) rfl ?_
            refine s_iconst (q := 51) (v := 1) hX dX7_lend_50 rfl rfl ?_
            refine s_iconst (q := 52) (v := 3) hX dX7_lend_51 rfl rfl ?_
            refine s_iload_n (q := 53) hX dX7_lend_52 rfl rfl ?_
            refine s_imul (q := 54) (v := nI (3 * j)) hX dX7_lend_53 rfl (pk_mul (3) (j)) ?_
            refine s_iadd (q := 55) (v := nI (1 + (3 * j))) hX dX7_lend_54 rfl (nI_add (1) (3 * j)) ?_
            refine s_iload_n (q := 56) hX dX7_lend_55 rfl rfl ?_
            refine s_iadd (q := 57) (v := nI (1 + (3 * j) + s)) hX dX7_lend_56 rfl (nI_add (1 + (3 * j)) (s)) ?_
            refine s_istore (q := 59) (lv' := [(0, _), (1, _), (2, _), (3, _), (4, _), (5, _), (6, _)]) hX dX7_lend_57 rfl (Nat.le_of_ble_eq_true rfl) rfl ?_
            refine s_aload_n (q := 60) hX dX7_lend_59 rfl rfl ?_
            refine s_getr (q := 63) hX dX7_lend_60 rfl gfl_7_38 (by assumption) rfl ?_
            refine s_iload (q := 65) hX dX7_lend_63 rfl rfl ?_
            refine s_iald (k := 1 + (3 * i) + s) (q := 66) hX dX7_lend_65 rfl (by assumption) rfl (by omega) (by omega) ?_
            refine s_topi (v := nI (S.U.h (3 * i + s))) (by rw [show 1 + 3 * i + s = 0 + 1 + (3 * i + s) by omega]; exact a3.2.1 _ (by omega)) ?_
            refine s_iload (q := 68) hX dX7_lend_66 rfl rfl ?_
            refine s_nicmp_ge (a := S.U.h (3 * i + s)) (b := n) (q := 71) (r := 74) hX dX7_lend_68 rfl rfl rfl rfl (by omega) (by omega) (fun c68 => ?_) (fun c68 => ?_)
            · refine s_aload_n (q := 75) hX dX7_lend_74 rfl rfl ?_
              refine s_getr (q := 78) hX dX7_lend_75 rfl gfl_7_38 (by assumption) rfl ?_
              refine s_iload (q := 80) hX dX7_lend_78 rfl rfl ?_
              refine s_iald (k := 1 + (3 * j) + s) (q := 81) hX dX7_lend_80 rfl (by assumption) rfl (by omega) (by omega) ?_
              refine s_topi (v := nI (S.U.h (3 * j + s))) (by rw [show 1 + 3 * j + s = 0 + 1 + (3 * j + s) by omega]; exact a3.2.1 _ (by omega)) ?_
              refine s_iload (q := 83) hX dX7_lend_81 rfl rfl ?_
              refine s_iadd (q := 84) (v := nI (S.U.h (3 * j + s) + n)) hX dX7_lend_83 rfl (nI_add (S.U.h (3 * j + s)) (n)) ?_
              refine s_bipush (q := 86) (v := 99) hX dX7_lend_84 rfl rfl (by decide) ?_
              refine s_nicmp_le (a := S.U.h (3 * j + s) + n) (b := 99) (q := 89) (r := 92) hX dX7_lend_86 rfl rfl rfl rfl (by omega) (by omega) (fun c86 => ?_) (fun c86 => ?_)
              · refine s_aload_n (q := 93) hX dX7_lend_92 rfl rfl ?_
                refine s_invv0_0 (q := 96) hX dX7_lend_93 rfl glk_7_134 (by assumption) (Nat.le_of_ble_eq_true rfl) ⟨Nat.le_refl _, Nat.le_refl _⟩ (by omega) (m_know (d := 1) (Nat.le_refl _) hC0 hS0 hk0 hb (fun M1 w1 w2 => ?_)) 
                have w3 : STM M1 0 S.T.P S.U := w1.2.2.1
                refine ⟨rfl, ?_⟩
                refine s_aload_n (q := 97) hX dX7_lend_96 rfl rfl ?_
                refine s_getr (q := 100) hX dX7_lend_97 rfl gfl_7_38 (by assumption) rfl ?_
                refine s_iload (q := 102) hX dX7_lend_100 rfl rfl ?_
                refine s_dup2 (q := 103) hX dX7_lend_102 rfl rfl rfl ?_
                refine s_iald (k := 1 + (3 * i) + s) (q := 104) hX dX7_lend_103 rfl (by assumption) rfl (by omega) (by omega) ?_
                refine s_topi (v := nI (S.U.h (3 * i + s))) (by rw [show 1 + 3 * i + s = 0 + 1 + (3 * i + s) by omega]; exact w3.2.1 _ (by omega)) ?_
                refine s_iload (q := 106) hX dX7_lend_104 rfl rfl ?_
                refine s_isub (q := 107) (v := nI (S.U.h (3 * i + s) - n)) hX dX7_lend_106 rfl (pk_sub (by omega)) ?_
                refine s_iast (k := 1 + (3 * i) + s) (q := 108) hX dX7_lend_107 rfl (by assumption) rfl (by omega) (by omega) ?_
                refine s_aload_n (q := 109) hX dX7_lend_108 rfl rfl ?_
                refine s_getr (q := 112) hX dX7_lend_109 rfl gfl_7_38 (by assumption) rfl ?_
                refine s_iload (q := 114) hX dX7_lend_112 rfl rfl ?_
                refine s_dup2 (q := 115) hX dX7_lend_114 rfl rfl rfl ?_
                refine s_iald (k := 1 + (3 * j) + s) (q := 116) hX dX7_lend_115 rfl (by assumption) rfl (by omega) (by omega) ?_
                refine s_topi (v := nI (S.U.h (3 * j + s))) (by rw [gsr_s, pk_un (by omega), show 1 + 3 * j + s = 0 + 1 + (3 * j + s) by omega]; exact w3.2.1 _ (by omega)) ?_
                refine s_iload (q := 118) hX dX7_lend_116 rfl rfl ?_
                refine s_iadd (q := 119) (v := nI (S.U.h (3 * j + s) + n)) hX dX7_lend_118 rfl (nI_add (S.U.h (3 * j + s)) (n)) ?_
                refine s_iast (k := 1 + (3 * j) + s) (q := 120) hX dX7_lend_119 rfl (by assumption) rfl (by omega) (by omega) ?_
                refine s_aload_n (q := 121) hX dX7_lend_120 rfl rfl ?_
                refine s_getr (q := 124) hX dX7_lend_121 rfl gfl_7_38 (by assumption) rfl ?_
                refine s_iload (q := 126) hX dX7_lend_124 rfl rfl ?_
                refine s_iald (k := 1 + (3 * j) + s) (q := 127) hX dX7_lend_126 rfl (by assumption) rfl (by omega) (by omega) ?_
                refine s_topi (v := nI (S.U.h (3 * j + s) + n)) (by rw [gsr_s, pk_us]) ?_
                refine s_iret hX dX7_lend_127 (Or.inl rfl) ⟨Nat.le_refl _, Nat.le_refl _, Nat.le_refl _, ?_⟩
                refine hcon.ret (by unfold gA.lend; rw [ra]; dsimp only; rw [rj]; dsimp only; rw [if_neg (by omega)]; rw [rc]; dsimp only; rw [rw]; dsimp only; rw [if_neg (by omega), if_neg (by omega)]) (w1.stU o1 (Nat.min_le_left _ _) g5.1 ⟨?_, fun q hq => ?_, fun q hq => ?_, fun q hq => ?_⟩ (FRM.tr (FRM.one (by omega) (by omega)) (FRM.one (by omega) (by omega)))) (fun c hc => by rw [gsr_n _ _ (by omega), gsr_n _ _ (by omega), w2 c hc])
                · rw [gsr_s, gsr_s, pk_un (by omega), pk_un (by omega)]; exact w3.1
                · rw [gsr_s, gsr_s]
                  show _ = nI (if q = 3 * j + s then S.U.h q + n else if q = 3 * i + s then S.U.h q - n else S.U.h q)
                  by_cases e1 : q = 3 * j + s
                  · subst e1; rw [if_pos rfl, show 0 + 1 + (3 * j + s) = 1 + 3 * j + s by omega, pk_us]
                  · rw [if_neg e1, pk_un (by omega)]
                    by_cases e2 : q = 3 * i + s
                    · subst e2; rw [if_pos rfl, show 0 + 1 + (3 * i + s) = 1 + 3 * i + s by omega, pk_us]
                    · rw [if_neg e2, pk_un (by omega)]; exact w3.2.1 q hq
                · have hq : q < S.T.P := hq
                  rw [gsr_s, gsr_s, pk_un (by omega), pk_un (by omega)]; exact w3.2.2.1 q hq
                · have hq : q < S.T.P := hq
                  rw [gsr_s, gsr_s, pk_un (by omega), pk_un (by omega)]; exact w3.2.2.2 q hq
              · refine s_bipush (q := 91) (v := (-3)) hX dX7_lend_89 rfl rfl (by decide) ?_
                refine s_iret hX dX7_lend_91 (Or.inl rfl) ⟨Nat.le_refl _, Nat.le_refl _, Nat.le_refl _, ?_⟩
                exact hcon.ret (by unfold gA.lend; rw [ra]; dsimp only; rw [rj]; dsimp only; rw [if_neg (by omega)]; rw [rc]; dsimp only; rw [rw]; dsimp only; rw [if_neg (by omega), if_pos (by omega)]) hS0 (fun _ _ => rfl)
            · refine s_bipush (q := 73) (v := (-2)) hX dX7_lend_71 rfl rfl (by decide) ?_
              refine s_iret hX dX7_lend_73 (Or.inl rfl) ⟨Nat.le_refl _, Nat.le_refl _, Nat.le_refl _, ?_⟩
              exact hcon.ret (by unfold gA.lend; rw [ra]; dsimp only; rw [rj]; dsimp only; rw [if_neg (by omega)]; rw [rc]; dsimp only; rw [rw]; dsimp only; rw [if_pos (by omega)]) hS0 (fun _ _ => rfl)
set_option maxHeartbeats 4000000 in
set_option maxRecDepth 100000 in
theorem p_sell {d b : Nat} {x z w : Int32} {S : gA} {sh : List gS} {M : gM} {Q : Option Value → List gS → gM → Prop} (hd : 2 ≤ d) (hC : isMod sh) (hS : MOD M S) (hk : S.ok b) (hb : b ≤ 20000) (hcon : kM sh M (S.sell x z w) Q) : gC mX7_sell d 0 0 [.ref 83, .int x, .int z, .int w] sh M Q := by
  have hC0 := hC
  obtain ⟨y0, y1, y2, y3, y4, y5, y6, y7, y8, y9, y10, y11, y12, y13, y14, y15⟩ := hC
  have hS0 := hS
  have hk0 := hk
  obtain ⟨⟨a1, a1x⟩, a2, a3, ⟨a4, a4x⟩, ⟨a5, a5x⟩, a6⟩ := hS
  obtain ⟨g1, g2, g3, g4, g5, g6, g7⟩ := hk
  have g0 := g1
  obtain ⟨o1, o2, o3, o4, o5, o6, o7, o8⟩ := g0
  refine gC_of (rt := 1) (ini := false) gm_X7_sell rfl (by decide) (Nat.le_of_ble_eq_true rfl) (fun X hX => ?_)
  refine s_aload_n (q := 1) hX dX7_sell_0 rfl rfl ?_
  refine s_iload_n (q := 2) hX dX7_sell_1 rfl rfl ?_
  refine s_invv1_1 (q := 5) hX dX7_sell_2 rfl glk_7_104 (by assumption) (Nat.le_of_ble_eq_true rfl) ⟨Nat.le_refl _, Nat.le_refl _⟩ (by omega) (m_isPerson (d := 1) (x := x) (Nat.le_refl _) hC0 a2 g1 (fun ra => ?_) (fun i ra hi ei => ?_)) 
  · refine ⟨_, rfl, ?_⟩
    refine s_if_eq_t (q := 8) (r := 25) hX dX7_sell_5 rfl rfl (by decide) ?_
    refine s_iconst (q := 26) (v := (-1)) hX dX7_sell_25 rfl rfl ?_
    refine s_iret hX dX7_sell_26 (Or.inl rfl) ⟨Nat.le_refl _, Nat.le_refl _, Nat.le_refl _, ?_⟩
    exact hcon.ret (by first | (unfold gA.sell; rw [ra]; dsimp only; rw [rc]; dsimp only; rw [rw]) | (unfold gA.sell; rw [ra]; dsimp only; rw [rc]) | (unfold gA.sell; rw [ra])) hS0 (fun _ _ => rfl)
  · subst ei
    refine ⟨_, rfl, ?_⟩
    refine s_if_eq_f (q := 8) (r := 25) hX dX7_sell_5 rfl rfl (by decide) ?_
    refine s_iload_n (q := 9) hX dX7_sell_8 rfl rfl ?_
    refine s_invs1_1 (q := 12) hX dX7_sell_9 rfl glk_7_147 (by decide) (Nat.le_of_ble_eq_true rfl) ⟨Nat.le_refl _, Nat.le_refl _⟩ (by omega) (m_isSort (d := 1) (x := z) (Nat.le_refl _) (fun rc => ?_) (fun s rc hs es => ?_)) 
    · refine ⟨_, rfl, ?_⟩
      refine s_if_eq_t (q := 15) (r := 25) hX dX7_sell_12 rfl rfl (by decide) ?_
      refine s_iconst (q := 26) (v := (-1)) hX dX7_sell_25 rfl rfl ?_
      refine s_iret hX dX7_sell_26 (Or.inl rfl) ⟨Nat.le_refl _, Nat.le_refl _, Nat.le_refl _, ?_⟩
      exact hcon.ret (by first | (unfold gA.sell; rw [ra]; dsimp only; rw [rc]; dsimp only; rw [rw]) | (unfold gA.sell; rw [ra]; dsimp only; rw [rc]) | (unfold gA.sell; rw [ra])) hS0 (fun _ _ => rfl)
    · subst es
      refine ⟨_, rfl, ?_⟩
      refine s_if_eq_f (q := 15) (r := 25) hX dX7_sell_12 rfl rfl (by decide) ?_
      refine s_iload_n (q := 16) hX dX7_sell_15 rfl rfl ?_
      refine s_iconst (q := 17) (v := 1) hX dX7_sell_16 rfl rfl ?_
      refine s_bipush (q := 19) (v := 99) hX dX7_sell_17 rfl rfl (by decide) ?_
      refine s_invs3_1 (q := 22) hX dX7_sell_19 rfl glk_7_66 (by decide) (Nat.le_of_ble_eq_true rfl) ⟨Nat.le_refl _, Nat.le_refl _⟩ (by omega) (m_rng (d := 0) (x := w) (lo := 1) (n := 100) rfl rfl (by decide) (by decide) (fun rw => ?_) (fun n rw ln hn en => ?_)) 
      · refine ⟨_, rfl, ?_⟩
        refine s_if_ne_f (q := 25) (r := 27) hX dX7_sell_22 rfl rfl (by decide) ?_
        refine s_iconst (q := 26) (v := (-1)) hX dX7_sell_25 rfl rfl ?_
        refine s_iret hX dX7_sell_26 (Or.inl rfl) ⟨Nat.le_refl _, Nat.le_refl _, Nat.le_refl _, ?_⟩
        exact hcon.ret (by first | (unfold gA.sell; rw [ra]; dsimp only; rw [rc]; dsimp only; rw [rw]) | (unfold gA.sell; rw [ra]; dsimp only; rw [rc]) | (unfold gA.sell; rw [ra])) hS0 (fun _ _ => rfl)
      · subst en
        refine ⟨_, rfl, ?_⟩
        refine s_if_ne_t (q := 25) (r := 27) hX dX7_sell_22 rfl rfl (by decide) ?_
        have hU1 := g3.1.1 (3 * i + s) (by omega)
        refine s_aload_n (q := 28) hX dX7_sell_27 rfl rfl ?_
        refine s_getr (q := 31) hX dX7_sell_28 rfl gfl_7_38 (by assumption) rfl ?_
        refine s_iconst (q := 32) (v := 1) hX dX7_sell_31 rfl rfl ?_
        refine s_iconst (q := 33) (v := 3) hX dX7_sell_32 rfl rfl ?_
        refine s_iload_n (q := 34) hX dX7_sell_33 rfl rfl ?_
        refine s_imul (q := 35) (v := nI (3 * i)) hX dX7_sell_34 rfl (pk_mul (3) (i)) ?_
        refine s_iadd (q := 36) (v := nI (1 + (3 * i))) hX dX7_sell_35 rfl (nI_add (1) (3 * i)) ?_
        refine s_iload_n (q := 37) hX dX7_sell_36 rfl rfl ?_
        refine s_iadd (q := 38) (v := nI (1 + (3 * i) + s)) hX dX7_sell_37 rfl (nI_add (1 + (3 * i)) (s)) ?_
        refine s_iald (k := 1 + (3 * i) + s) (q := 39) hX dX7_sell_38 rfl (by assumption) rfl (by omega) (by omega) ?_
        refine s_topi (v := nI (S.U.h (3 * i + s))) (by rw [show 1 + 3 * i + s = 0 + 1 + (3 * i + s) by omega]; exact a3.2.1 _ (by omega)) ?_
        refine s_iload_n (q := 40) hX dX7_sell_39 rfl rfl ?_
        refine s_nicmp_ge (a := S.U.h (3 * i + s)) (b := n) (q := 43) (r := 46) hX dX7_sell_40 rfl rfl rfl rfl (by omega) (by omega) (fun c40 => ?_) (fun c40 => ?_)
        · refine s_aload_n (q := 47) hX dX7_sell_46 rfl rfl ?_
          refine s_invv0_0 (q := 50) hX dX7_sell_47 rfl glk_7_134 (by assumption) (Nat.le_of_ble_eq_true rfl) ⟨Nat.le_refl _, Nat.le_refl _⟩ (by omega) (m_know (d := 1) (Nat.le_refl _) hC0 hS0 hk0 hb (fun M1 w1 w2 => ?_)) 
          have w3 : STM M1 0 S.T.P S.U := w1.2.2.1
          refine ⟨rfl, ?_⟩
          refine s_aload_n (q := 51) hX dX7_sell_50 rfl rfl ?_
          refine s_getr (q := 54) hX dX7_sell_51 rfl gfl_7_38 (by assumption) rfl ?_
          refine s_iconst (q := 55) (v := 1) hX dX7_sell_54 rfl rfl ?_
          refine s_iconst (q := 56) (v := 3) hX dX7_sell_55 rfl rfl ?_
          refine s_iload_n (q := 57) hX dX7_sell_56 rfl rfl ?_
          refine s_imul (q := 58) (v := nI (3 * i)) hX dX7_sell_57 rfl (pk_mul (3) (i)) ?_
          refine s_iadd (q := 59) (v := nI (1 + (3 * i))) hX dX7_sell_58 rfl (nI_add (1) (3 * i)) ?_
          refine s_iload_n (q := 60) hX dX7_sell_59 rfl rfl ?_
          refine s_iadd (q := 61) (v := nI (1 + (3 * i) + s)) hX dX7_sell_60 rfl (nI_add (1 + (3 * i)) (s)) ?_
          refine s_dup2 (q := 62) hX dX7_sell_61 rfl rfl rfl ?_
          refine s_iald (k := 1 + (3 * i) + s) (q := 63) hX dX7_sell_62 rfl (by assumption) rfl (by omega) (by omega) ?_
          refine s_topi (v := nI (S.U.h (3 * i + s))) (by rw [show 1 + 3 * i + s = 0 + 1 + (3 * i + s) by omega]; exact w3.2.1 _ (by omega)) ?_
          refine s_iload_n (q := 64) hX dX7_sell_63 rfl rfl ?_
          refine s_isub (q := 65) (v := nI (S.U.h (3 * i + s) - n)) hX dX7_sell_64 rfl (pk_sub (by omega)) ?_
          refine s_iast (k := 1 + (3 * i) + s) (q := 66) hX dX7_sell_65 rfl (by assumption) rfl (by omega) (by omega) ?_
          refine s_aload_n (q := 67) hX dX7_sell_66 rfl rfl ?_
          refine s_getr (q := 70) hX dX7_sell_67 rfl gfl_7_38 (by assumption) rfl ?_
          refine s_bipush (q := 72) (v := 19) hX dX7_sell_70 rfl rfl (by decide) ?_
          refine s_iload_n (q := 73) hX dX7_sell_72 rfl rfl ?_
          refine s_iadd (q := 74) (v := nI (19 + i)) hX dX7_sell_73 rfl (nI_add (19) (i)) ?_
          refine s_dup2 (q := 75) hX dX7_sell_74 rfl rfl rfl ?_
          refine s_iald (k := 19 + i) (q := 76) hX dX7_sell_75 rfl (by assumption) rfl (by omega) (by omega) ?_
          refine s_iload_n (q := 77) hX dX7_sell_76 rfl rfl ?_
          refine s_aload_n (q := 78) hX dX7_sell_77 rfl rfl ?_
          refine s_getr (q := 81) hX dX7_sell_78 rfl gfl_7_35 (by assumption) rfl ?_
          refine s_iconst (q := 82) (v := 0) hX dX7_sell_81 rfl rfl ?_
          refine s_iald (k := 0) (q := 83) hX dX7_sell_82 rfl (by assumption) rfl (by omega) (by omega) ?_
          refine s_topi (v := nI (S.T.pr)) (by rw [gsr_n _ _ (by decide)]; exact w1.2.1.2.2.1) ?_
          refine s_imul (q := 84) (v := nI (n * (S.T.pr))) hX dX7_sell_83 rfl (pk_mul (n) (S.T.pr)) ?_
          refine s_iadd (q := 85) hX dX7_sell_84 rfl rfl ?_
          refine s_iast (k := 19 + i) (q := 86) hX dX7_sell_85 rfl (by assumption) rfl (by omega) (by omega) ?_
          refine s_aload_n (q := 87) hX dX7_sell_86 rfl rfl ?_
          refine s_getr (q := 90) hX dX7_sell_87 rfl gfl_7_38 (by assumption) rfl ?_
          refine s_bipush (q := 92) (v := 19) hX dX7_sell_90 rfl rfl (by decide) ?_
          refine s_iload_n (q := 93) hX dX7_sell_92 rfl rfl ?_
          refine s_iadd (q := 94) (v := nI (19 + i)) hX dX7_sell_93 rfl (nI_add (19) (i)) ?_
          refine s_iald (k := 19 + i) (q := 95) hX dX7_sell_94 rfl (by assumption) rfl (by omega) (by omega) ?_
          refine s_iret hX dX7_sell_95 (Or.inl rfl) ⟨Nat.le_refl _, Nat.le_refl _, Nat.le_refl _, ?_⟩
          have hci : M1 93 (19 + i) = S.U.c i := w3.2.2.1 i hi
          refine hcon.ret (by unfold gA.sell; rw [ra]; dsimp only; rw [rc]; dsimp only; rw [rw]; dsimp only; rw [if_neg (by omega)]; refine congrArg (fun z => (z, _)) ?_; rw [gsr_s, pk_us, gsr_s, pk_un (by omega), hci]) (w1.stU o1 (Nat.min_le_left _ _) g5.1 ⟨?_, fun q hq => ?_, fun q hq => ?_, fun q hq => ?_⟩ (FRM.tr (FRM.one (by omega) (by omega)) (FRM.one (by omega) (by omega)))) (fun c hc => by rw [gsr_n _ _ (by omega), gsr_n _ _ (by omega), w2 c hc])
          · rw [gsr_s, gsr_s, pk_un (by omega), pk_un (by omega)]; exact w3.1
          · have hq : q < 3 * S.T.P := hq
            rw [gsr_s, gsr_s, pk_un (by omega)]
            show _ = nI (if q = 3 * i + s then S.U.h q - n else S.U.h q)
            by_cases e2 : q = 3 * i + s
            · subst e2; rw [if_pos rfl, show 0 + 1 + (3 * i + s) = 1 + 3 * i + s by omega, pk_us]
            · rw [if_neg e2, pk_un (by omega)]; exact w3.2.1 q hq
          · have hq : q < S.T.P := hq
            show _ = (if q = i then S.U.c i + nI (n * S.T.pr) else S.U.c q)
            rw [gsr_s, gsr_s]
            by_cases e2 : q = i
            · subst e2; rw [if_pos rfl, show 0 + 19 + q = 19 + q by omega, pk_us, pk_un (by omega), hci]
            · rw [if_neg e2, pk_un (by omega), pk_un (by omega)]; exact w3.2.2.1 q hq
          · have hq : q < S.T.P := hq
            rw [gsr_s, gsr_s, pk_un (by omega), pk_un (by omega)]; exact w3.2.2.2 q hq
        · refine s_bipush (q := 45) (v := (-2)) hX dX7_sell_43 rfl rfl (by decide) ?_
          refine s_iret hX dX7_sell_45 (Or.inl rfl) ⟨Nat.le_refl _, Nat.le_refl _, Nat.le_refl _, ?_⟩
          exact hcon.ret (by unfold gA.sell; rw [ra]; dsimp only; rw [rc]; dsimp only; rw [rw]; dsimp only; rw [if_pos (by omega)]) hS0 (fun _ _ => rfl)
