set_option maxHeartbeats 4000000 in
set_option maxRecDepth 100000 in
theorem m_rng {d lo n : Nat} {x lo' hi' : Int32} {sh : List gS} {M : gM} {Q : Option Value → List gS → gM → Prop} (h1 : lo' = nI lo) (h2 : hi' = nI n - 1) (hl : lo ≤ 100000) (hn : n ≤ 100000) (hcon0 : rng x lo n = none → Q (some (.int 0)) sh M) (hcon1 : ∀ i, rng x lo n = some i → lo ≤ i → i < n → x = nI i → Q (some (.int 1)) sh M) : gC mX7_in d 0 0 [.int x, .int lo', .int hi'] sh M Q := by
  subst h1 h2
  refine gC_of (rt := 2) (ini := false) gm_X7_in rfl (by decide) (Nat.le_of_ble_eq_true rfl) (fun X hX => ?_)
  refine s_iload_n (q := 1) hX dX7_in_0 rfl rfl ?_
  refine s_iload_n (q := 2) hX dX7_in_1 rfl rfl ?_
  refine s_icmp_lt (q := 5) (r := 14) hX dX7_in_2 rfl rfl (fun c2 => ?_) (fun c2 => ?_)
  · refine s_iconst (q := 15) (v := 0) hX dX7_in_14 rfl rfl ?_
    refine s_iret hX dX7_in_15 (Or.inr ⟨rfl, Or.inl rfl⟩) ⟨Nat.le_refl _, Nat.le_refl _, Nat.le_refl _, ?_⟩
    exact hcon0 (rng_n hl hn (fun z => Int32.not_le.mpr c2 z.1))
  · refine s_iload_n (q := 6) hX dX7_in_5 rfl rfl ?_
    refine s_iload_n (q := 7) hX dX7_in_6 rfl rfl ?_
    refine s_icmp_gt (q := 10) (r := 14) hX dX7_in_7 rfl rfl (fun c7 => ?_) (fun c7 => ?_)
    · refine s_iconst (q := 15) (v := 0) hX dX7_in_14 rfl rfl ?_
      refine s_iret hX dX7_in_15 (Or.inr ⟨rfl, Or.inl rfl⟩) ⟨Nat.le_refl _, Nat.le_refl _, Nat.le_refl _, ?_⟩
      exact hcon0 (rng_n hl hn (fun z => Int32.not_le.mpr c7 z.2))
    · refine s_iconst (q := 11) (v := 1) hX dX7_in_10 rfl rfl ?_
      refine s_goto (q := 15) hX dX7_in_11 rfl ?_
      refine s_iret hX dX7_in_15 (Or.inr ⟨rfl, Or.inr rfl⟩) ⟨Nat.le_refl _, Nat.le_refl _, Nat.le_refl _, ?_⟩
      obtain ⟨i, hi⟩ := rng_y (x := x) hl hn ⟨Int32.not_lt.mp c2, Int32.not_lt.mp c7⟩
      obtain ⟨k1, k2, k3⟩ := rng_s hi
      exact hcon1 i hi k1 k2 k3
set_option maxHeartbeats 4000000 in
set_option maxRecDepth 100000 in
theorem m_isPerson {d : Nat} {x : Int32} {T : gT} {sh : List gS} {M : gM} {Q : Option Value → List gS → gM → Prop} (hd : 1 ≤ d) (hC : isMod sh) (hW : TWM M T) (hT : T.ok) (hcon0 : rng x 0 T.P = none → Q (some (.int 0)) sh M) (hcon1 : ∀ i, rng x 0 T.P = some i → i < T.P → x = nI i → Q (some (.int 1)) sh M) : gC mX7_isPerson d 0 0 [.ref 83, .int x] sh M Q := by
  have hC0 := hC
  obtain ⟨y0, y1, y2, y3, y4, y5, y6, y7, y8, y9, y10, y11, y12, y13, y14, y15⟩ := hC
  have hp := hW.1
  obtain ⟨o1, o2, o3, o4, o5, o6, o7, o8⟩ := hT
  refine gC_of (rt := 2) (ini := false) gm_X7_isPerson rfl (by decide) (Nat.le_of_ble_eq_true rfl) (fun X hX => ?_)
  refine s_iload_n (q := 1) hX dX7_isPerson_0 rfl rfl ?_
  refine s_iconst (q := 2) (v := 0) hX dX7_isPerson_1 rfl rfl ?_
  refine s_aload_n (q := 3) hX dX7_isPerson_2 rfl rfl ?_
  refine s_getr (q := 6) hX dX7_isPerson_3 rfl gfl_7_13 (by assumption) rfl ?_
  refine s_iconst (q := 7) (v := 0) hX dX7_isPerson_6 rfl rfl ?_
  refine s_iald (k := 0) (q := 8) hX dX7_isPerson_7 rfl (by assumption) rfl (by omega) (by omega) ?_
  refine s_topi (v := nI (T.P)) hp ?_
  refine s_iconst (q := 9) (v := 1) hX dX7_isPerson_8 rfl rfl ?_
  refine s_isub (q := 10) hX dX7_isPerson_9 rfl rfl ?_
  refine s_invs3_1 (q := 13) hX dX7_isPerson_10 rfl glk_7_66 (by decide) (Nat.le_of_ble_eq_true rfl) ⟨Nat.le_refl _, Nat.le_refl _⟩ (by omega) (m_rng (d := 0) (x := x) (lo := 0) (n := T.P) rfl rfl (by omega) (by omega) (fun r1 => ?_) (fun i r1 l1 h1 e1 => ?_)) 
  · refine ⟨_, rfl, ?_⟩
    refine s_iret hX dX7_isPerson_13 (Or.inr ⟨rfl, Or.inl rfl⟩) ⟨Nat.le_refl _, Nat.le_refl _, Nat.le_refl _, ?_⟩
    exact hcon0 r1
  · refine ⟨_, rfl, ?_⟩
    refine s_iret hX dX7_isPerson_13 (Or.inr ⟨rfl, Or.inr rfl⟩) ⟨Nat.le_refl _, Nat.le_refl _, Nat.le_refl _, ?_⟩
    exact hcon1 i r1 h1 e1
set_option maxHeartbeats 4000000 in
set_option maxRecDepth 100000 in
theorem m_isDeed {d : Nat} {x : Int32} {T : gT} {sh : List gS} {M : gM} {Q : Option Value → List gS → gM → Prop} (hd : 1 ≤ d) (hC : isMod sh) (hW : TWM M T) (hT : T.ok) (hcon0 : rng x 0 T.D = none → Q (some (.int 0)) sh M) (hcon1 : ∀ i, rng x 0 T.D = some i → i < T.D → x = nI i → Q (some (.int 1)) sh M) : gC mX7_isDeed d 0 0 [.ref 83, .int x] sh M Q := by
  have hC0 := hC
  obtain ⟨y0, y1, y2, y3, y4, y5, y6, y7, y8, y9, y10, y11, y12, y13, y14, y15⟩ := hC
  have hp := hW.2.1
  obtain ⟨o1, o2, o3, o4, o5, o6, o7, o8⟩ := hT
  refine gC_of (rt := 2) (ini := false) gm_X7_isDeed rfl (by decide) (Nat.le_of_ble_eq_true rfl) (fun X hX => ?_)
  refine s_iload_n (q := 1) hX dX7_isDeed_0 rfl rfl ?_
  refine s_iconst (q := 2) (v := 0) hX dX7_isDeed_1 rfl rfl ?_
  refine s_aload_n (q := 3) hX dX7_isDeed_2 rfl rfl ?_
  refine s_getr (q := 6) hX dX7_isDeed_3 rfl gfl_7_23 (by assumption) rfl ?_
  refine s_iconst (q := 7) (v := 0) hX dX7_isDeed_6 rfl rfl ?_
  refine s_iald (k := 0) (q := 8) hX dX7_isDeed_7 rfl (by assumption) rfl (by omega) (by omega) ?_
  refine s_topi (v := nI (T.D)) hp ?_
  refine s_iconst (q := 9) (v := 1) hX dX7_isDeed_8 rfl rfl ?_
  refine s_isub (q := 10) hX dX7_isDeed_9 rfl rfl ?_
  refine s_invs3_1 (q := 13) hX dX7_isDeed_10 rfl glk_7_66 (by decide) (Nat.le_of_ble_eq_true rfl) ⟨Nat.le_refl _, Nat.le_refl _⟩ (by omega) (m_rng (d := 0) (x := x) (lo := 0) (n := T.D) rfl rfl (by omega) (by omega) (fun r1 => ?_) (fun i r1 l1 h1 e1 => ?_)) 
  · refine ⟨_, rfl, ?_⟩
    refine s_iret hX dX7_isDeed_13 (Or.inr ⟨rfl, Or.inl rfl⟩) ⟨Nat.le_refl _, Nat.le_refl _, Nat.le_refl _, ?_⟩
    exact hcon0 r1
  · refine ⟨_, rfl, ?_⟩
    refine s_iret hX dX7_isDeed_13 (Or.inr ⟨rfl, Or.inr rfl⟩) ⟨Nat.le_refl _, Nat.le_refl _, Nat.le_refl _, ?_⟩
    exact hcon1 i r1 h1 e1
set_option maxHeartbeats 4000000 in
set_option maxRecDepth 100000 in
theorem m_isSort {d : Nat} {x : Int32} {sh : List gS} {M : gM} {Q : Option Value → List gS → gM → Prop} (hd : 1 ≤ d) (hcon0 : rng x 0 3 = none → Q (some (.int 0)) sh M) (hcon1 : ∀ i, rng x 0 3 = some i → i < 3 → x = nI i → Q (some (.int 1)) sh M) : gC mX7_isSort d 0 0 [.int x] sh M Q := by
  refine gC_of (rt := 2) (ini := false) gm_X7_isSort rfl (by decide) (Nat.le_of_ble_eq_true rfl) (fun X hX => ?_)
  refine s_iload_n (q := 1) hX dX7_isSort_0 rfl rfl ?_
  refine s_iconst (q := 2) (v := 0) hX dX7_isSort_1 rfl rfl ?_
  refine s_iconst (q := 3) (v := 2) hX dX7_isSort_2 rfl rfl ?_
  refine s_invs3_1 (q := 6) hX dX7_isSort_3 rfl glk_7_66 (by decide) (Nat.le_of_ble_eq_true rfl) ⟨Nat.le_refl _, Nat.le_refl _⟩ (by omega) (m_rng (d := 0) (x := x) (lo := 0) (n := 3) rfl rfl (by decide) (by decide) (fun r1 => ?_) (fun i r1 l1 h1 e1 => ?_)) 
  · refine ⟨_, rfl, ?_⟩
    refine s_iret hX dX7_isSort_6 (Or.inr ⟨rfl, Or.inl rfl⟩) ⟨Nat.le_refl _, Nat.le_refl _, Nat.le_refl _, ?_⟩
    exact hcon0 r1
  · refine ⟨_, rfl, ?_⟩
    refine s_iret hX dX7_isSort_6 (Or.inr ⟨rfl, Or.inr rfl⟩) ⟨Nat.le_refl _, Nat.le_refl _, Nat.le_refl _, ?_⟩
    exact hcon1 i r1 h1 e1
set_option maxHeartbeats 4000000 in
set_option maxRecDepth 100000 in
theorem m_hue {d a : Nat} {T : gT} {U : gU} {i : Nat} {sh : List gS} {M : gM} {Q : Option Value → List gS → gM → Prop} (hC : isMod sh) (hW : TWM M T) (g1 : T.ok) (hU : STM M a T.P U) (hUk : U.ok T.P) (ha : a + 31 ≤ 372) (hi : i < T.P) (hcon : Q (some (.int (nI (hueN (U.tr i))))) sh M) : gC mX7_hue d 0 0 [.ref 83, .int (nI a), .int (nI i)] sh M Q := by
  have hC0 := hC
  obtain ⟨y0, y1, y2, y3, y4, y5, y6, y7, y8, y9, y10, y11, y12, y13, y14, y15⟩ := hC
  have g0 := g1
  obtain ⟨o1, o2, o3, o4, o5, o6, o7, o8⟩ := g0
  have h0 := hU.2.1 (3 * i + 0) (by omega)
  have b0 := hUk.1 (3 * i + 0) (by omega)
  have h1 := hU.2.1 (3 * i + 1) (by omega)
  have b1 := hUk.1 (3 * i + 1) (by omega)
  have h2 := hU.2.1 (3 * i + 2) (by omega)
  have b2 := hUk.1 (3 * i + 2) (by omega)
  refine gC_of (rt := 1) (ini := false) gm_X7_hue rfl (by decide) (Nat.le_of_ble_eq_true rfl) (fun X hX => ?_)
  refine s_iconst (q := 1) (v := 0) hX dX7_hue_0 rfl rfl ?_
  refine s_istore_n (q := 2) (lv' := [(0, _), (1, _), (2, _), (3, _)]) hX dX7_hue_1 rfl (Nat.le_of_ble_eq_true rfl) rfl ?_
  refine s_iconst (q := 3) (v := 0) hX dX7_hue_2 rfl rfl ?_
  refine s_istore (q := 5) (lv' := [(0, _), (1, _), (2, _), (3, _), (4, _)]) hX dX7_hue_3 rfl (Nat.le_of_ble_eq_true rfl) rfl ?_
  refine s_iload (q := 7) hX dX7_hue_5 rfl rfl ?_
  refine s_iconst (q := 8) (v := 3) hX dX7_hue_7 rfl rfl ?_
  refine s_icmp_ge_f (q := 11) (r := 46) hX dX7_hue_8 rfl rfl (by decide) ?_
  refine s_iload_n (q := 12) hX dX7_hue_11 rfl rfl ?_
  refine s_aload_n (q := 13) hX dX7_hue_12 rfl rfl ?_
  refine s_getr (q := 16) hX dX7_hue_13 rfl gfl_7_38 (by assumption) rfl ?_
  refine s_iload_n (q := 17) hX dX7_hue_16 rfl rfl ?_
  refine s_iconst (q := 18) (v := 1) hX dX7_hue_17 rfl rfl ?_
  refine s_iadd (q := 19) (v := nI (a + 1)) hX dX7_hue_18 rfl (nI_add (a) (1)) ?_
  refine s_iconst (q := 20) (v := 3) hX dX7_hue_19 rfl rfl ?_
  refine s_iload_n (q := 21) hX dX7_hue_20 rfl rfl ?_
  refine s_imul (q := 22) (v := nI (3 * i)) hX dX7_hue_21 rfl (pk_mul (3) (i)) ?_
  refine s_iadd (q := 23) (v := nI (a + 1 + (3 * i))) hX dX7_hue_22 rfl (nI_add (a + 1) (3 * i)) ?_
  refine s_iload (q := 25) hX dX7_hue_23 rfl rfl ?_
  refine s_iadd (q := 26) (v := nI (a + 1 + (3 * i) + 0)) hX dX7_hue_25 rfl (nI_add (a + 1 + (3 * i)) (0)) ?_
  refine s_iald (k := a + 1 + (3 * i) + 0) (q := 27) hX dX7_hue_26 rfl (by assumption) rfl (by omega) (by omega) ?_
  refine s_topi (v := nI (U.h (3 * i + 0))) (by first | exact h0 | (rw [← Nat.add_assoc] at h0; exact h0)) ?_
  refine s_nif_le (a := U.h (3 * i + 0)) (b := 0) (q := 30) (r := 37) hX dX7_hue_27 rfl rfl rfl rfl (by omega) (by omega) (fun c27 => ?_) (fun c27 => ?_)
  · refine s_iconst (q := 38) (v := 0) hX dX7_hue_37 rfl rfl ?_
    refine s_ior (q := 39) (v := 0) hX dX7_hue_38 rfl (by decide) ?_
    refine s_istore_n (q := 40) (lv' := [(0, _), (1, _), (2, _), (3, _), (4, _)]) hX dX7_hue_39 rfl (Nat.le_of_ble_eq_true rfl) rfl ?_
    refine s_iinc (q := 43) (v := 1) (lv' := [(0, _), (1, _), (2, _), (3, _), (4, _)]) hX dX7_hue_40 rfl rfl (by decide) (Nat.le_of_ble_eq_true rfl) rfl ?_
    refine s_goto (q := 5) hX dX7_hue_43 rfl ?_
    refine s_iload (q := 7) hX dX7_hue_5 rfl rfl ?_
    refine s_iconst (q := 8) (v := 3) hX dX7_hue_7 rfl rfl ?_
    refine s_icmp_ge_f (q := 11) (r := 46) hX dX7_hue_8 rfl rfl (by decide) ?_
    refine s_iload_n (q := 12) hX dX7_hue_11 rfl rfl ?_
    refine s_aload_n (q := 13) hX dX7_hue_12 rfl rfl ?_
    refine s_getr (q := 16) hX dX7_hue_13 rfl gfl_7_38 (by assumption) rfl ?_
    refine s_iload_n (q := 17) hX dX7_hue_16 rfl rfl ?_
    refine s_iconst (q := 18) (v := 1) hX dX7_hue_17 rfl rfl ?_
    refine s_iadd (q := 19) (v := nI (a + 1)) hX dX7_hue_18 rfl (nI_add (a) (1)) ?_
    refine s_iconst (q := 20) (v := 3) hX dX7_hue_19 rfl rfl ?_
    refine s_iload_n (q := 21) hX dX7_hue_20 rfl rfl ?_
    refine s_imul (q := 22) (v := nI (3 * i)) hX dX7_hue_21 rfl (pk_mul (3) (i)) ?_
    refine s_iadd (q := 23) (v := nI (a + 1 + (3 * i))) hX dX7_hue_22 rfl (nI_add (a + 1) (3 * i)) ?_
    refine s_iload (q := 25) hX dX7_hue_23 rfl rfl ?_
    refine s_iadd (q := 26) (v := nI (a + 1 + (3 * i) + 1)) hX dX7_hue_25 rfl (nI_add (a + 1 + (3 * i)) (1)) ?_
    refine s_iald (k := a + 1 + (3 * i) + 1) (q := 27) hX dX7_hue_26 rfl (by assumption) rfl (by omega) (by omega) ?_
    refine s_topi (v := nI (U.h (3 * i + 1))) (by first | exact h1 | (rw [← Nat.add_assoc] at h1; exact h1)) ?_
    refine s_nif_le (a := U.h (3 * i + 1)) (b := 0) (q := 30) (r := 37) hX dX7_hue_27 rfl rfl rfl rfl (by omega) (by omega) (fun c27_1 => ?_) (fun c27_1 => ?_)
    · refine s_iconst (q := 38) (v := 0) hX dX7_hue_37 rfl rfl ?_
      refine s_ior (q := 39) (v := 0) hX dX7_hue_38 rfl (by decide) ?_
      refine s_istore_n (q := 40) (lv' := [(0, _), (1, _), (2, _), (3, _), (4, _)]) hX dX7_hue_39 rfl (Nat.le_of_ble_eq_true rfl) rfl ?_
      refine s_iinc (q := 43) (v := 2) (lv' := [(0, _), (1, _), (2, _), (3, _), (4, _)]) hX dX7_hue_40 rfl rfl (by decide) (Nat.le_of_ble_eq_true rfl) rfl ?_
      refine s_goto (q := 5) hX dX7_hue_43 rfl ?_
      refine s_iload (q := 7) hX dX7_hue_5 rfl rfl ?_
      refine s_iconst (q := 8) (v := 3) hX dX7_hue_7 rfl rfl ?_
      refine s_icmp_ge_f (q := 11) (r := 46) hX dX7_hue_8 rfl rfl (by decide) ?_
      refine s_iload_n (q := 12) hX dX7_hue_11 rfl rfl ?_
      refine s_aload_n (q := 13) hX dX7_hue_12 rfl rfl ?_
      refine s_getr (q := 16) hX dX7_hue_13 rfl gfl_7_38 (by assumption) rfl ?_
      refine s_iload_n (q := 17) hX dX7_hue_16 rfl rfl ?_
      refine s_iconst (q := 18) (v := 1) hX dX7_hue_17 rfl rfl ?_
      refine s_iadd (q := 19) (v := nI (a + 1)) hX dX7_hue_18 rfl (nI_add (a) (1)) ?_
      refine s_iconst (q := 20) (v := 3) hX dX7_hue_19 rfl rfl ?_
      refine s_iload_n (q := 21) hX dX7_hue_20 rfl rfl ?_
      refine s_imul (q := 22) (v := nI (3 * i)) hX dX7_hue_21 rfl (pk_mul (3) (i)) ?_
      refine s_iadd (q := 23) (v := nI (a + 1 + (3 * i))) hX dX7_hue_22 rfl (nI_add (a + 1) (3 * i)) ?_
      refine s_iload (q := 25) hX dX7_hue_23 rfl rfl ?_
      refine s_iadd (q := 26) (v := nI (a + 1 + (3 * i) + 2)) hX dX7_hue_25 rfl (nI_add (a + 1 + (3 * i)) (2)) ?_
      refine s_iald (k := a + 1 + (3 * i) + 2) (q := 27) hX dX7_hue_26 rfl (by assumption) rfl (by omega) (by omega) ?_
      refine s_topi (v := nI (U.h (3 * i + 2))) (by first | exact h2 | (rw [← Nat.add_assoc] at h2; exact h2)) ?_
      refine s_nif_le (a := U.h (3 * i + 2)) (b := 0) (q := 30) (r := 37) hX dX7_hue_27 rfl rfl rfl rfl (by omega) (by omega) (fun c27_2 => ?_) (fun c27_2 => ?_)
      · refine s_iconst (q := 38) (v := 0) hX dX7_hue_37 rfl rfl ?_
        refine s_ior (q := 39) (v := 0) hX dX7_hue_38 rfl (by decide) ?_
        refine s_istore_n (q := 40) (lv' := [(0, _), (1, _), (2, _), (3, _), (4, _)]) hX dX7_hue_39 rfl (Nat.le_of_ble_eq_true rfl) rfl ?_
        refine s_iinc (q := 43) (v := 3) (lv' := [(0, _), (1, _), (2, _), (3, _), (4, _)]) hX dX7_hue_40 rfl rfl (by decide) (Nat.le_of_ble_eq_true rfl) rfl ?_
        refine s_goto (q := 5) hX dX7_hue_43 rfl ?_
        refine s_iload (q := 7) hX dX7_hue_5 rfl rfl ?_
        refine s_iconst (q := 8) (v := 3) hX dX7_hue_7 rfl rfl ?_
        refine s_icmp_ge_t (q := 11) (r := 46) hX dX7_hue_8 rfl rfl (by decide) ?_
        refine s_iload_n (q := 47) hX dX7_hue_46 rfl rfl ?_
        refine s_iret hX dX7_hue_47 (Or.inl rfl) ⟨Nat.le_refl _, Nat.le_refl _, Nat.le_refl _, ?_⟩
        have e : hueN (U.tr i) = 0 := by unfold hueN gU.tr; (repeat' split) <;> omega
        rw [e] at hcon
        exact hcon
      · refine s_iconst (q := 31) (v := 1) hX dX7_hue_30 rfl rfl ?_
        refine s_iload (q := 33) hX dX7_hue_31 rfl rfl ?_
        refine s_ishl (q := 34) (v := 4) hX dX7_hue_33 rfl (by decide) ?_
        refine s_goto (q := 38) hX dX7_hue_34 rfl ?_
        refine s_ior (q := 39) (v := 4) hX dX7_hue_38 rfl (by decide) ?_
        refine s_istore_n (q := 40) (lv' := [(0, _), (1, _), (2, _), (3, _), (4, _)]) hX dX7_hue_39 rfl (Nat.le_of_ble_eq_true rfl) rfl ?_
        refine s_iinc (q := 43) (v := 3) (lv' := [(0, _), (1, _), (2, _), (3, _), (4, _)]) hX dX7_hue_40 rfl rfl (by decide) (Nat.le_of_ble_eq_true rfl) rfl ?_
        refine s_goto (q := 5) hX dX7_hue_43 rfl ?_
        refine s_iload (q := 7) hX dX7_hue_5 rfl rfl ?_
        refine s_iconst (q := 8) (v := 3) hX dX7_hue_7 rfl rfl ?_
        refine s_icmp_ge_t (q := 11) (r := 46) hX dX7_hue_8 rfl rfl (by decide) ?_
        refine s_iload_n (q := 47) hX dX7_hue_46 rfl rfl ?_
        refine s_iret hX dX7_hue_47 (Or.inl rfl) ⟨Nat.le_refl _, Nat.le_refl _, Nat.le_refl _, ?_⟩
        have e : hueN (U.tr i) = 4 := by unfold hueN gU.tr; (repeat' split) <;> omega
        rw [e] at hcon
        exact hcon
    · refine s_iconst (q := 31) (v := 1) hX dX7_hue_30 rfl rfl ?_
      refine s_iload (q := 33) hX dX7_hue_31 rfl rfl ?_
      refine s_ishl (q := 34) (v := 2) hX dX7_hue_33 rfl (by decide) ?_
      refine s_goto (q := 38) hX dX7_hue_34 rfl ?_
      refine s_ior (q := 39) (v := 2) hX dX7_hue_38 rfl (by decide) ?_
      refine s_istore_n (q := 40) (lv' := [(0, _), (1, _), (2, _), (3, _), (4, _)]) hX dX7_hue_39 rfl (Nat.le_of_ble_eq_true rfl) rfl ?_
      refine s_iinc (q := 43) (v := 2) (lv' := [(0, _), (1, _), (2, _), (3, _), (4, _)]) hX dX7_hue_40 rfl rfl (by decide) (Nat.le_of_ble_eq_true rfl) rfl ?_
      refine s_goto (q := 5) hX dX7_hue_43 rfl ?_
      refine s_iload (q := 7) hX dX7_hue_5 rfl rfl ?_
      refine s_iconst (q := 8) (v := 3) hX dX7_hue_7 rfl rfl ?_
      refine s_icmp_ge_f (q := 11) (r := 46) hX dX7_hue_8 rfl rfl (by decide) ?_
      refine s_iload_n (q := 12) hX dX7_hue_11 rfl rfl ?_
      refine s_aload_n (q := 13) hX dX7_hue_12 rfl rfl ?_
      refine s_getr (q := 16) hX dX7_hue_13 rfl gfl_7_38 (by assumption) rfl ?_
      refine s_iload_n (q := 17) hX dX7_hue_16 rfl rfl ?_
      refine s_iconst (q := 18) (v := 1) hX dX7_hue_17 rfl rfl ?_
      refine s_iadd (q := 19) (v := nI (a + 1)) hX dX7_hue_18 rfl (nI_add (a) (1)) ?_
      refine s_iconst (q := 20) (v := 3) hX dX7_hue_19 rfl rfl ?_
      refine s_iload_n (q := 21) hX dX7_hue_20 rfl rfl ?_
      refine s_imul (q := 22) (v := nI (3 * i)) hX dX7_hue_21 rfl (pk_mul (3) (i)) ?_
      refine s_iadd (q := 23) (v := nI (a + 1 + (3 * i))) hX dX7_hue_22 rfl (nI_add (a + 1) (3 * i)) ?_
      refine s_iload (q := 25) hX dX7_hue_23 rfl rfl ?_
      refine s_iadd (q := 26) (v := nI (a + 1 + (3 * i) + 2)) hX dX7_hue_25 rfl (nI_add (a + 1 + (3 * i)) (2)) ?_
      refine s_iald (k := a + 1 + (3 * i) + 2) (q := 27) hX dX7_hue_26 rfl (by assumption) rfl (by omega) (by omega) ?_
      refine s_topi (v := nI (U.h (3 * i + 2))) (by first | exact h2 | (rw [← Nat.add_assoc] at h2; exact h2)) ?_
      refine s_nif_le (a := U.h (3 * i + 2)) (b := 0) (q := 30) (r := 37) hX dX7_hue_27 rfl rfl rfl rfl (by omega) (by omega) (fun c27_3 => ?_) (fun c27_3 => ?_)
      · refine s_iconst (q := 38) (v := 0) hX dX7_hue_37 rfl rfl ?_
        refine s_ior (q := 39) (v := 2) hX dX7_hue_38 rfl (by decide) ?_
        refine s_istore_n (q := 40) (lv' := [(0, _), (1, _), (2, _), (3, _), (4, _)]) hX dX7_hue_39 rfl (Nat.le_of_ble_eq_true rfl) rfl ?_
        refine s_iinc (q := 43) (v := 3) (lv' := [(0, _), (1, _), (2, _), (3, _), (4, _)]) hX dX7_hue_40 rfl rfl (by decide) (Nat.le_of_ble_eq_true rfl) rfl ?_
        refine s_goto (q := 5) hX dX7_hue_43 rfl ?_
        refine s_iload (q := 7) hX dX7_hue_5 rfl rfl ?_
        refine s_iconst (q := 8) (v := 3) hX dX7_hue_7 rfl rfl ?_
        refine s_icmp_ge_t (q := 11) (r := 46) hX dX7_hue_8 rfl rfl (by decide) ?_
        refine s_iload_n (q := 47) hX dX7_hue_46 rfl rfl ?_
        refine s_iret hX dX7_hue_47 (Or.inl rfl) ⟨Nat.le_refl _, Nat.le_refl _, Nat.le_refl _, ?_⟩
        have e : hueN (U.tr i) = 2 := by unfold hueN gU.tr; (repeat' split) <;> omega
        rw [e] at hcon
        exact hcon
      · refine s_iconst (q := 31) (v := 1) hX dX7_hue_30 rfl rfl ?_
        refine s_iload (q := 33) hX dX7_hue_31 rfl rfl ?_
        refine s_ishl (q := 34) (v := 4) hX dX7_hue_33 rfl (by decide) ?_
        refine s_goto (q := 38) hX dX7_hue_34 rfl ?_
        refine s_ior (q := 39) (v := 6) hX dX7_hue_38 rfl (by decide) ?_
        refine s_istore_n (q := 40) (lv' := [(0, _), (1, _), (2, _), (3, _), (4, _)]) hX dX7_hue_39 rfl (Nat.le_of_ble_eq_true rfl) rfl ?_
        refine s_iinc (q := 43) (v := 3) (lv' := [(0, _), (1, _), (2, _), (3, _), (4, _)]) hX dX7_hue_40 rfl rfl (by decide) (Nat.le_of_ble_eq_true rfl) rfl ?_
        refine s_goto (q := 5) hX dX7_hue_43 rfl ?_
        refine s_iload (q := 7) hX dX7_hue_5 rfl rfl ?_
        refine s_iconst (q := 8) (v := 3) hX dX7_hue_7 rfl rfl ?_
        refine s_icmp_ge_t (q := 11) (r := 46) hX dX7_hue_8 rfl rfl (by decide) ?_
        refine s_iload_n (q := 47) hX dX7_hue_46 rfl rfl ?_
        refine s_iret hX dX7_hue_47 (Or.inl rfl) ⟨Nat.le_refl _, Nat.le_refl _, Nat.le_refl _, ?_⟩
        have e : hueN (U.tr i) = 6 := by unfold hueN gU.tr; (repeat' split) <;> omega
        rw [e] at hcon
        exact hcon
  · refine s_iconst (q := 31) (v := 1) hX dX7_hue_30 rfl rfl ?_
    refine s_iload (q := 33) hX dX7_hue_31 rfl rfl ?_
    refine s_ishl (q := 34) (v := 1) hX dX7_hue_33 rfl (by decide) ?_
    refine s_goto (q := 38) hX dX7_hue_34 rfl ?_
    refine s_ior (q := 39) (v := 1) hX dX7_hue_38 rfl (by decide) ?_
    refine s_istore_n (q := 40) (lv' := [(0, _), (1, _), (2, _), (3, _), (4, _)]) hX dX7_hue_39 rfl (Nat.le_of_ble_eq_true rfl) rfl ?_
    refine s_iinc (q := 43) (v := 1) (lv' := [(0, _), (1, _), (2, _), (3, _), (4, _)]) hX dX7_hue_40 rfl rfl (by decide) (Nat.le_of_ble_eq_true rfl) rfl ?_
    refine s_goto (q := 5) hX dX7_hue_43 rfl ?_
    refine s_iload (q := 7) hX dX7_hue_5 rfl rfl ?_
    refine s_iconst (q := 8) (v := 3) hX dX7_hue_7 rfl rfl ?_
    refine s_icmp_ge_f (q := 11) (r := 46) hX dX7_hue_8 rfl rfl (by decide) ?_
    refine s_iload_n (q := 12) hX dX7_hue_11 rfl rfl ?_
    refine s_aload_n (q := 13) hX dX7_hue_12 rfl rfl ?_
    refine s_getr (q := 16) hX dX7_hue_13 rfl gfl_7_38 (by assumption) rfl ?_
    refine s_iload_n (q := 17) hX dX7_hue_16 rfl rfl ?_
    refine s_iconst (q := 18) (v := 1) hX dX7_hue_17 rfl rfl ?_
    refine s_iadd (q := 19) (v := nI (a + 1)) hX dX7_hue_18 rfl (nI_add (a) (1)) ?_
    refine s_iconst (q := 20) (v := 3) hX dX7_hue_19 rfl rfl ?_
    refine s_iload_n (q := 21) hX dX7_hue_20 rfl rfl ?_
    refine s_imul (q := 22) (v := nI (3 * i)) hX dX7_hue_21 rfl (pk_mul (3) (i)) ?_
    refine s_iadd (q := 23) (v := nI (a + 1 + (3 * i))) hX dX7_hue_22 rfl (nI_add (a + 1) (3 * i)) ?_
    refine s_iload (q := 25) hX dX7_hue_23 rfl rfl ?_
    refine s_iadd (q := 26) (v := nI (a + 1 + (3 * i) + 1)) hX dX7_hue_25 rfl (nI_add (a + 1 + (3 * i)) (1)) ?_
    refine s_iald (k := a + 1 + (3 * i) + 1) (q := 27) hX dX7_hue_26 rfl (by assumption) rfl (by omega) (by omega) ?_
    refine s_topi (v := nI (U.h (3 * i + 1))) (by first | exact h1 | (rw [← Nat.add_assoc] at h1; exact h1)) ?_
    refine s_nif_le (a := U.h (3 * i + 1)) (b := 0) (q := 30) (r := 37) hX dX7_hue_27 rfl rfl rfl rfl (by omega) (by omega) (fun c27_4 => ?_) (fun c27_4 => ?_)
    · refine s_iconst (q := 38) (v := 0) hX dX7_hue_37 rfl rfl ?_
      refine s_ior (q := 39) (v := 1) hX dX7_hue_38 rfl (by decide) ?_
      refine s_istore_n (q := 40) (lv' := [(0, _), (1, _), (2, _), (3, _), (4, _)]) hX dX7_hue_39 rfl (Nat.le_of_ble_eq_true rfl) rfl ?_
      refine s_iinc (q := 43) (v := 2) (lv' := [(0, _), (1, _), (2, _), (3, _), (4, _)]) hX dX7_hue_40 rfl rfl (by decide) (Nat.le_of_ble_eq_true rfl) rfl ?_
      refine s_goto (q := 5) hX dX7_hue_43 rfl ?_
      refine s_iload (q := 7) hX dX7_hue_5 rfl rfl ?_
      refine s_iconst (q := 8) (v := 3) hX dX7_hue_7 rfl rfl ?_
      refine s_icmp_ge_f (q := 11) (r := 46) hX dX7_hue_8 rfl rfl (by decide) ?_
      refine s_iload_n (q := 12) hX dX7_hue_11 rfl rfl ?_
      refine s_aload_n (q := 13) hX dX7_hue_12 rfl rfl ?_
      refine s_getr (q := 16) hX dX7_hue_13 rfl gfl_7_38 (by assumption) rfl ?_
      refine s_iload_n (q := 17) hX dX7_hue_16 rfl rfl ?_
      refine s_iconst (q := 18) (v := 1) hX dX7_hue_17 rfl rfl ?_
      refine s_iadd (q := 19) (v := nI (a + 1)) hX dX7_hue_18 rfl (nI_add (a) (1)) ?_
      refine s_iconst (q := 20) (v := 3) hX dX7_hue_19 rfl rfl ?_
      refine s_iload_n (q := 21) hX dX7_hue_20 rfl rfl ?_
      refine s_imul (q := 22) (v := nI (3 * i)) hX dX7_hue_21 rfl (pk_mul (3) (i)) ?_
      refine s_iadd (q := 23) (v := nI (a + 1 + (3 * i))) hX dX7_hue_22 rfl (nI_add (a + 1) (3 * i)) ?_
      refine s_iload (q := 25) hX dX7_hue_23 rfl rfl ?_
      refine s_iadd (q := 26) (v := nI (a + 1 + (3 * i) + 2)) hX dX7_hue_25 rfl (nI_add (a + 1 + (3 * i)) (2)) ?_
      refine s_iald (k := a + 1 + (3 * i) + 2) (q := 27) hX dX7_hue_26 rfl (by assumption) rfl (by omega) (by omega) ?_
      refine s_topi (v := nI (U.h (3 * i + 2))) (by first | exact h2 | (rw [← Nat.add_assoc] at h2; exact h2)) ?_
      refine s_nif_le (a := U.h (3 * i + 2)) (b := 0) (q := 30) (r := 37) hX dX7_hue_27 rfl rfl rfl rfl (by omega) (by omega) (fun c27_5 => ?_) (fun c27_5 => ?_)
      · refine s_iconst (q := 38) (v := 0) hX dX7_hue_37 rfl rfl ?_
        refine s_ior (q := 39) (v := 1) hX dX7_hue_38 rfl (by decide) ?_
        refine s_istore_n (q := 40) (lv' := [(0, _), (1, _), (2, _), (3, _), (4, _)]) hX dX7_hue_39 rfl (Nat.le_of_ble_eq_true rfl) rfl ?_
        refine s_iinc (q := 43) (v := 3) (lv' := [(0, _), (1, _), (2, _), (3, _), (4, _)]) hX dX7_hue_40 rfl rfl (by decide) (Nat.le_of_ble_eq_true rfl) rfl ?_
        refine s_goto (q := 5) hX dX7_hue_43 rfl ?_
        refine s_iload (q := 7) hX dX7_hue_5 rfl rfl ?_
        refine s_iconst (q := 8) (v := 3) hX dX7_hue_7 rfl rfl ?_
        refine s_icmp_ge_t (q := 11) (r := 46) hX dX7_hue_8 rfl rfl (by decide) ?_
        refine s_iload_n (q := 47) hX dX7_hue_46 rfl rfl ?_
        refine s_iret hX dX7_hue_47 (Or.inl rfl) ⟨Nat.le_refl _, Nat.le_refl _, Nat.le_refl _, ?_⟩
        have e : hueN (U.tr i) = 1 := by unfold hueN gU.tr; (repeat' split) <;> omega
        rw [e] at hcon
        exact hcon
      · refine s_iconst (q := 31) (v := 1) hX dX7_hue_30 rfl rfl ?_
        refine s_iload (q := 33) hX dX7_hue_31 rfl rfl ?_
        refine s_ishl (q := 34) (v := 4) hX dX7_hue_33 rfl (by decide) ?_
        refine s_goto (q := 38) hX dX7_hue_34 rfl ?_
        refine s_ior (q := 39) (v := 5) hX dX7_hue_38 rfl (by decide) ?_
        refine s_istore_n (q := 40) (lv' := [(0, _), (1, _), (2, _), (3, _), (4, _)]) hX dX7_hue_39 rfl (Nat.le_of_ble_eq_true rfl) rfl ?_
        refine s_iinc (q := 43) (v := 3) (lv' := [(0, _), (1, _), (2, _), (3, _), (4, _)]) hX dX7_hue_40 rfl rfl (by decide) (Nat.le_of_ble_eq_true rfl) rfl ?_
        refine s_goto (q := 5) hX dX7_hue_43 rfl ?_
        refine s_iload (q := 7) hX dX7_hue_5 rfl rfl ?_
        refine s_iconst (q := 8) (v := 3) hX dX7_hue_7 rfl rfl ?_
        refine s_icmp_ge_t (q := 11) (r := 46) hX dX7_hue_8 rfl rfl (by decide) ?_
        refine s_iload_n (q := 47) hX dX7_hue_46 rfl rfl ?_
        refine s_iret hX dX7_hue_47 (Or.inl rfl) ⟨Nat.le_refl _, Nat.le_refl _, Nat.le_refl _, ?_⟩
        have e : hueN (U.tr i) = 5 := by unfold hueN gU.tr; (repeat' split) <;> omega
        rw [e] at hcon
        exact hcon
    · refine s_iconst (q := 31) (v := 1) hX dX7_hue_30 rfl rfl ?_
      refine s_iload (q := 33) hX dX7_hue_31 rfl rfl ?_
      refine s_ishl (q := 34) (v := 2) hX dX7_hue_33 rfl (by decide) ?_
      refine s_goto (q := 38) hX dX7_hue_34 rfl ?_
      refine s_ior (q := 39) (v := 3) hX dX7_hue_38 rfl (by decide) ?_
      refine s_istore_n (q := 40) (lv' := [(0, _), (1, _), (2, _), (3, _), (4, _)]) hX dX7_hue_39 rfl (Nat.le_of_ble_eq_true rfl) rfl ?_
      refine s_iinc (q := 43) (v := 2) (lv' := [(0, _), (1, _), (2, _), (3, _), (4, _)]) hX dX7_hue_40 rfl rfl (by decide) (Nat.le_of_ble_eq_true rfl) rfl ?_
      refine s_goto (q := 5) hX dX7_hue_43 rfl ?_
      refine s_iload (q := 7) hX dX7_hue_5 rfl rfl ?_
      refine s_iconst (q := 8) (v := 3) hX dX7_hue_7 rfl rfl ?_
      refine s_icmp_ge_f (q := 11) (r := 46) hX dX7_hue_8 rfl rfl (by decide) ?_
      refine s_iload_n (q := 12) hX dX7_hue_11 rfl rfl ?_
      refine s_aload_n (q := 13) hX dX7_hue_12 rfl rfl ?_
      refine s_getr (q := 16) hX dX7_hue_13 rfl gfl_7_38 (by assumption) rfl ?_
      refine s_iload_n (q := 17) hX dX7_hue_16 rfl rfl ?_
      refine s_iconst (q := 18) (v := 1) hX dX7_hue_17 rfl rfl ?_
      refine s_iadd (q := 19) (v := nI (a + 1)) hX dX7_hue_18 rfl (nI_add (a) (1)) ?_
      refine s_iconst (q := 20) (v := 3) hX dX7_hue_19 rfl rfl ?_
      refine s_iload_n (q := 21) hX dX7_hue_20 rfl rfl ?_
      refine s_imul (q := 22) (v := nI (3 * i)) hX dX7_hue_21 rfl (pk_mul (3) (i)) ?_
      refine s_iadd (q := 23) (v := nI (a + 1 + (3 * i))) hX dX7_hue_22 rfl (nI_add (a + 1) (3 * i)) ?_
      refine s_iload (q := 25) hX dX7_hue_23 rfl rfl ?_
      refine s_iadd (q := 26) (v := nI (a + 1 + (3 * i) + 2)) hX dX7_hue_25 rfl (nI_add (a + 1 + (3 * i)) (2)) ?_
      refine s_iald (k := a + 1 + (3 * i) + 2) (q := 27) hX dX7_hue_26 rfl (by assumption) rfl (by omega) (by omega) ?_
      refine s_topi (v := nI (U.h (3 * i + 2))) (by first | exact h2 | (rw [← Nat.add_assoc] at h2; exact h2)) ?_
      refine s_nif_le (a := U.h (3 * i + 2)) (b := 0) (q := 30) (r := 37) hX dX7_hue_27 rfl rfl rfl rfl (by omega) (by omega) (fun c27_6 => ?_) (fun c27_6 => ?_)
      · refine s_iconst (q := 38) (v := 0) hX dX7_hue_37 rfl rfl ?_
        refine s_ior (q := 39) (v := 3) hX dX7_hue_38 rfl (by decide) ?_
        refine s_istore_n (q := 40) (lv' := [(0, _), (1, _), (2, _), (3, _), (4, _)]) hX dX7_hue_39 rfl (Nat.le_of_ble_eq_true rfl) rfl ?_
        refine s_iinc (q := 43) (v := 3) (lv' := [(0, _), (1, _), (2, _), (3, _), (4, _)]) hX dX7_hue_40 rfl rfl (by decide) (Nat.le_of_ble_eq_true rfl) rfl ?_
        refine s_goto (q := 5) hX dX7_hue_43 rfl ?_
        refine s_iload (q := 7) hX dX7_hue_5 rfl rfl ?_
        refine s_iconst (q := 8) (v := 3) hX dX7_hue_7 rfl rfl ?_
        refine s_icmp_ge_t (q := 11) (r := 46) hX dX7_hue_8 rfl rfl (by decide) ?_
        refine s_iload_n (q := 47) hX dX7_hue_46 rfl rfl ?_
        refine s_iret hX dX7_hue_47 (Or.inl rfl) ⟨Nat.le_refl _, Nat.le_refl _, Nat.le_refl _, ?_⟩
        have e : hueN (U.tr i) = 3 := by unfold hueN gU.tr; (repeat' split) <;> omega
        rw [e] at hcon
        exact hcon
      · refine s_iconst (q := 31) (v := 1) hX dX7_hue_30 rfl rfl ?_
        refine s_iload (q := 33) hX dX7_hue_31 rfl rfl ?_
        refine s_ishl (q := 34) (v := 4) hX dX7_hue_33 rfl (by decide) ?_
        refine s_goto (q := 38) hX dX7_hue_34 rfl ?_
        refine s_ior (q := 39) (v := 7) hX dX7_hue_38 rfl (by decide) ?_
        refine s_istore_n (q := 40) (lv' := [(0, _), (1, _), (2, _), (3, _), (4, _)]) hX dX7_hue_39 rfl (Nat.le_of_ble_eq_true rfl) rfl ?_
        refine s_iinc (q := 43) (v := 3) (lv' := [(0, _), (1, _), (2, _), (3, _), (4, _)]) hX dX7_hue_40 rfl rfl (by decide) (Nat.le_of_ble_eq_true rfl) rfl ?_
        refine s_goto (q := 5) hX dX7_hue_43 rfl ?_
        refine s_iload (q := 7) hX dX7_hue_5 rfl rfl ?_
        refine s_iconst (q := 8) (v := 3) hX dX7_hue_7 rfl rfl ?_
        refine s_icmp_ge_t (q := 11) (r := 46) hX dX7_hue_8 rfl rfl (by decide) ?_
        refine s_iload_n (q := 47) hX dX7_hue_46 rfl rfl ?_
        refine s_iret hX dX7_hue_47 (Or.inl rfl) ⟨Nat.le_refl _, Nat.le_refl _, Nat.le_refl _, ?_⟩
        have e : hueN (U.tr i) = 7 := by unfold hueN gU.tr; (repeat' split) <;> omega
        rw [e] at hcon
        exact hcon
