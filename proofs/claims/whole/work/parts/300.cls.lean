def kC (sh : List gS) (M : gM) (O : gO) (Q : Option Value → List gS → gM → Prop) : Prop := ∀ (t' : Nat) (sh' : List gS) (M' : gM), isCls sh' t' → (∀ c, 83 ≤ c → sh'[c]? = sh[c]?) → sh'.length = sh.length → CLS M' t' O.2 → (∀ c, 83 ≤ c → M' c = M c) → Q (some (.int O.1)) sh' M'
theorem kC.ret {sh : List gS} {M M' : gM} {O : gO} {Q : Option Value → List gS → gM → Prop} {t : Nat} {v : Int32} {S' : gA} (h : kC sh M O Q) (e : O = (v, S')) (hC : isCls sh t) (hS : CLS M' t S') (hf : ∀ c, 83 ≤ c → M' c = M c) : Q (some (.int v)) sh M' := by
  have := h t sh M' hC (fun _ _ => rfl) rfl (by rw [e]; exact hS) hf
  rw [e] at this
  exact this
set_option maxHeartbeats 4000000 in
set_option maxRecDepth 100000 in
theorem c_rng {d lo n : Nat} {x lo' hi' : Int32} {sh : List gS} {M : gM} {Q : Option Value → List gS → gM → Prop} (h1 : lo' = nI lo) (h2 : hi' = nI n - 1) (hl : lo ≤ 100000) (hn : n ≤ 100000) (hcon0 : rng x lo n = none → Q (some (.int 0)) sh M) (hcon1 : ∀ i, rng x lo n = some i → lo ≤ i → i < n → x = nI i → Q (some (.int 1)) sh M) : gC mX6_within d 0 0 [.int x, .int lo', .int hi'] sh M Q := by
  subst h1 h2
  refine c_within ?_
  by_cases hc : nI lo ≤ x ∧ x ≤ nI n - 1
  · rw [if_pos hc]
    obtain ⟨i, hi⟩ := rng_y hl hn hc
    obtain ⟨k1, k2, k3⟩ := rng_s hi
    exact hcon1 i hi k1 k2 k3
  · rw [if_neg hc]
    exact hcon0 (rng_n hl hn hc)
set_option maxHeartbeats 4000000 in
set_option maxRecDepth 100000 in
theorem c_isPerson {d t : Nat} {x : Int32} {S : gA} {sh : List gS} {M : gM} {Q : Option Value → List gS → gM → Prop} (hd : 1 ≤ d) (hC : isCls sh t) (hS : CLS M t S) (hT : S.T.ok) (hcon0 : rng x 0 S.T.P = none → Q (some (.int 0)) sh M) (hcon1 : ∀ i, rng x 0 S.T.P = some i → i < S.T.P → x = nI i → Q (some (.int 1)) sh M) : gC mX6_isPerson d 0 0 [.ref 0, .int x] sh M Q := by
  have twn := hC.tw
  obtain ⟨z0, z1, z2, z3, z4, z5, z6⟩ := twn
  have y0 := hC.1
  have hp := hS.2.1.1
  obtain ⟨o1, o2, o3, o4, o5, o6, o7, o8⟩ := hT
  refine gC_of (rt := 2) (ini := false) gm_X6_isPerson rfl (by decide) (Nat.le_of_ble_eq_true rfl) (fun X hX => ?_)
  refine s_iload_n (q := 1) hX dX6_isPerson_0 rfl rfl ?_
  refine s_iconst (q := 2) (v := 0) hX dX6_isPerson_1 rfl rfl ?_
  refine s_aload_n (q := 3) hX dX6_isPerson_2 rfl rfl ?_
  refine s_getr (q := 6) hX dX6_isPerson_3 rfl gfl_6_19 (by assumption) rfl ?_
  refine s_geti (q := 9) hX dX6_isPerson_6 rfl gfl_6_97 (by assumption) rfl ?_
  refine s_topi (v := nI (S.T.P)) hp ?_
  refine s_iconst (q := 10) (v := 1) hX dX6_isPerson_9 rfl rfl ?_
  refine s_isub (q := 11) hX dX6_isPerson_10 rfl rfl ?_
  refine s_invs3_1 (q := 14) hX dX6_isPerson_11 rfl glk_6_93 (by decide) (Nat.le_of_ble_eq_true rfl) ⟨Nat.le_refl _, Nat.le_refl _⟩ (by omega) (c_rng (d := 0) (x := x) (lo := 0) (n := S.T.P) rfl rfl (by omega) (by omega) (fun r1 => ?_) (fun i r1 l1 h1 e1 => ?_)) 
  · refine ⟨_, rfl, ?_⟩
    refine s_iret hX dX6_isPerson_14 (Or.inr ⟨rfl, Or.inl rfl⟩) ⟨Nat.le_refl _, Nat.le_refl _, Nat.le_refl _, ?_⟩
    exact hcon0 r1
  · refine ⟨_, rfl, ?_⟩
    refine s_iret hX dX6_isPerson_14 (Or.inr ⟨rfl, Or.inr rfl⟩) ⟨Nat.le_refl _, Nat.le_refl _, Nat.le_refl _, ?_⟩
    exact hcon1 i r1 h1 e1
set_option maxHeartbeats 4000000 in
set_option maxRecDepth 100000 in
theorem c_isDeed {d t : Nat} {x : Int32} {S : gA} {sh : List gS} {M : gM} {Q : Option Value → List gS → gM → Prop} (hd : 1 ≤ d) (hC : isCls sh t) (hS : CLS M t S) (hT : S.T.ok) (hcon0 : rng x 0 S.T.D = none → Q (some (.int 0)) sh M) (hcon1 : ∀ i, rng x 0 S.T.D = some i → i < S.T.D → x = nI i → Q (some (.int 1)) sh M) : gC mX6_isDeed d 0 0 [.ref 0, .int x] sh M Q := by
  have twn := hC.tw
  obtain ⟨z0, z1, z2, z3, z4, z5, z6⟩ := twn
  have y0 := hC.1
  have hp := hS.2.1.2.1
  obtain ⟨o1, o2, o3, o4, o5, o6, o7, o8⟩ := hT
  refine gC_of (rt := 2) (ini := false) gm_X6_isDeed rfl (by decide) (Nat.le_of_ble_eq_true rfl) (fun X hX => ?_)
  refine s_iload_n (q := 1) hX dX6_isDeed_0 rfl rfl ?_
  refine s_iconst (q := 2) (v := 0) hX dX6_isDeed_1 rfl rfl ?_
  refine s_aload_n (q := 3) hX dX6_isDeed_2 rfl rfl ?_
  refine s_getr (q := 6) hX dX6_isDeed_3 rfl gfl_6_19 (by assumption) rfl ?_
  refine s_geti (q := 9) hX dX6_isDeed_6 rfl gfl_6_183 (by assumption) rfl ?_
  refine s_topi (v := nI (S.T.D)) hp ?_
  refine s_iconst (q := 10) (v := 1) hX dX6_isDeed_9 rfl rfl ?_
  refine s_isub (q := 11) hX dX6_isDeed_10 rfl rfl ?_
  refine s_invs3_1 (q := 14) hX dX6_isDeed_11 rfl glk_6_93 (by decide) (Nat.le_of_ble_eq_true rfl) ⟨Nat.le_refl _, Nat.le_refl _⟩ (by omega) (c_rng (d := 0) (x := x) (lo := 0) (n := S.T.D) rfl rfl (by omega) (by omega) (fun r1 => ?_) (fun i r1 l1 h1 e1 => ?_)) 
  · refine ⟨_, rfl, ?_⟩
    refine s_iret hX dX6_isDeed_14 (Or.inr ⟨rfl, Or.inl rfl⟩) ⟨Nat.le_refl _, Nat.le_refl _, Nat.le_refl _, ?_⟩
    exact hcon0 r1
  · refine ⟨_, rfl, ?_⟩
    refine s_iret hX dX6_isDeed_14 (Or.inr ⟨rfl, Or.inr rfl⟩) ⟨Nat.le_refl _, Nat.le_refl _, Nat.le_refl _, ?_⟩
    exact hcon1 i r1 h1 e1
set_option maxHeartbeats 4000000 in
set_option maxRecDepth 100000 in
theorem c_isSort {d : Nat} {x : Int32} {sh : List gS} {M : gM} {Q : Option Value → List gS → gM → Prop} (hd : 1 ≤ d) (hcon0 : rng x 0 3 = none → Q (some (.int 0)) sh M) (hcon1 : ∀ i, rng x 0 3 = some i → i < 3 → x = nI i → Q (some (.int 1)) sh M) : gC mX6_isSort d 0 0 [.int x] sh M Q := by
  refine gC_of (rt := 2) (ini := false) gm_X6_isSort rfl (by decide) (Nat.le_of_ble_eq_true rfl) (fun X hX => ?_)
  refine s_iload_n (q := 1) hX dX6_isSort_0 rfl rfl ?_
  refine s_iconst (q := 2) (v := 0) hX dX6_isSort_1 rfl rfl ?_
  refine s_iconst (q := 3) (v := 2) hX dX6_isSort_2 rfl rfl ?_
  refine s_invs3_1 (q := 6) hX dX6_isSort_3 rfl glk_6_93 (by decide) (Nat.le_of_ble_eq_true rfl) ⟨Nat.le_refl _, Nat.le_refl _⟩ (by omega) (c_rng (d := 0) (x := x) (lo := 0) (n := 3) rfl rfl (by decide) (by decide) (fun r1 => ?_) (fun i r1 l1 h1 e1 => ?_)) 
  · refine ⟨_, rfl, ?_⟩
    refine s_iret hX dX6_isSort_6 (Or.inr ⟨rfl, Or.inl rfl⟩) ⟨Nat.le_refl _, Nat.le_refl _, Nat.le_refl _, ?_⟩
    exact hcon0 r1
  · refine ⟨_, rfl, ?_⟩
    refine s_iret hX dX6_isSort_6 (Or.inr ⟨rfl, Or.inr rfl⟩) ⟨Nat.le_refl _, Nat.le_refl _, Nat.le_refl _, ?_⟩
    exact hcon1 i r1 h1 e1
