theorem MOD.stU {M M' : gM} {S : gA} {U : gU} (h : MOD M S) (hP : S.T.P ≤ 6) (hu : S.un.1 ≤ 8) (hk : S.kp.1 ≤ 2) (hU : STM M' 0 S.T.P U) (hF : FRM M M' 0) : MOD M' (S.setU U) := by
  obtain ⟨⟨a1, a2⟩, a3, a4, ⟨a5, a6⟩, ⟨a7, a8⟩, ⟨a9, a10⟩⟩ := h
  have h83 := hF.1 83 (by decide) (by decide)
  refine ⟨⟨by rw [h83]; exact a1, fun j hj => by rw [hF.1 84 (by decide) (by decide)]; exact a2 j hj⟩, hF.tw a3, hU, ⟨by rw [h83]; exact a5, fun k hk => (a6 k hk).kp hP (fun j h1 h2 => hF.2 j (by omega))⟩, ⟨by rw [h83]; exact a7, fun k hk => (a8 k hk).kp hP (fun j h1 h2 => hF.2 j (by omega))⟩, ⟨by rw [h83]; exact a9, fun j hj => ?_⟩⟩
  rw [hF.1 96 (by decide) (by decide), hF.1 97 (by decide) (by decide), hF.1 98 (by decide) (by decide)]
  exact a10 j hj
/-- a try at 341 -/
def TRM (M0 M : gM) (S : gA) (U : gU) : Prop := MOD M S ∧ STM M 341 S.T.P U ∧ ∀ c, c < 83 → M c = M0 c
theorem TRM.st {M0 M M' : gM} {S : gA} {U V : gU} (h : TRM M0 M S U) (hP : S.T.P ≤ 6) (hu : S.un.1 ≤ 8) (hk : S.kp.1 ≤ 2) (hF : FRM M M' 341) (hV : STM M' 341 S.T.P V) : TRM M0 M' S V :=
  ⟨h.1.kp hP hu hk (fun k _ => by rw [hF.1 83 (by decide) (by decide)]) (fun c _ _ h3 h4 _ => hF.1 c h3 h4) (fun j hj => hF.2 j (by omega)), hV, fun c hc => by rw [hF.1 c (by omega) (by omega)]; exact h.2.2 c hc⟩
theorem gi2b {c : Nat} (h : c ≤ 127) : (nI c).toInt8.toInt32 = nI c := by
  apply Int32.toInt_inj.mp
  rw [Int8.toInt_toInt32, Int32.toInt_toInt8, nI_toInt (by omega)]
  rw [Int.bmod_eq_of_le (by omega) (by omega)]
theorem mrng_at {x : Int32} {lo n k : Nat} (h : x.toInt = k) (h1 : lo ≤ k) (h2 : k < n) : rng x lo n = some k := by
  unfold rng
  rw [if_pos (by omega), h]
  rfl
theorem mrng_no {x : Int32} {lo n : Nat} (h : x.toInt < lo ∨ (n : Int) ≤ x.toInt) : rng x lo n = none := by
  unfold rng
  rw [if_neg (by omega)]
theorem mrng_ex {x : Int32} {lo n : Nat} (h : (lo : Int) ≤ x.toInt ∧ x.toInt < n) : ∃ k, lo ≤ k ∧ k < n ∧ x = nI k ∧ x.toInt = k := by
  refine ⟨x.toInt.toNat, by omega, by omega, ?_, by omega⟩
  apply Int32.toInt_inj.mp
  have := Int32.toInt_lt x
  rw [nI_toInt (by omega)]; omega
set_option maxHeartbeats 4000000 in
set_option maxRecDepth 100000 in
theorem m_copy {d f t : Nat} {sh : List gS} {M : gM} {Q : Option Value → List gS → gM → Prop} (hC : isMod sh) (hf : f + 31 ≤ 372) (ht : t + 31 ≤ 372) (hap : f + 31 ≤ t ∨ t + 31 ≤ f) (hcon : ∀ M', (∀ c, c ≠ 93 → M' c = M c) → (∀ k, k < 31 → M' 93 (t + k) = M 93 (f + k)) → (∀ j, (j < t ∨ t + 31 ≤ j) → M' 93 j = M 93 j) → Q none sh M') : gC mX7_copy d 0 0 [.ref 83, .int (nI f), .int (nI t)] sh M Q := by
  have hC0 := hC
  obtain ⟨y0, y1, y2, y3, y4, y5, y6, y7, y8, y9, y10, y11, y12, y13, y14, y15⟩ := hC
  refine gC_of (rt := 0) (ini := false) gm_X7_copy rfl (by decide) (Nat.le_of_ble_eq_true rfl) (fun X hX => ?_)
  have L : ∀ (m k : Nat) (M' : gM), k + m = 31 → (∀ c, c ≠ 93 → M' c = M c) → (∀ q, q < k → M' 93 (t + q) = M 93 (f + q)) → (∀ j, (j < t ∨ t + k ≤ j) → M' 93 j = M 93 j) → X 2 [(0, .ref 83), (1, .int (nI f)), (2, .int (nI t)), (3, .int (nI k))] [] sh M' 0 0 := by
    intro m
    induction m with
    | zero =>
      intro k M' hk h1 h2 h3
      have e : k = 31 := by omega
      subst e
      refine s_iload_n (q := 3) hX dX7_copy_2 rfl rfl ?_
      refine s_bipush (q := 5) (v := 31) hX dX7_copy_3 rfl rfl (by decide) ?_
      refine s_icmp_ge_t (q := 8) (r := 30) hX dX7_copy_5 rfl rfl (by decide) ?_
      refine s_ret hX dX7_copy_30 rfl ⟨Nat.le_refl _, Nat.le_refl _, Nat.le_refl _, ?_⟩
      exact hcon M' h1 h2 h3
    | succ m ih =>
      intro k M' hk h1 h2 h3
      refine s_iload_n (q := 3) hX dX7_copy_2 rfl rfl ?_
      refine s_bipush (q := 5) (v := 31) hX dX7_copy_3 rfl rfl (by decide) ?_
      refine s_icmp_ge_f (q := 8) (r := 30) hX dX7_copy_5 rfl rfl (Int32.not_le.mpr (nI_lt (b := 31) (by omega) (by omega))) ?_
      refine s_aload_n (q := 9) hX dX7_copy_8 rfl rfl ?_
      refine s_getr (q := 12) hX dX7_copy_9 rfl gfl_7_38 (by assumption) rfl ?_
      refine s_iload_n (q := 13) hX dX7_copy_12 rfl rfl ?_
      refine s_iload_n (q := 14) hX dX7_copy_13 rfl rfl ?_
      refine s_iadd (q := 15) (v := nI (t + k)) hX dX7_copy_14 rfl (nI_add (t) (k)) ?_
      refine s_aload_n (q := 16) hX dX7_copy_15 rfl rfl ?_
      refine s_getr (q := 19) hX dX7_copy_16 rfl gfl_7_38 (by assumption) rfl ?_
      refine s_iload_n (q := 20) hX dX7_copy_19 rfl rfl ?_
      refine s_iload_n (q := 21) hX dX7_copy_20 rfl rfl ?_
      refine s_iadd (q := 22) (v := nI (f + k)) hX dX7_copy_21 rfl (nI_add (f) (k)) ?_
      refine s_iald (k := f + k) (q := 23) hX dX7_copy_22 rfl (by assumption) rfl (by omega) (by omega) ?_
      refine s_iast (k := t + k) (q := 24) hX dX7_copy_23 rfl (by assumption) rfl (by omega) (by omega) ?_
      refine s_iinc (q := 27) (v := nI (k + 1)) (lv' := [(0, _), (1, _), (2, _), (3, _)]) hX dX7_copy_24 rfl rfl (nI_add (k) 1) (Nat.le_of_ble_eq_true rfl) rfl ?_
      refine s_goto (q := 2) hX dX7_copy_27 rfl ?_
      refine ih (k + 1) _ (by omega) (fun c hc => by rw [gsr_n _ _ hc]; exact h1 c hc) (fun q hq => ?_) (fun j hj => ?_)
      · rw [gsr_s]
        by_cases e : q = k
        · subst e; rw [pk_us]; exact h3 (f + q) (by omega)
        · rw [pk_un (by omega)]; exact h2 q (by omega)
      · rw [gsr_s, pk_un (by omega)]; exact h3 j (by omega)
  refine s_iconst (q := 1) (v := 0) hX dX7_copy_0 rfl rfl ?_
  refine s_istore_n (q := 2) (lv' := [(0, _), (1, _), (2, _), (3, _)]) hX dX7_copy_1 rfl (Nat.le_of_ble_eq_true rfl) rfl ?_
  exact L 31 0 M rfl (fun _ _ => rfl) (fun q hq => absurd hq (Nat.not_lt_zero q)) (fun _ _ => rfl)
set_option maxHeartbeats 4000000 in
set_option maxRecDepth 100000 in
theorem m_know {d b : Nat} {S : gA} {sh : List gS} {M : gM} {Q : Option Value → List gS → gM → Prop} (hd : 1 ≤ d) (hC : isMod sh) (hS : MOD M S) (hk : S.ok b) (hb : b ≤ 20000) (hcon : ∀ M', MOD M' S.know → (∀ c, c < 83 → M' c = M c) → Q none sh M') : gC mX7_know d 0 0 [.ref 83] sh M Q := by
  have hC0 := hC
  obtain ⟨y0, y1, y2, y3, y4, y5, y6, y7, y8, y9, y10, y11, y12, y13, y14, y15⟩ := hC
  have hS0 := hS
  have hk0 := hk
  obtain ⟨⟨a1, a1x⟩, a2, a3, ⟨a4, a4x⟩, ⟨a5, a5x⟩, a6⟩ := hS
  obtain ⟨g1, g2, g3, g4, g5, g6, g7⟩ := hk
  have g0 := g1
  obtain ⟨o1, o2, o3, o4, o5, o6, o7, o8⟩ := g0
  have u8 := g4.1
  refine gC_of (rt := 0) (ini := false) gm_X7_know rfl (by decide) (Nat.le_of_ble_eq_true rfl) (fun X hX => ?_)
  have K : ∀ (u : Nat) (M' : gM), u ≤ 7 → u + 1 = min 8 (S.un.1 + 1) → MOD M' (S.T, S.U, (u, S.un.2), S.kp, S.N, S.tx) → (∀ c, c < 83 → M' c = M c) → X 52 [(0, .ref 83)] [] sh M' 0 0 := by
    intro u M' hu hu2 hm hf
    obtain ⟨⟨w1, w2⟩, w3, w4, ⟨w5, w6⟩, ⟨w7, w8⟩, w9, w10⟩ := hm
    have w1 : M' 83 1 = nI S.tx.1 := w1
    have w5 : M' 83 13 = nI u := w5
    have w7 : M' 83 14 = nI S.kp.1 := w7
    have w9 : M' 83 22 = nI S.N.n := w9
    refine s_aload_n (q := 53) hX dX7_know_52 rfl rfl ?_
    refine s_iconst (q := 54) (v := 0) hX dX7_know_53 rfl rfl ?_
    refine s_bipush (q := 56) (v := 31) hX dX7_know_54 rfl rfl (by decide) ?_
    refine s_bipush (q := 58) (v := 31) hX dX7_know_56 rfl rfl (by decide) ?_
    refine s_aload_n (q := 59) hX dX7_know_58 rfl rfl ?_
    refine s_geti (q := 62) hX dX7_know_59 rfl gfl_7_92 (by assumption) rfl ?_
    refine s_topi (v := nI (u)) w5 ?_
    refine s_imul (q := 63) (v := nI (31 * u)) hX dX7_know_62 rfl (pk_mul (31) (u)) ?_
    refine s_iadd (q := 64) (v := nI (31 + (31 * u))) hX dX7_know_63 rfl (nI_add (31) (31 * u)) ?_
    refine s_invv2_0 (q := 67) hX dX7_know_64 rfl glk_7_131 (by assumption) (Nat.le_of_ble_eq_true rfl) ⟨Nat.le_refl _, Nat.le_refl _⟩ (by omega) (m_copy (d := 0) (f := 0) (t := 31 + 31 * u) hC0 (by omega) (by omega) (by omega) (fun M1 f1 f2 f3 => ?_)) 
    refine ⟨rfl, ?_⟩
    refine s_aload_n (q := 68) hX dX7_know_67 rfl rfl ?_
    refine s_dup (q := 69) hX dX7_know_68 rfl rfl ?_
    refine s_geti (q := 72) hX dX7_know_69 rfl gfl_7_92 (by assumption) rfl ?_
    refine s_topi (v := nI (u)) (by rw [f1 83 (by decide)]; exact w5) ?_
    refine s_iconst (q := 73) (v := 1) hX dX7_know_72 rfl rfl ?_
    refine s_iadd (q := 74) (v := nI (u + 1)) hX dX7_know_73 rfl (nI_add (u) (1)) ?_
    refine s_puti (q := 77) hX dX7_know_74 rfl gfl_7_92 (by assumption) rfl ?_
    refine s_ret hX dX7_know_77 rfl ⟨Nat.le_refl _, Nat.le_refl _, Nat.le_refl _, ?_⟩
    refine hcon _ ⟨⟨?_, fun j hj => ?_⟩, ?_, ?_, ⟨?_, fun k hk => ?_⟩, ⟨?_, fun k hk => ?_⟩, ⟨?_, fun j hj => ?_⟩⟩ (fun c hc => by rw [gsr_n _ _ (by omega), f1 c (by omega)]; exact hf c hc)
    · rw [gsr_s, pk_un (by decide), f1 83 (by decide)]; exact w1
    · rw [gsr_n _ _ (by decide), f1 84 (by decide)]; exact w2 j hj
    · exact w3.kp (fun c h1 h2 => by rw [gsr_n _ _ (by omega), f1 c (by omega)])
    · exact w4.kp o1 (fun j h1 h2 => by rw [gsr_n _ _ (by decide)]; exact f3 j (by omega))
    · rw [gsr_s, pk_us]; exact congrArg nI hu2
    · have hk2 : k < min 8 (S.un.1 + 1) := hk
      show STM _ (31 + 31 * (min 8 (S.un.1 + 1) - 1 - k)) S.T.P (if k = 0 then S.U else S.un.2 (k - 1))
      by_cases e : k = 0
      · subst e
        rw [if_pos rfl]
        refine w4.mv o1 (fun q hq => ?_)
        rw [gsr_n _ _ (by decide), show 31 + 31 * (min 8 (S.un.1 + 1) - 1 - 0) + q = 31 + 31 * u + q by omega]
        exact f2 q hq
      · rw [if_neg e, show 31 + 31 * (min 8 (S.un.1 + 1) - 1 - k) = 31 + 31 * (u - 1 - (k - 1)) by omega]
        refine (w6 (k - 1) (show k - 1 < u by omega)).kp o1 (fun j h1 h2 => ?_)
        have h2 : j < 31 + 31 * (u - 1 - (k - 1)) + 31 := h2
        rw [gsr_n _ _ (by decide)]
        exact f3 j (by omega)
    · rw [gsr_s, pk_un (by decide), f1 83 (by decide)]; exact w7
    · have hk2 : k < S.kp.1 := hk
      have h5 := g5.1
      refine (w8 k hk).kp o1 (fun j h1 h2 => ?_)
      have h1 : 279 + 31 * (S.kp.1 - 1 - k) ≤ j := h1
      rw [gsr_n _ _ (by decide)]
      exact f3 j (by omega)
    · rw [gsr_s, pk_un (by decide), f1 83 (by decide)]; exact w9
    · rw [gsr_n _ _ (by decide), gsr_n _ _ (by decide), gsr_n _ _ (by decide), f1 96 (by decide), f1 97 (by decide), f1 98 (by decide)]; exact w10 j hj
  have L : ∀ (m k : Nat) (M' : gM), S.un.1 = 8 → k + m = 217 → (∀ c, c ≠ 93 → M' c = M c) → (∀ j, M' 93 j = if 31 ≤ j ∧ j < 31 + k then M 93 (j + 31) else M 93 j) → X 11 [(0, .ref 83), (1, .int (nI k))] [] sh M' 0 0 := by
    intro m
    induction m with
    | zero =>
      intro k M' h8 hk h1 h2
      have e : k = 217 := by omega
      subst e
      refine s_iload_n (q := 12) hX dX7_know_11 rfl rfl ?_
      refine s_sipush (q := 15) (v := 217) hX dX7_know_12 rfl rfl (by decide) ?_
      refine s_icmp_ge_t (q := 18) (r := 42) hX dX7_know_15 rfl rfl (by decide) ?_
      refine s_aload_n (q := 43) hX dX7_know_42 rfl rfl ?_
      refine s_dup (q := 44) hX dX7_know_43 rfl rfl ?_
      refine s_geti (q := 47) hX dX7_know_44 rfl gfl_7_92 (by assumption) rfl ?_
      refine s_topi (v := nI (8)) (by rw [h1 83 (by decide), a4, h8]) ?_
      refine s_iconst (q := 48) (v := 1) hX dX7_know_47 rfl rfl ?_
      refine s_isub (q := 49) (v := nI (7)) hX dX7_know_48 rfl (by decide) ?_
      refine s_puti (q := 52) hX dX7_know_49 rfl gfl_7_92 (by assumption) rfl ?_
      refine s_dl hX (K 7 _ (by omega) (by omega) ⟨⟨?_, fun j hj => ?_⟩, ?_, ?_, ⟨?_, fun k hk => ?_⟩, ⟨?_, fun k hk => ?_⟩, ⟨?_, fun j hj => ?_⟩⟩ (fun c hc => by rw [gsr_n _ _ (by omega), h1 c (by omega)]))
      · rw [gsr_s, pk_un (by decide), h1 83 (by decide)]; exact a1
      · rw [gsr_n _ _ (by decide), h1 84 (by decide)]; exact a1x j hj
      · exact a2.kp (fun c h1' h2' => by rw [gsr_n _ _ (by omega), h1 c (by omega)])
      · exact a3.kp o1 (fun j h1' h2' => by rw [gsr_n _ _ (by decide), h2 j, if_neg (by omega)])
      · rw [gsr_s, pk_us]; rfl
      · have hk2 : k < 7 := hk
        show STM _ (31 + 31 * (7 - 1 - k)) S.T.P (S.un.2 k)
        refine (a4x k (by omega)).mv o1 (fun q hq => ?_)
        rw [gsr_n _ _ (by decide), h2, if_pos (by omega), h8]
        congr 1
        omega
      · rw [gsr_s, pk_un (by decide), h1 83 (by decide)]; exact a5
      · have hk2 : k < S.kp.1 := hk
        have h5 := g5.1
        refine (a5x k hk).kp o1 (fun j h1' h2' => ?_)
        rw [gsr_n _ _ (by decide), h2 j, if_neg (by omega)]
      · rw [gsr_s, pk_un (by decide), h1 83 (by decide)]; exact a6.1
      · rw [gsr_n _ _ (by decide), gsr_n _ _ (by decide), gsr_n _ _ (by decide), h1 96 (by decide), h1 97 (by decide), h1 98 (by decide)]; exact a6.2 j hj
    | succ m ih =>
      intro k M' h8 hk h1 h2
      refine s_iload_n (q := 12) hX dX7_know_11 rfl rfl ?_
      refine s_sipush (q := 15) (v := 217) hX dX7_know_12 rfl rfl (by decide) ?_
      refine s_icmp_ge_f (q := 18) (r := 42) hX dX7_know_15 rfl rfl (Int32.not_le.mpr (nI_lt (b := 217) (by omega) (by omega))) ?_
      refine s_aload_n (q := 19) hX dX7_know_18 rfl rfl ?_
      refine s_getr (q := 22) hX dX7_know_19 rfl gfl_7_38 (by assumption) rfl ?_
      refine s_bipush (q := 24) (v := 31) hX dX7_know_22 rfl rfl (by decide) ?_
      refine s_iload_n (q := 25) hX dX7_know_24 rfl rfl ?_
      refine s_iadd (q := 26) (v := nI (31 + k)) hX dX7_know_25 rfl (nI_add (31) (k)) ?_
      refine s_aload_n (q := 27) hX dX7_know_26 rfl rfl ?_
      refine s_getr (q := 30) hX dX7_know_27 rfl gfl_7_38 (by assumption) rfl ?_
      refine s_bipush (q := 32) (v := 62) hX dX7_know_30 rfl rfl (by decide) ?_
      refine s_iload_n (q := 33) hX dX7_know_32 rfl rfl ?_
      refine s_iadd (q := 34) (v := nI (62 + k)) hX dX7_know_33 rfl (nI_add (62) (k)) ?_
      refine s_iald (k := 62 + k) (q := 35) hX dX7_know_34 rfl (by assumption) rfl (by omega) (by omega) ?_
      refine s_iast (k := 31 + k) (q := 36) hX dX7_know_35 rfl (by assumption) rfl (by omega) (by omega) ?_
      refine s_iinc (q := 39) (v := nI (k + 1)) (lv' := [(0, _), (1, _)]) hX dX7_know_36 rfl rfl (nI_add (k) 1) (Nat.le_of_ble_eq_true rfl) rfl ?_
      refine s_goto (q := 11) hX dX7_know_39 rfl ?_
      refine ih (k + 1) _ h8 (by omega) (fun c hc => by rw [gsr_n _ _ hc]; exact h1 c hc) (fun j => ?_)
      rw [gsr_s]
      by_cases e : j = 31 + k
      · subst e
        rw [pk_us, h2, if_neg (by omega), if_pos (by omega)]
        congr 1
        omega
      · rw [pk_un e, h2]
        by_cases e2 : 31 ≤ j ∧ j < 31 + k
        · rw [if_pos e2, if_pos (by omega)]
        · rw [if_neg e2, if_neg (by omega)]
  refine s_aload_n (q := 1) hX dX7_know_0 rfl rfl ?_
  refine s_geti (q := 4) hX dX7_know_1 rfl gfl_7_92 (by assumption) rfl ?_
  refine s_topi (v := nI (S.un.1)) a4 ?_
  refine s_bipush (q := 6) (v := 8) hX dX7_know_4 rfl rfl (by decide) ?_
  refine s_nicmp_ne (a := S.un.1) (b := 8) (q := 9) (r := 52) hX dX7_know_6 rfl rfl rfl rfl (by omega) (by omega) (fun c6 => ?_) (fun c6 => ?_)
  · exact K S.un.1 M (by omega) (by omega) hS0 (fun _ _ => rfl)
  · refine s_iconst (q := 10) (v := 0) hX dX7_know_9 rfl rfl ?_
    refine s_istore_n (q := 11) (lv' := [(0, _), (1, _)]) hX dX7_know_10 rfl (Nat.le_of_ble_eq_true rfl) rfl ?_
    exact L 217 0 M (by omega) rfl (fun _ _ => rfl) (fun j => by rw [if_neg (by omega)])
