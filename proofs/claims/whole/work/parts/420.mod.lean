set_option maxHeartbeats 4000000 in
set_option maxRecDepth 100000 in
theorem m_fault {d : Nat} {tx : Nat → Nat} {len : Nat} {sh : List gS} {M : gM} {Q : Option Value → List gS → gM → Prop} (hd : 3 ≤ d) (hC : isMod sh) (hT : TXM M tx len) (hok : txok tx len) (hcon0 : ∀ q, flt tx len 200 0 gT.e0 = .inl q → q ≤ 200 → ∀ M', FRX M M' → Q (some (.int (nI q))) sh M') (hcon1 : ∀ T', flt tx len 200 0 gT.e0 = .inr T' → T'.dr → ∀ M', FRX M M' → TWX M' T' → Q (some (.int (-4))) sh M') : gC mX7_fault d 0 0 [.ref 83] sh M Q := by
  have hC0 := hC
  obtain ⟨y0, y1, y2, y3, y4, y5, y6, y7, y8, y9, y10, y11, y12, y13, y14, y15⟩ := hC
  have hok0 := hok
  obtain ⟨k1, k2⟩ := hok
  refine gC_of (rt := 1) (ini := false) gm_X7_fault rfl (by decide) (Nat.le_of_ble_eq_true rfl) (fun X hX => ?_)
  have L : ∀ (m pl : Nat) (T : gT) (M1 : gM), len ≤ pl + m → pl ≤ len → flt tx len m pl T = flt tx len 200 0 gT.e0 → T.dr → FRX M M1 → M1 83 10 = nI pl → TWX M1 T → X 26 [(0, .ref 83)] [] sh M1 0 0 := by
    intro m
    induction m with
    | zero =>
      intro pl T M1 h1 h2 h3 h4 h5 h6 h7
      have e : pl = len := by omega
      have hT1 := hT.fx h5
      refine s_aload_n (q := 27) hX dX7_fault_26 rfl rfl ?_
      refine s_geti (q := 30) hX dX7_fault_27 rfl gfl_7_74 (by assumption) rfl ?_
      refine s_topi (v := nI (pl)) h6 ?_
      refine s_aload_n (q := 31) hX dX7_fault_30 rfl rfl ?_
      refine s_geti (q := 34) hX dX7_fault_31 rfl gfl_7_70 (by assumption) rfl ?_
      refine s_topi (v := nI (len)) hT1.1 ?_
      refine s_icmp_ge_t (q := 37) (r := 58) hX dX7_fault_34 rfl rfl (nI_le (by omega) (by omega)) ?_
      refine s_bipush (q := 60) (v := (-4)) hX dX7_fault_58 rfl rfl (by decide) ?_
      refine s_iret hX dX7_fault_60 (Or.inl rfl) ⟨Nat.le_refl _, Nat.le_refl _, Nat.le_refl _, ?_⟩
      exact hcon1 T h3.symm h4 M1 h5 h7
    | succ m ih =>
      intro pl T M1 h1 h2 h3 h4 h5 h6 h7
      have hT1 := hT.fx h5
      refine s_aload_n (q := 27) hX dX7_fault_26 rfl rfl ?_
      refine s_geti (q := 30) hX dX7_fault_27 rfl gfl_7_74 (by assumption) rfl ?_
      refine s_topi (v := nI (pl)) h6 ?_
      refine s_aload_n (q := 31) hX dX7_fault_30 rfl rfl ?_
      refine s_geti (q := 34) hX dX7_fault_31 rfl gfl_7_70 (by assumption) rfl ?_
      refine s_topi (v := nI (len)) hT1.1 ?_
      refine s_nicmp_ge (a := pl) (b := len) (q := 37) (r := 58) hX dX7_fault_34 rfl rfl rfl rfl (by omega) (by omega) (fun c34 => ?_) (fun c34 => ?_)
      · refine s_bipush (q := 60) (v := (-4)) hX dX7_fault_58 rfl rfl (by decide) ?_
        refine s_iret hX dX7_fault_60 (Or.inl rfl) ⟨Nat.le_refl _, Nat.le_refl _, Nat.le_refl _, ?_⟩
        refine hcon1 T ?_ h4 M1 h5 h7
        rw [← h3]
        show (if pl < len then (match itm T tx len pl with
          | none => (Sum.inl pl : Nat ⊕ gT)
          | some q => flt tx len m q.2 q.1) else Sum.inr T) = _
        rw [if_neg (by omega)]
      · refine s_aload_n (q := 38) hX dX7_fault_37 rfl rfl ?_
        refine s_geti (q := 41) hX dX7_fault_38 rfl gfl_7_74 (by assumption) rfl ?_
        refine s_topi (v := nI (pl)) h6 ?_
        refine s_istore_n (q := 42) (lv' := [(0, _), (1, _)]) hX dX7_fault_41 rfl (Nat.le_of_ble_eq_true rfl) rfl ?_
        refine s_aload_n (q := 43) hX dX7_fault_42 rfl rfl ?_
        refine s_invv0_0 (q := 46) hX dX7_fault_43 rfl glk_7_89 (by assumption) (Nat.le_of_ble_eq_true rfl) ⟨Nat.le_refl _, Nat.le_refl _⟩ (by omega) (m_readItem (d := 2) (pl := pl) (T := T) (Nat.le_refl _) hC0 hT1 hok0 h6 (by omega) h7 h4 (fun e M2 f2 s2 => ?_) (fun T2 q2 e M2 f2 t2 s2 d2 => ?_)) 
        · refine ⟨rfl, ?_⟩
          refine s_aload_n (q := 47) hX dX7_fault_46 rfl rfl ?_
          refine s_geti (q := 50) hX dX7_fault_47 rfl gfl_7_81 (by assumption) rfl ?_
          refine s_topi (v := 0) s2 ?_
          refine s_if_ne_f (q := 53) (r := 55) hX dX7_fault_50 rfl rfl (by decide) ?_
          refine s_iload_n (q := 54) hX dX7_fault_53 rfl rfl ?_
          refine s_iret hX dX7_fault_54 (Or.inl rfl) ⟨Nat.le_refl _, Nat.le_refl _, Nat.le_refl _, ?_⟩
          refine hcon0 pl ?_ (by omega) M2 (h5.tr f2)
          rw [← h3]
          show (if pl < len then (match itm T tx len pl with
            | none => (Sum.inl pl : Nat ⊕ gT)
            | some q => flt tx len m q.2 q.1) else Sum.inr T) = _
          rw [if_pos (by omega), e]
        · refine ⟨rfl, ?_⟩
          refine s_aload_n (q := 47) hX dX7_fault_46 rfl rfl ?_
          refine s_geti (q := 50) hX dX7_fault_47 rfl gfl_7_81 (by assumption) rfl ?_
          refine s_topi (v := 1) s2 ?_
          refine s_if_ne_t (q := 53) (r := 55) hX dX7_fault_50 rfl rfl (by decide) ?_
          refine s_goto (q := 26) hX dX7_fault_55 rfl ?_
          obtain ⟨b1, b2⟩ := itm_b (by omega) e
          refine s_dl hX (ih q2 T2 M2 (by omega) (by omega) ?_ (itm_dr h4 e) (h5.tr f2) t2 d2)
          rw [← h3]
          show _ = (if pl < len then (match itm T tx len pl with
            | none => (Sum.inl pl : Nat ⊕ gT)
            | some q => flt tx len m q.2 q.1) else Sum.inr T)
          rw [if_pos (by omega), e]
  refine s_aload_n (q := 1) hX dX7_fault_0 rfl rfl ?_
  refine s_iconst (q := 2) (v := 0) hX dX7_fault_1 rfl rfl ?_
  refine s_puti (q := 5) hX dX7_fault_2 rfl gfl_7_74 (by assumption) rfl ?_
  refine s_aload_n (q := 6) hX dX7_fault_5 rfl rfl ?_
  refine s_getr (q := 9) hX dX7_fault_6 rfl gfl_7_13 (by assumption) rfl ?_
  refine s_iconst (q := 10) (v := 1) hX dX7_fault_9 rfl rfl ?_
  refine s_iconst (q := 11) (v := 0) hX dX7_fault_10 rfl rfl ?_
  refine s_iast (k := 1) (q := 12) hX dX7_fault_11 rfl (by assumption) rfl (by omega) (by omega) ?_
  refine s_aload_n (q := 13) hX dX7_fault_12 rfl rfl ?_
  refine s_getr (q := 16) hX dX7_fault_13 rfl gfl_7_23 (by assumption) rfl ?_
  refine s_iconst (q := 17) (v := 1) hX dX7_fault_16 rfl rfl ?_
  refine s_iconst (q := 18) (v := 0) hX dX7_fault_17 rfl rfl ?_
  refine s_iast (k := 1) (q := 19) hX dX7_fault_18 rfl (by assumption) rfl (by omega) (by omega) ?_
  refine s_aload_n (q := 20) hX dX7_fault_19 rfl rfl ?_
  refine s_getr (q := 23) hX dX7_fault_20 rfl gfl_7_35 (by assumption) rfl ?_
  refine s_iconst (q := 24) (v := 1) hX dX7_fault_23 rfl rfl ?_
  refine s_iconst (q := 25) (v := 1) hX dX7_fault_24 rfl rfl ?_
  refine s_iast (k := 1) (q := 26) hX dX7_fault_25 rfl (by assumption) rfl (by omega) (by omega) ?_
  refine L 200 0 gT.e0 _ (by omega) (by omega) rfl gT.e0_dr ((((FRX.rf.put (by unfold dft; omega)).put (by unfold dft; omega)).put (by unfold dft; omega)).put (by unfold dft; omega)) ?_ ⟨?_, ?_, ?_, (fun i hi => by cases hi), (fun j hj => by cases hj), (fun j hj => by cases hj), (fun k hk => by cases hk), (fun j hj => by cases hj)⟩
  · rw [gsr_n _ _ (by decide), gsr_n _ _ (by decide), gsr_n _ _ (by decide), gsr_s, pk_us]; rfl
  · rw [gsr_n _ _ (by decide), gsr_n _ _ (by decide), gsr_s, pk_us]; rfl
  · rw [gsr_n _ _ (by decide), gsr_s, pk_us]; rfl
  · rw [gsr_s, pk_us]; rfl
set_option maxHeartbeats 4000000 in
set_option maxRecDepth 100000 in
theorem p_fault {d b : Nat}  {S : gA} {sh : List gS} {M : gM} {Q : Option Value → List gS → gM → Prop} (hd : 3 ≤ d) (hC : isMod sh) (hS : MOD M S) (hk : S.ok b) (hb : b ≤ 20000) (hcon : kM sh M (S.fault) Q) : gC mX7_fault d 0 0 [.ref 83] sh M Q := by
  have g1 := hk.1
  refine m_fault hd hC hS.1 hk.2.2.2.2.2.2 (fun q e _ M' hF => ?_) (fun T' e _ M' hF _ => ?_)
  · exact hcon.ret (by unfold gA.fault; rw [e]) (hS.fx g1 hF) (fun c hc => hF.row (by omega))
  · exact hcon.ret (by unfold gA.fault; rw [e]) (hS.fx g1 hF) (fun c hc => hF.row (by omega))
def HC (M M1 : gM) (c n i : Nat) : Prop := (∀ j, j < i → M1 c j = M c (n + j)) ∧ ∀ j, i ≤ j → M1 c j = M c j
theorem HC.z {M M1 : gM} {c n : Nat} (h : M1 c = M c) : HC M M1 c n 0 := ⟨fun j hj => absurd hj (by omega), fun j _ => by rw [h]⟩
theorem HC.s {M M1 : gM} {c n i : Nat} {x : Int32} (h : HC M M1 c n i) (hx : x = M1 c (n + i)) : HC M (gsr M1 c (upd (M1 c) i x)) c n (i + 1) := by
  refine ⟨fun j hj => ?_, fun j hj => ?_⟩
  · rw [gsr_s]
    by_cases e : j = i
    · subst e; rw [pk_us, hx]; exact h.2 _ (by omega)
    · rw [pk_un e]; exact h.1 j (by omega)
  · rw [gsr_s, pk_un (by omega)]; exact h.2 j (by omega)
theorem HC.n {M M1 : gM} {c n i b : Nat} {f : Nat → Int32} (h : HC M M1 c n i) (hb : c ≠ b) : HC M (gsr M1 b f) c n i := by
  unfold HC; rw [gsr_n _ _ hb]; exact h
/-- how far the draft is taken -/
def TD (M M1 : gM) (a b c e : Nat) : Prop := (M1 85 0 = M 85 1 ∧ M1 88 0 = M 88 1 ∧ M1 92 0 = M 92 1) ∧ (HC M M1 86 6 a ∧ HC M M1 87 18 b ∧ HC M M1 89 18 b ∧ HC M M1 90 6 c ∧ HC M M1 91 42 e) ∧ M1 83 = M 83 ∧ ∀ q, q < 83 ∨ q = 84 ∨ 93 ≤ q → M1 q = M q
theorem TD.tw {M M1 : gM} {T : gT} (h : TD M M1 6 18 6 42) (hT : T.ok) (hX : TWX M T) : TWM M1 T := by
  obtain ⟨o1, o2, -⟩ := hT
  obtain ⟨⟨d1, d2, d3⟩, ⟨e1, e2, e3, e4, e5⟩, -⟩ := h
  obtain ⟨h1, h2, h3, h4, h5, h6, h7, h8⟩ := hX
  exact ⟨d1.trans h1, d2.trans h2, d3.trans h3, fun i hi => (e1.1 i (by omega)).trans (h4 i hi), fun j hj => (e2.1 j (by omega)).trans (h5 j hj), fun j hj => (e3.1 j (by omega)).trans (h6 j hj), fun k hk => (e4.1 k (by omega)).trans (h7 k hk), fun j hj => (e5.1 j (by omega)).trans (h8 j hj)⟩
set_option maxHeartbeats 4000000 in
set_option maxRecDepth 100000 in
theorem m_takeDraft {d : Nat} {T : gT} {sh : List gS} {M : gM} {Q : Option Value → List gS → gM → Prop} (hC : isMod sh) (hX9 : TWX M T) (hok : T.ok) (hcon : ∀ M', TWM M' T → STM M' 0 T.P T.U0 → (M' 83 13 = 0 ∧ M' 83 14 = 0 ∧ M' 83 22 = 0) → (∀ k, k ≠ 13 → k ≠ 14 → k ≠ 22 → M' 83 k = M 83 k) → (∀ q, q < 83 ∨ q = 84 ∨ 94 ≤ q → M' q = M q) → Q none sh M') : gC mX7_takeDraft d 0 0 [.ref 83] sh M Q := by
  have hC0 := hC
  obtain ⟨y0, y1, y2, y3, y4, y5, y6, y7, y8, y9, y10, y11, y12, y13, y14, y15⟩ := hC
  have hok0 := hok
  obtain ⟨o1, o2, o3, o4, o5, o6, o7, o8⟩ := hok
  refine gC_of (rt := 0) (ini := false) gm_X7_takeDraft rfl (by decide) (Nat.le_of_ble_eq_true rfl) (fun X hX => ?_)
  have L6 : ∀ (m i : Nat) (M1 : gM), i + m = 3 * T.P → TWM M1 T → (M1 83 = M 83 ∧ ∀ q, q < 83 ∨ q = 84 ∨ 94 ≤ q → M1 q = M q) → (M1 93 0 = 0 ∧ ∀ j, 19 ≤ j → j < 31 → M1 93 j = 0) → (∀ j, j < i → M1 93 (1 + j) = nI (T.ra j)) → X 190 [(0, .ref 83), (1, .int (nI i))] [] sh M1 0 0 := by
    intro m
    induction m with
    | zero =>
      intro i M1 hi hw hf hz hr
      have e : i = 3 * T.P := by omega
      subst e
      refine s_iload_n (q := 191) hX dX7_takeDraft_190 rfl rfl ?_
      refine s_iconst (q := 192) (v := 3) hX dX7_takeDraft_191 rfl rfl ?_
      refine s_aload_n (q := 193) hX dX7_takeDraft_192 rfl rfl ?_
      refine s_getr (q := 196) hX dX7_takeDraft_193 rfl gfl_7_13 (by assumption) rfl ?_
      refine s_iconst (q := 197) (v := 0) hX dX7_takeDraft_196 rfl rfl ?_
      refine s_iald (k := 0) (q := 198) hX dX7_takeDraft_197 rfl (by assumption) rfl (by omega) (by omega) ?_
      refine s_topi (v := nI (T.P)) hw.1 ?_
      refine s_imul (q := 199) (v := nI (3 * (T.P))) hX dX7_takeDraft_198 rfl (pk_mul (3) (T.P)) ?_
      refine s_icmp_ge_t (q := 202) (r := 222) hX dX7_takeDraft_199 rfl rfl (Int32.le_refl _) ?_
      refine s_aload_n (q := 223) hX dX7_takeDraft_222 rfl rfl ?_
      refine s_iconst (q := 224) (v := 0) hX dX7_takeDraft_223 rfl rfl ?_
      refine s_puti (q := 227) hX dX7_takeDraft_224 rfl gfl_7_92 (by assumption) rfl ?_
      refine s_aload_n (q := 228) hX dX7_takeDraft_227 rfl rfl ?_
      refine s_iconst (q := 229) (v := 0) hX dX7_takeDraft_228 rfl rfl ?_
      refine s_puti (q := 232) hX dX7_takeDraft_229 rfl gfl_7_95 (by assumption) rfl ?_
      refine s_aload_n (q := 233) hX dX7_takeDraft_232 rfl rfl ?_
      refine s_iconst (q := 234) (v := 0) hX dX7_takeDraft_233 rfl rfl ?_
      refine s_puti (q := 237) hX dX7_takeDraft_234 rfl gfl_7_98 (by assumption) rfl ?_
      refine s_ret hX dX7_takeDraft_237 rfl ⟨Nat.le_refl _, Nat.le_refl _, Nat.le_refl _, ?_⟩
      refine hcon _ (hw.kp (fun c h1 h2 => ?_)) ⟨?_, fun j hj => ?_, fun i hi => ?_, fun i hi => ?_⟩ ⟨?_, ?_, ?_⟩ (fun k z1 z2 z3 => ?_) (fun q hq => ?_)
      · rw [gsr_n _ _ (by omega), gsr_n _ _ (by omega), gsr_n _ _ (by omega)]
      · rw [gsr_n _ _ (by decide), gsr_n _ _ (by decide), gsr_n _ _ (by decide)]; exact hz.1
      · rw [gsr_n _ _ (by decide), gsr_n _ _ (by decide), gsr_n _ _ (by decide), show 0 + 1 + j = 1 + j by omega]; exact hr j hj
      · rw [gsr_n _ _ (by decide), gsr_n _ _ (by decide), gsr_n _ _ (by decide)]; exact hz.2 _ (by omega) (by omega)
      · rw [gsr_n _ _ (by decide), gsr_n _ _ (by decide), gsr_n _ _ (by decide)]; exact hz.2 _ (by omega) (by omega)
      · rw [gsr_s, pk_un (by decide), gsr_s, pk_un (by decide), gsr_s, pk_us]
      · rw [gsr_s, pk_un (by decide), gsr_s, pk_us]
      · rw [gsr_s, pk_us]
      · rw [gsr_s, pk_un z3, gsr_s, pk_un z2, gsr_s, pk_un z1, hf.1]
      · rw [gsr_n _ _ (by omega), gsr_n _ _ (by omega), gsr_n _ _ (by omega)]; exact hf.2 q hq
    | succ m ih =>
      intro i M1 hi hw hf hz hr
      refine s_iload_n (q := 191) hX dX7_takeDraft_190 rfl rfl ?_
      refine s_iconst (q := 192) (v := 3) hX dX7_takeDraft_191 rfl rfl ?_
      refine s_aload_n (q := 193) hX dX7_takeDraft_192 rfl rfl ?_
      refine s_getr (q := 196) hX dX7_takeDraft_193 rfl gfl_7_13 (by assumption) rfl ?_
      refine s_iconst (q := 197) (v := 0) hX dX7_takeDraft_196 rfl rfl ?_
      refine s_iald (k := 0) (q := 198) hX dX7_takeDraft_197 rfl (by assumption) rfl (by omega) (by omega) ?_
      refine s_topi (v := nI (T.P)) hw.1 ?_
      refine s_imul (q := 199) (v := nI (3 * (T.P))) hX dX7_takeDraft_198 rfl (pk_mul (3) (T.P)) ?_
      refine s_icmp_ge_f (q := 202) (r := 222) hX dX7_takeDraft_199 rfl rfl (Int32.not_le.mpr (nI_lt (by omega) (by omega))) ?_
      refine s_aload_n (q := 203) hX dX7_takeDraft_202 rfl rfl ?_
      refine s_getr (q := 206) hX dX7_takeDraft_203 rfl gfl_7_38 (by assumption) rfl ?_
      refine s_iconst (q := 207) (v := 1) hX dX7_takeDraft_206 rfl rfl ?_
      refine s_iload_n (q := 208) hX dX7_takeDraft_207 rfl rfl ?_
      refine s_iadd (q := 209) (v := nI (1 + i)) hX dX7_takeDraft_208 rfl (nI_add (1) (i)) ?_
      refine s_aload_n (q := 210) hX dX7_takeDraft_209 rfl rfl ?_
      refine s_getr (q := 213) hX dX7_takeDraft_210 rfl gfl_7_20 (by assumption) rfl ?_
      refine s_iload_n (q := 214) hX dX7_takeDraft_213 rfl rfl ?_
      refine s_iald (k := i) (q := 215) hX dX7_takeDraft_214 rfl (by assumption) rfl (by omega) (by omega) ?_
      refine s_topi (v := nI (T.ra i)) (hw.2.2.2.2.1 i (by omega)) ?_
      refine s_iast (k := 1 + i) (q := 216) hX dX7_takeDraft_215 rfl (by assumption) rfl (by omega) (by omega) ?_
      refine s_iinc (q := 219) (v := nI (i + 1)) (lv' := [(0, _), (1, _)]) hX dX7_takeDraft_216 rfl rfl (nI_add (i) 1) (Nat.le_of_ble_eq_true rfl) rfl ?_
      refine s_goto (q := 190) hX dX7_takeDraft_219 rfl ?_
      refine ih (i + 1) _ (by omega) (hw.kp (fun c h1 h2 => gsr_n _ _ (by omega))) ⟨?_, fun q hq => ?_⟩ ⟨?_, fun j h1 h2 => ?_⟩ (fun j hj => ?_)
      · rw [gsr_n _ _ (by decide)]; exact hf.1
      · rw [gsr_n _ _ (by omega)]; exact hf.2 q hq
      · rw [gsr_s, pk_un (by omega)]; exact hz.1
      · rw [gsr_s, pk_un (by omega)]; exact hz.2 j h1 h2
      · rw [gsr_s]
        by_cases e : j = i
        · subst e; rw [pk_us]
        · rw [pk_un (by omega)]; exact hr j (by omega)
  have L5 : ∀ (m i : Nat) (M1 : gM), i + m = 31 → TWM M1 T → (M1 83 = M 83 ∧ ∀ q, q < 83 ∨ q = 84 ∨ 94 ≤ q → M1 q = M q) → (∀ j, j < i → M1 93 j = 0) → X 169 [(0, .ref 83), (1, .int (nI i))] [] sh M1 0 0 := by
    intro m
    induction m with
    | zero =>
      intro i M1 hi hw hf hz
      have e : i = 31 := by omega
      subst e
      refine s_iload_n (q := 170) hX dX7_takeDraft_169 rfl rfl ?_
      refine s_bipush (q := 172) (v := 31) hX dX7_takeDraft_170 rfl rfl (by decide) ?_
      refine s_icmp_ge_t (q := 175) (r := 188) hX dX7_takeDraft_172 rfl rfl (by decide) ?_
      refine s_iconst (q := 189) (v := 0) hX dX7_takeDraft_188 rfl rfl ?_
      refine s_istore_n (q := 190) (lv' := [(0, _), (1, _)]) hX dX7_takeDraft_189 rfl (Nat.le_of_ble_eq_true rfl) rfl ?_
      exact L6 (3 * T.P) 0 M1 (by omega) hw hf ⟨hz 0 (by omega), fun j _ h => hz j h⟩ (fun j hj => absurd hj (by omega))
    | succ m ih =>
      intro i M1 hi hw hf hz
      refine s_iload_n (q := 170) hX dX7_takeDraft_169 rfl rfl ?_
      refine s_bipush (q := 172) (v := 31) hX dX7_takeDraft_170 rfl rfl (by decide) ?_
      refine s_icmp_ge_f (q := 175) (r := 188) hX dX7_takeDraft_172 rfl rfl (Int32.not_le.mpr (nI_lt (b := 31) (by omega) (by omega))) ?_
      refine s_aload_n (q := 176) hX dX7_takeDraft_175 rfl rfl ?_
      refine s_getr (q := 179) hX dX7_takeDraft_176 rfl gfl_7_38 (by assumption) rfl ?_
      refine s_iload_n (q := 180) hX dX7_takeDraft_179 rfl rfl ?_
      refine s_iconst (q := 181) (v := 0) hX dX7_takeDraft_180 rfl rfl ?_
      refine s_iast (k := i) (q := 182) hX dX7_takeDraft_181 rfl (by assumption) rfl (by omega) (by omega) ?_
      refine s_iinc (q := 185) (v := nI (i + 1)) (lv' := [(0, _), (1, _)]) hX dX7_takeDraft_182 rfl rfl (nI_add (i) 1) (Nat.le_of_ble_eq_true rfl) rfl ?_
      refine s_goto (q := 169) hX dX7_takeDraft_185 rfl ?_
      refine ih (i + 1) _ (by omega) (hw.kp (fun c h1 h2 => gsr_n _ _ (by omega))) ⟨?_, fun q hq => ?_⟩ (fun j hj => ?_)
      · rw [gsr_n _ _ (by decide)]; exact hf.1
      · rw [gsr_n _ _ (by omega)]; exact hf.2 q hq
      · rw [gsr_s]
        by_cases e : j = i
        · subst e; exact pk_us
        · rw [pk_un e]; exact hz j (by omega)
  have L4 : ∀ (m i : Nat) (M1 : gM), i + m = 42 → TD M M1 6 18 6 i → X 140 [(0, .ref 83), (1, .int (nI i))] [] sh M1 0 0 := by
    intro m
    induction m with
    | zero =>
      intro i M1 hi hh
      have e : i = 42 := by omega
      subst e
      refine s_iload_n (q := 141) hX dX7_takeDraft_140 rfl rfl ?_
      refine s_bipush (q := 143) (v := 42) hX dX7_takeDraft_141 rfl rfl (by decide) ?_
      refine s_icmp_ge_t (q := 146) (r := 167) hX dX7_takeDraft_143 rfl rfl (by decide) ?_
      refine s_iconst (q := 168) (v := 0) hX dX7_takeDraft_167 rfl rfl ?_
      refine s_istore_n (q := 169) (lv' := [(0, _), (1, _)]) hX dX7_takeDraft_168 rfl (Nat.le_of_ble_eq_true rfl) rfl ?_
      exact L5 31 0 M1 (by omega) (hh.tw hok0 hX9) ⟨hh.2.2.1, fun q hq => hh.2.2.2 q (by omega)⟩ (fun j hj => absurd hj (by omega))
    | succ m ih =>
      intro i M1 hi hh
      refine s_iload_n (q := 141) hX dX7_takeDraft_140 rfl rfl ?_
      refine s_bipush (q := 143) (v := 42) hX dX7_takeDraft_141 rfl rfl (by decide) ?_
      refine s_icmp_ge_f (q := 146) (r := 167) hX dX7_takeDraft_143 rfl rfl (Int32.not_le.mpr (nI_lt (b := 42) (by omega) (by omega))) ?_
      refine s_aload_n (q := 147) hX dX7_takeDraft_146 rfl rfl ?_
      refine s_getr (q := 150) hX dX7_takeDraft_147 rfl gfl_7_32 (by assumption) rfl ?_
      refine s_iload_n (q := 151) hX dX7_takeDraft_150 rfl rfl ?_
      refine s_aload_n (q := 152) hX dX7_takeDraft_151 rfl rfl ?_
      refine s_getr (q := 155) hX dX7_takeDraft_152 rfl gfl_7_32 (by assumption) rfl ?_
      refine s_bipush (q := 157) (v := 42) hX dX7_takeDraft_155 rfl rfl (by decide) ?_
      refine s_iload_n (q := 158) hX dX7_takeDraft_157 rfl rfl ?_
      refine s_iadd (q := 159) (v := nI (42 + i)) hX dX7_takeDraft_158 rfl (nI_add (42) (i)) ?_
      refine s_iald (k := 42 + i) (q := 160) hX dX7_takeDraft_159 rfl (by assumption) rfl (by omega) (by omega) ?_
      refine s_iast (k := i) (q := 161) hX dX7_takeDraft_160 rfl (by assumption) rfl (by omega) (by omega) ?_
      refine s_iinc (q := 164) (v := nI (i + 1)) (lv' := [(0, _), (1, _)]) hX dX7_takeDraft_161 rfl rfl (nI_add (i) 1) (Nat.le_of_ble_eq_true rfl) rfl ?_
      refine s_goto (q := 140) hX dX7_takeDraft_164 rfl ?_
      obtain ⟨d1, ⟨e1, e2, e3, e4, e5⟩, f1, f2⟩ := hh
      refine ih (i + 1) _ (by omega) ⟨?_, ⟨e1.n (by decide), e2.n (by decide), e3.n (by decide), e4.n (by decide), e5.s rfl⟩, ?_, fun q hq => ?_⟩
      · rw [gsr_n _ _ (by decide), gsr_n _ _ (by decide), gsr_n _ _ (by decide)]; exact d1
      · rw [gsr_n _ _ (by decide)]; exact f1
      · rw [gsr_n _ _ (by omega)]; exact f2 q hq
  have L3 : ∀ (m i : Nat) (M1 : gM), i + m = 6 → TD M M1 6 18 i 0 → X 111 [(0, .ref 83), (1, .int (nI i))] [] sh M1 0 0 := by
    intro m
    induction m with
    | zero =>
      intro i M1 hi hh
      have e : i = 6 := by omega
      subst e
      refine s_iload_n (q := 112) hX dX7_takeDraft_111 rfl rfl ?_
      refine s_bipush (q := 114) (v := 6) hX dX7_takeDraft_112 rfl rfl (by decide) ?_
      refine s_icmp_ge_t (q := 117) (r := 138) hX dX7_takeDraft_114 rfl rfl (by decide) ?_
      refine s_iconst (q := 139) (v := 0) hX dX7_takeDraft_138 rfl rfl ?_
      refine s_istore_n (q := 140) (lv' := [(0, _), (1, _)]) hX dX7_takeDraft_139 rfl (Nat.le_of_ble_eq_true rfl) rfl ?_
      exact L4 42 0 M1 (by omega) hh
    | succ m ih =>
      intro i M1 hi hh
      refine s_iload_n (q := 112) hX dX7_takeDraft_111 rfl rfl ?_
      refine s_bipush (q := 114) (v := 6) hX dX7_takeDraft_112 rfl rfl (by decide) ?_
      refine s_icmp_ge_f (q := 117) (r := 138) hX dX7_takeDraft_114 rfl rfl (Int32.not_le.mpr (nI_lt (b := 6) (by omega) (by omega))) ?_
      refine s_aload_n (q := 118) hX dX7_takeDraft_117 rfl rfl ?_
      refine s_getr (q := 121) hX dX7_takeDraft_118 rfl gfl_7_29 (by assumption) rfl ?_
      refine s_iload_n (q := 122) hX dX7_takeDraft_121 rfl rfl ?_
      refine s_aload_n (q := 123) hX dX7_takeDraft_122 rfl rfl ?_
      refine s_getr (q := 126) hX dX7_takeDraft_123 rfl gfl_7_29 (by assumption) rfl ?_
      refine s_bipush (q := 128) (v := 6) hX dX7_takeDraft_126 rfl rfl (by decide) ?_
      refine s_iload_n (q := 129) hX dX7_takeDraft_128 rfl rfl ?_
      refine s_iadd (q := 130) (v := nI (6 + i)) hX dX7_takeDraft_129 rfl (nI_add (6) (i)) ?_
      refine s_iald (k := 6 + i) (q := 131) hX dX7_takeDraft_130 rfl (by assumption) rfl (by omega) (by omega) ?_
      refine s_iast (k := i) (q := 132) hX dX7_takeDraft_131 rfl (by assumption) rfl (by omega) (by omega) ?_
      refine s_iinc (q := 135) (v := nI (i + 1)) (lv' := [(0, _), (1, _)]) hX dX7_takeDraft_132 rfl rfl (nI_add (i) 1) (Nat.le_of_ble_eq_true rfl) rfl ?_
      refine s_goto (q := 111) hX dX7_takeDraft_135 rfl ?_
      obtain ⟨d1, ⟨e1, e2, e3, e4, e5⟩, f1, f2⟩ := hh
      refine ih (i + 1) _ (by omega) ⟨?_, ⟨e1.n (by decide), e2.n (by decide), e3.n (by decide), e4.s rfl, e5.n (by decide)⟩, ?_, fun q hq => ?_⟩
      · rw [gsr_n _ _ (by decide), gsr_n _ _ (by decide), gsr_n _ _ (by decide)]; exact d1
      · rw [gsr_n _ _ (by decide)]; exact f1
      · rw [gsr_n _ _ (by omega)]; exact f2 q hq
  have L2 : ∀ (m i : Nat) (M1 : gM), i + m = 18 → TD M M1 6 i 0 0 → X 67 [(0, .ref 83), (1, .int (nI i))] [] sh M1 0 0 := by
    intro m
    induction m with
    | zero =>
      intro i M1 hi hh
      have e : i = 18 := by omega
      subst e
      refine s_iload_n (q := 68) hX dX7_takeDraft_67 rfl rfl ?_
      refine s_bipush (q := 70) (v := 18) hX dX7_takeDraft_68 rfl rfl (by decide) ?_
      refine s_icmp_ge_t (q := 73) (r := 109) hX dX7_takeDraft_70 rfl rfl (by decide) ?_
      refine s_iconst (q := 110) (v := 0) hX dX7_takeDraft_109 rfl rfl ?_
      refine s_istore_n (q := 111) (lv' := [(0, _), (1, _)]) hX dX7_takeDraft_110 rfl (Nat.le_of_ble_eq_true rfl) rfl ?_
      exact L3 6 0 M1 (by omega) hh
    | succ m ih =>
      intro i M1 hi hh
      refine s_iload_n (q := 68) hX dX7_takeDraft_67 rfl rfl ?_
      refine s_bipush (q := 70) (v := 18) hX dX7_takeDraft_68 rfl rfl (by decide) ?_
      refine s_icmp_ge_f (q := 73) (r := 109) hX dX7_takeDraft_70 rfl rfl (Int32.not_le.mpr (nI_lt (b := 18) (by omega) (by omega))) ?_
      refine s_aload_n (q := 74) hX dX7_takeDraft_73 rfl rfl ?_
      refine s_getr (q := 77) hX dX7_takeDraft_74 rfl gfl_7_20 (by assumption) rfl ?_
      refine s_iload_n (q := 78) hX dX7_takeDraft_77 rfl rfl ?_
      refine s_aload_n (q := 79) hX dX7_takeDraft_78 rfl rfl ?_
      refine s_getr (q := 82) hX dX7_takeDraft_79 rfl gfl_7_20 (by assumption) rfl ?_
      refine s_bipush (q := 84) (v := 18) hX dX7_takeDraft_82 rfl rfl (by decide) ?_
      refine s_iload_n (q := 85) hX dX7_takeDraft_84 rfl rfl ?_
      refine s_iadd (q := 86) (v := nI (18 + i)) hX dX7_takeDraft_85 rfl (nI_add (18) (i)) ?_
      refine s_iald (k := 18 + i) (q := 87) hX dX7_takeDraft_86 rfl (by assumption) rfl (by omega) (by omega) ?_
      refine s_iast (k := i) (q := 88) hX dX7_takeDraft_87 rfl (by assumption) rfl (by omega) (by omega) ?_
      refine s_aload_n (q := 89) hX dX7_takeDraft_88 rfl rfl ?_
      refine s_getr (q := 92) hX dX7_takeDraft_89 rfl gfl_7_26 (by assumption) rfl ?_
      refine s_iload_n (q := 93) hX dX7_takeDraft_92 rfl rfl ?_
      refine s_aload_n (q := 94) hX dX7_takeDraft_93 rfl rfl ?_
      refine s_getr (q := 97) hX dX7_takeDraft_94 rfl gfl_7_26 (by assumption) rfl ?_
      refine s_bipush (q := 99) (v := 18) hX dX7_takeDraft_97 rfl rfl (by decide) ?_
      refine s_iload_n (q := 100) hX dX7_takeDraft_99 rfl rfl ?_
      refine s_iadd (q := 101) (v := nI (18 + i)) hX dX7_takeDraft_100 rfl (nI_add (18) (i)) ?_
      refine s_iald (k := 18 + i) (q := 102) hX dX7_takeDraft_101 rfl (by assumption) rfl (by omega) (by omega) ?_
      refine s_iast (k := i) (q := 103) hX dX7_takeDraft_102 rfl (by assumption) rfl (by omega) (by omega) ?_
      refine s_iinc (q := 106) (v := nI (i + 1)) (lv' := [(0, _), (1, _)]) hX dX7_takeDraft_103 rfl rfl (nI_add (i) 1) (Nat.le_of_ble_eq_true rfl) rfl ?_
      refine s_goto (q := 67) hX dX7_takeDraft_106 rfl ?_
      obtain ⟨d1, ⟨e1, e2, e3, e4, e5⟩, f1, f2⟩ := hh
      refine ih (i + 1) _ (by omega) ⟨?_, ⟨(e1.n (by decide)).n (by decide), (e2.s rfl).n (by decide), (e3.n (by decide)).s (by first | rfl | (rw [gsr_n _ _ (by decide)])), (e4.n (by decide)).n (by decide), (e5.n (by decide)).n (by decide)⟩, ?_, fun q hq => ?_⟩
      · rw [gsr_n _ _ (by decide), gsr_n _ _ (by decide), gsr_n _ _ (by decide), gsr_n _ _ (by decide), gsr_n _ _ (by decide), gsr_n _ _ (by decide)]; exact d1
      · rw [gsr_n _ _ (by decide), gsr_n _ _ (by decide)]; exact f1
      · rw [gsr_n _ _ (by omega), gsr_n _ _ (by omega)]; exact f2 q hq
  have L1 : ∀ (m i : Nat) (M1 : gM), i + m = 6 → TD M M1 i 0 0 0 → X 38 [(0, .ref 83), (1, .int (nI i))] [] sh M1 0 0 := by
    intro m
    induction m with
    | zero =>
      intro i M1 hi hh
      have e : i = 6 := by omega
      subst e
      refine s_iload_n (q := 39) hX dX7_takeDraft_38 rfl rfl ?_
      refine s_bipush (q := 41) (v := 6) hX dX7_takeDraft_39 rfl rfl (by decide) ?_
      refine s_icmp_ge_t (q := 44) (r := 65) hX dX7_takeDraft_41 rfl rfl (by decide) ?_
      refine s_iconst (q := 66) (v := 0) hX dX7_takeDraft_65 rfl rfl ?_
      refine s_istore_n (q := 67) (lv' := [(0, _), (1, _)]) hX dX7_takeDraft_66 rfl (Nat.le_of_ble_eq_true rfl) rfl ?_
      exact L2 18 0 M1 (by omega) hh
    | succ m ih =>
      intro i M1 hi hh
      refine s_iload_n (q := 39) hX dX7_takeDraft_38 rfl rfl ?_
      refine s_bipush (q := 41) (v := 6) hX dX7_takeDraft_39 rfl rfl (by decide) ?_
      refine s_icmp_ge_f (q := 44) (r := 65) hX dX7_takeDraft_41 rfl rfl (Int32.not_le.mpr (nI_lt (b := 6) (by omega) (by omega))) ?_
      refine s_aload_n (q := 45) hX dX7_takeDraft_44 rfl rfl ?_
      refine s_getr (q := 48) hX dX7_takeDraft_45 rfl gfl_7_17 (by assumption) rfl ?_
      refine s_iload_n (q := 49) hX dX7_takeDraft_48 rfl rfl ?_
      refine s_aload_n (q := 50) hX dX7_takeDraft_49 rfl rfl ?_
      refine s_getr (q := 53) hX dX7_takeDraft_50 rfl gfl_7_17 (by assumption) rfl ?_
      refine s_bipush (q := 55) (v := 6) hX dX7_takeDraft_53 rfl rfl (by decide) ?_
      refine s_iload_n (q := 56) hX dX7_takeDraft_55 rfl rfl ?_
      refine s_iadd (q := 57) (v := nI (6 + i)) hX dX7_takeDraft_56 rfl (nI_add (6) (i)) ?_
      refine s_iald (k := 6 + i) (q := 58) hX dX7_takeDraft_57 rfl (by assumption) rfl (by omega) (by omega) ?_
      refine s_iast (k := i) (q := 59) hX dX7_takeDraft_58 rfl (by assumption) rfl (by omega) (by omega) ?_
      refine s_iinc (q := 62) (v := nI (i + 1)) (lv' := [(0, _), (1, _)]) hX dX7_takeDraft_59 rfl rfl (nI_add (i) 1) (Nat.le_of_ble_eq_true rfl) rfl ?_
      refine s_goto (q := 38) hX dX7_takeDraft_62 rfl ?_
      obtain ⟨d1, ⟨e1, e2, e3, e4, e5⟩, f1, f2⟩ := hh
      refine ih (i + 1) _ (by omega) ⟨?_, ⟨e1.s rfl, e2.n (by decide), e3.n (by decide), e4.n (by decide), e5.n (by decide)⟩, ?_, fun q hq => ?_⟩
      · rw [gsr_n _ _ (by decide), gsr_n _ _ (by decide), gsr_n _ _ (by decide)]; exact d1
      · rw [gsr_n _ _ (by decide)]; exact f1
      · rw [gsr_n _ _ (by omega)]; exact f2 q hq
  refine s_aload_n (q := 1) hX dX7_takeDraft_0 rfl rfl ?_
  refine s_getr (q := 4) hX dX7_takeDraft_1 rfl gfl_7_13 (by assumption) rfl ?_
  refine s_iconst (q := 5) (v := 0) hX dX7_takeDraft_4 rfl rfl ?_
  refine s_aload_n (q := 6) hX dX7_takeDraft_5 rfl rfl ?_
  refine s_getr (q := 9) hX dX7_takeDraft_6 rfl gfl_7_13 (by assumption) rfl ?_
  refine s_iconst (q := 10) (v := 1) hX dX7_takeDraft_9 rfl rfl ?_
  refine s_iald (k := 1) (q := 11) hX dX7_takeDraft_10 rfl (by assumption) rfl (by omega) (by omega) ?_
  refine s_iast (k := 0) (q := 12) hX dX7_takeDraft_11 rfl (by assumption) rfl (by omega) (by omega) ?_
  refine s_aload_n (q := 13) hX dX7_takeDraft_12 rfl rfl ?_
  refine s_getr (q := 16) hX dX7_takeDraft_13 rfl gfl_7_23 (by assumption) rfl ?_
  refine s_iconst (q := 17) (v := 0) hX dX7_takeDraft_16 rfl rfl ?_
  refine s_aload_n (q := 18) hX dX7_takeDraft_17 rfl rfl ?_
  refine s_getr (q := 21) hX dX7_takeDraft_18 rfl gfl_7_23 (by assumption) rfl ?_
  refine s_iconst (q := 22) (v := 1) hX dX7_takeDraft_21 rfl rfl ?_
  refine s_iald (k := 1) (q := 23) hX dX7_takeDraft_22 rfl (by assumption) rfl (by omega) (by omega) ?_
  refine s_iast (k := 0) (q := 24) hX dX7_takeDraft_23 rfl (by assumption) rfl (by omega) (by omega) ?_
  refine s_aload_n (q := 25) hX dX7_takeDraft_24 rfl rfl ?_
  refine s_getr (q := 28) hX dX7_takeDraft_25 rfl gfl_7_35 (by assumption) rfl ?_
  refine s_iconst (q := 29) (v := 0) hX dX7_takeDraft_28 rfl rfl ?_
  refine s_aload_n (q := 30) hX dX7_takeDraft_29 rfl rfl ?_
  refine s_getr (q := 33) hX dX7_takeDraft_30 rfl gfl_7_35 (by assumption) rfl ?_
  refine s_iconst (q := 34) (v := 1) hX dX7_takeDraft_33 rfl rfl ?_
  refine s_iald (k := 1) (q := 35) hX dX7_takeDraft_34 rfl (by assumption) rfl (by omega) (by omega) ?_
  refine s_iast (k := 0) (q := 36) hX dX7_takeDraft_35 rfl (by assumption) rfl (by omega) (by omega) ?_
  refine s_iconst (q := 37) (v := 0) hX dX7_takeDraft_36 rfl rfl ?_
  refine s_istore_n (q := 38) (lv' := [(0, _), (1, _)]) hX dX7_takeDraft_37 rfl (Nat.le_of_ble_eq_true rfl) rfl ?_
  refine L1 6 0 _ (by omega) ⟨⟨?_, ?_, ?_⟩, ⟨HC.z ?_, HC.z ?_, HC.z ?_, HC.z ?_, HC.z ?_⟩, ?_, fun q hq => ?_⟩
  · rw [gsr_n _ _ (by decide), gsr_n _ _ (by decide), gsr_s, pk_us]
  · rw [gsr_n _ _ (by decide), gsr_s, pk_us, gsr_n _ _ (by decide)]
  · rw [gsr_s, pk_us, gsr_n _ _ (by decide), gsr_n _ _ (by decide)]
  · rw [gsr_n _ _ (by decide), gsr_n _ _ (by decide), gsr_n _ _ (by decide)]
  · rw [gsr_n _ _ (by decide), gsr_n _ _ (by decide), gsr_n _ _ (by decide)]
  · rw [gsr_n _ _ (by decide), gsr_n _ _ (by decide), gsr_n _ _ (by decide)]
  · rw [gsr_n _ _ (by decide), gsr_n _ _ (by decide), gsr_n _ _ (by decide)]
  · rw [gsr_n _ _ (by decide), gsr_n _ _ (by decide), gsr_n _ _ (by decide)]
  · rw [gsr_n _ _ (by decide), gsr_n _ _ (by decide), gsr_n _ _ (by decide)]
  · rw [gsr_n _ _ (by omega), gsr_n _ _ (by omega), gsr_n _ _ (by omega)]
theorem gnIm4 {k : Nat} (h : k < 1000) : ¬ nI k = -4 := by
  intro z
  have h1 := congrArg Int32.toInt z
  rw [nI_toInt (by omega)] at h1
  have h2 : (-4 : Int32).toInt = -4 := by decide
  rw [h2] at h1
  omega
set_option maxHeartbeats 4000000 in
set_option maxRecDepth 100000 in
theorem p_lay {d b : Nat}  {S : gA} {sh : List gS} {M : gM} {Q : Option Value → List gS → gM → Prop} (hd : 4 ≤ d) (hC : isMod sh) (hS : MOD M S) (hk : S.ok b) (hb : b ≤ 20000) (hcon : kM sh M (S.lay) Q) : gC mX7_lay d 0 0 [.ref 83] sh M Q := by
  have hC0 := hC
  obtain ⟨y0, y1, y2, y3, y4, y5, y6, y7, y8, y9, y10, y11, y12, y13, y14, y15⟩ := hC
  have hS0 := hS
  have hk0 := hk
  obtain ⟨⟨a1, a1x⟩, a2, a3, ⟨a4, a4x⟩, ⟨a5, a5x⟩, a6⟩ := hS
  obtain ⟨g1, g2, g3, g4, g5, g6, g7⟩ := hk
  have g0 := g1
  obtain ⟨o1, o2, o3, o4, o5, o6, o7, o8⟩ := g0
  have hFR : ∀ {M1 : gM}, FRX M M1 → MOD M1 S := fun hF => hS0.fx g1 hF
  refine gC_of (rt := 1) (ini := false) gm_X7_lay rfl (by decide) (Nat.le_of_ble_eq_true rfl) (fun X hX => ?_)
  refine s_aload_n (q := 1) hX dX7_lay_0 rfl rfl ?_
  refine s_invv0_1 (q := 4) hX dX7_lay_1 rfl glk_7_101 (by assumption) (Nat.le_of_ble_eq_true rfl) ⟨Nat.le_refl _, Nat.le_refl _⟩ (by omega) (m_fault (d := 3) (Nat.le_refl _) hC0 hS0.1 g7 (fun q e hq9 M1 hF => ?_) (fun T e hdr M1 hF hX1 => ?_)) 
  · refine ⟨_, rfl, ?_⟩
    refine s_bipush (q := 6) (v := (-4)) hX dX7_lay_4 rfl rfl (by decide) ?_
    refine s_icmp_ne_t (q := 9) (r := 18) hX dX7_lay_6 rfl rfl (gnIm4 (by omega)) ?_
    refine s_bipush (q := 20) (v := (-2)) hX dX7_lay_18 rfl rfl (by decide) ?_
    refine s_iret hX dX7_lay_20 (Or.inl rfl) ⟨Nat.le_refl _, Nat.le_refl _, Nat.le_refl _, ?_⟩
    exact hcon.ret (by unfold gA.lay; rw [e]) (hFR hF) (fun c hc => hF.row (by omega))
  · refine ⟨_, rfl, ?_⟩
    refine s_bipush (q := 6) (v := (-4)) hX dX7_lay_4 rfl rfl (by decide) ?_
    refine s_icmp_ne_f (q := 9) (r := 18) hX dX7_lay_6 rfl rfl (by decide) ?_
    have hP6 := hdr.1.1
    refine s_aload_n (q := 10) hX dX7_lay_9 rfl rfl ?_
    refine s_getr (q := 13) hX dX7_lay_10 rfl gfl_7_13 (by assumption) rfl ?_
    refine s_iconst (q := 14) (v := 1) hX dX7_lay_13 rfl rfl ?_
    refine s_iald (k := 1) (q := 15) hX dX7_lay_14 rfl (by assumption) rfl (by omega) (by omega) ?_
    refine s_topi (v := nI (T.P)) hX1.1 ?_
    refine s_nif_ne (a := T.P) (b := 0) (q := 18) (r := 21) hX dX7_lay_15 rfl rfl rfl rfl (by omega) (by omega) (fun c15 => ?_) (fun c15 => ?_)
    · refine s_aload_n (q := 22) hX dX7_lay_21 rfl rfl ?_
      refine s_invv0_0 (q := 25) hX dX7_lay_22 rfl glk_7_63 (by assumption) (Nat.le_of_ble_eq_true rfl) ⟨Nat.le_refl _, Nat.le_refl _⟩ (by omega) (m_takeDraft (d := 0) hC0 hX1 hdr.1 (fun M2 w2 s2 z2 k2 f2 => ?_)) 
      refine ⟨rfl, ?_⟩
      refine s_aload_n (q := 26) hX dX7_lay_25 rfl rfl ?_
      refine s_getr (q := 29) hX dX7_lay_26 rfl gfl_7_13 (by assumption) rfl ?_
      refine s_iconst (q := 30) (v := 0) hX dX7_lay_29 rfl rfl ?_
      refine s_iald (k := 0) (q := 31) hX dX7_lay_30 rfl (by assumption) rfl (by omega) (by omega) ?_
      refine s_topi (v := nI (T.P)) w2.1 ?_
      refine s_iret hX dX7_lay_31 (Or.inl rfl) ⟨Nat.le_refl _, Nat.le_refl _, Nat.le_refl _, ?_⟩
      have m1 := hFR hF
      refine hcon.ret (S' := (T, T.U0, (0, S.un.2), (0, S.kp.2), (0, S.N.2), S.tx)) (by unfold gA.lay; rw [e]; dsimp only; rw [if_neg (by omega)]) ⟨⟨?_, fun j hj => ?_⟩, w2, s2, ⟨z2.1, fun k hk => absurd hk (Nat.not_lt_zero k)⟩, ⟨z2.2.1, fun k hk => absurd hk (Nat.not_lt_zero k)⟩, ⟨z2.2.2, fun j hj => absurd hj (Nat.not_lt_zero j)⟩⟩ (fun c hc => ?_)
      · rw [k2 1 (by decide) (by decide) (by decide)]; exact m1.1.1
      · rw [f2 84 (by omega)]; exact m1.1.2 j hj
      · rw [f2 c (by omega)]; exact hF.row (by omega)
    · refine s_bipush (q := 20) (v := (-2)) hX dX7_lay_18 rfl rfl (by decide) ?_
      refine s_iret hX dX7_lay_20 (Or.inl rfl) ⟨Nat.le_refl _, Nat.le_refl _, Nat.le_refl _, ?_⟩
      exact hcon.ret (by unfold gA.lay; rw [e]; dsimp only; rw [if_pos (by omega)]) (hFR hF) (fun c hc => hF.row (by omega))
