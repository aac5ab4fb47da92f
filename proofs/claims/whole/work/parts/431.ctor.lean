/-! CONSTRUCTORS of the parts -/
set_option maxHeartbeats 4000000 in
set_option maxRecDepth 100000 in
theorem n_paper {d L b : Nat} {sh : List gS} {M : gM} {Q : Option Value → List gS → gM → Prop} (hd : 1 ≤ d) (hL : sh.length = L) (hL9 : L < 800000) (hG : gOK sh) (hb : b < L) (h0 : sh[b]? = some (.inl (1, gdef 1))) (hcon : ∀ sh' M', CS sh M b 1 L [some (.ref (L)), some (.ref (L + 1)), none, none] [(0, 200), (0, 4)] sh' M' → Q none sh' M') : gC mX1_init d 2 204 [.ref b] sh M Q := by
  have hS0 : CS sh M b 1 L [some .null, some .null, none, none] [] sh M := CS.i hL hG h0
  refine gC_of (rt := 0) (ini := true) gm_X1_init rfl (by decide) (Nat.le_of_ble_eq_true rfl) (fun X hX => ?_)
  refine s_aload_n (q := 1) hX dX1_init_0 rfl rfl ?_
  refine s_oinit (q := 4) hX dX1_init_1 rfl glk_1_3 (Nat.le_of_ble_eq_true rfl) (by omega) ?_
  refine s_aload_n (q := 5) hX dX1_init_4 rfl rfl ?_
  refine s_sipush (q := 8) (v := 200) hX dX1_init_5 rfl rfl (by decide) ?_
  refine s_mkI (q := 13) (n := 200) (L := L) (szs := []) (fs' := [some (.ref (L)), some .null, none, none]) hX dX1_init_8 dX1_init_10 rfl rfl (by decide) gfl_1_11 (Or.inr ⟨rfl, rfl, rfl⟩) hS0 hb (by show L + 0 < 900000; omega) rfl rfl (by omega) (by omega) (fun s1 m1 hS1 => ?_)
  refine s_aload_n (q := 14) hX dX1_init_13 rfl rfl ?_
  refine s_iconst (q := 15) (v := 4) hX dX1_init_14 rfl rfl ?_
  refine s_mkI (q := 20) (n := 4) (L := L) (szs := [(0, 200)]) (fs' := [some (.ref (L)), some (.ref (L + 1)), none, none]) hX dX1_init_15 dX1_init_17 rfl rfl (by decide) gfl_1_15 (Or.inr ⟨rfl, rfl, rfl⟩) hS1 hb (by show L + 1 < 900000; omega) rfl rfl (by omega) (by omega) (fun s2 m2 hS2 => ?_)
  refine s_ret hX dX1_init_20 rfl ⟨by omega, by omega, ?_, hcon s2 m2 hS2⟩
  rw [hS2.1.1, hL]
  exact Nat.le_add_right _ _
set_option maxHeartbeats 4000000 in
set_option maxRecDepth 100000 in
theorem n_street {d L b : Nat} {sh : List gS} {M : gM} {Q : Option Value → List gS → gM → Prop} (hd : 1 ≤ d) (hL : sh.length = L) (hL9 : L < 800000) (hG : gOK sh) (hb : b < L) (h0 : sh[b]? = some (.inl (3, gdef 3))) (hcon : ∀ sh' M', CS sh M b 3 L [some (.ref (L)), some (.ref (L + 1)), some (.ref (L + 2)), none] [(0, 18), (0, 6), (0, 6)] sh' M' → Q none sh' M') : gC mX3_init d 3 30 [.ref b] sh M Q := by
  have hS0 : CS sh M b 3 L [some .null, some .null, some .null, none] [] sh M := CS.i hL hG h0
  refine gC_of (rt := 0) (ini := true) gm_X3_init rfl (by decide) (Nat.le_of_ble_eq_true rfl) (fun X hX => ?_)
  refine s_aload_n (q := 1) hX dX3_init_0 rfl rfl ?_
  refine s_oinit (q := 4) hX dX3_init_1 rfl glk_3_3 (Nat.le_of_ble_eq_true rfl) (by omega) ?_
  refine s_aload_n (q := 5) hX dX3_init_4 rfl rfl ?_
  refine s_bipush (q := 7) (v := 18) hX dX3_init_5 rfl rfl (by decide) ?_
  refine s_mkI (q := 12) (n := 18) (L := L) (szs := []) (fs' := [some (.ref (L)), some .null, some .null, none]) hX dX3_init_7 dX3_init_9 rfl rfl (by decide) gfl_3_9 (Or.inr ⟨rfl, rfl, rfl⟩) hS0 hb (by show L + 0 < 900000; omega) rfl rfl (by omega) (by omega) (fun s1 m1 hS1 => ?_)
  refine s_aload_n (q := 13) hX dX3_init_12 rfl rfl ?_
  refine s_bipush (q := 15) (v := 6) hX dX3_init_13 rfl rfl (by decide) ?_
  refine s_mkI (q := 20) (n := 6) (L := L) (szs := [(0, 18)]) (fs' := [some (.ref (L)), some (.ref (L + 1)), some .null, none]) hX dX3_init_15 dX3_init_17 rfl rfl (by decide) gfl_3_15 (Or.inr ⟨rfl, rfl, rfl⟩) hS1 hb (by show L + 1 < 900000; omega) rfl rfl (by omega) (by omega) (fun s2 m2 hS2 => ?_)
  refine s_aload_n (q := 21) hX dX3_init_20 rfl rfl ?_
  refine s_bipush (q := 23) (v := 6) hX dX3_init_21 rfl rfl (by decide) ?_
  refine s_mkI (q := 28) (n := 6) (L := L) (szs := [(0, 18), (0, 6)]) (fs' := [some (.ref (L)), some (.ref (L + 1)), some (.ref (L + 2)), none]) hX dX3_init_23 dX3_init_25 rfl rfl (by decide) gfl_3_18 (Or.inr ⟨rfl, rfl, rfl⟩) hS2 hb (by show L + 2 < 900000; omega) rfl rfl (by omega) (by omega) (fun s3 m3 hS3 => ?_)
  refine s_ret hX dX3_init_28 rfl ⟨by omega, by omega, ?_, hcon s3 m3 hS3⟩
  rw [hS3.1.1, hL]
  exact Nat.le_add_right _ _
set_option maxHeartbeats 4000000 in
set_option maxRecDepth 100000 in
theorem n_town {d L b : Nat} {sh : List gS} {M : gM} {Q : Option Value → List gS → gM → Prop} (hd : 1 ≤ d) (hL : sh.length = L) (hL9 : L < 800000) (hG : gOK sh) (hb : b < L) (h0 : sh[b]? = some (.inl (4, gdef 4))) (hcon : ∀ sh' M', CS sh M b 4 L [some (.ref (L)), some (.ref (L + 1)), some (.ref (L + 2)), some (.ref (L + 3)), some (.ref (L + 4)), some (.ref (L + 5)), none, none, none] [(0, 6), (0, 18), (0, 18), (0, 6), (0, 42), (0, 3)] sh' M' → Q none sh' M') : gC mX4_init d 6 93 [.ref b] sh M Q := by
  have hS0 : CS sh M b 4 L [some .null, some .null, some .null, some .null, some .null, some .null, none, none, none] [] sh M := CS.i hL hG h0
  refine gC_of (rt := 0) (ini := true) gm_X4_init rfl (by decide) (Nat.le_of_ble_eq_true rfl) (fun X hX => ?_)
  refine s_aload_n (q := 1) hX dX4_init_0 rfl rfl ?_
  refine s_oinit (q := 4) hX dX4_init_1 rfl glk_4_3 (Nat.le_of_ble_eq_true rfl) (by omega) ?_
  refine s_aload_n (q := 5) hX dX4_init_4 rfl rfl ?_
  refine s_bipush (q := 7) (v := 6) hX dX4_init_5 rfl rfl (by decide) ?_
  refine s_mkI (q := 12) (n := 6) (L := L) (szs := []) (fs' := [some (.ref (L)), some .null, some .null, some .null, some .null, some .null, none, none, none]) hX dX4_init_7 dX4_init_9 rfl rfl (by decide) gfl_4_9 (Or.inr ⟨rfl, rfl, rfl⟩) hS0 hb (by show L + 0 < 900000; omega) rfl rfl (by omega) (by omega) (fun s1 m1 hS1 => ?_)
  refine s_aload_n (q := 13) hX dX4_init_12 rfl rfl ?_
  refine s_bipush (q := 15) (v := 18) hX dX4_init_13 rfl rfl (by decide) ?_
  refine s_mkI (q := 20) (n := 18) (L := L) (szs := [(0, 6)]) (fs' := [some (.ref (L)), some (.ref (L + 1)), some .null, some .null, some .null, some .null, none, none, none]) hX dX4_init_15 dX4_init_17 rfl rfl (by decide) gfl_4_15 (Or.inr ⟨rfl, rfl, rfl⟩) hS1 hb (by show L + 1 < 900000; omega) rfl rfl (by omega) (by omega) (fun s2 m2 hS2 => ?_)
  refine s_aload_n (q := 21) hX dX4_init_20 rfl rfl ?_
  refine s_bipush (q := 23) (v := 18) hX dX4_init_21 rfl rfl (by decide) ?_
  refine s_mkI (q := 28) (n := 18) (L := L) (szs := [(0, 6), (0, 18)]) (fs' := [some (.ref (L)), some (.ref (L + 1)), some (.ref (L + 2)), some .null, some .null, some .null, none, none, none]) hX dX4_init_23 dX4_init_25 rfl rfl (by decide) gfl_4_18 (Or.inr ⟨rfl, rfl, rfl⟩) hS2 hb (by show L + 2 < 900000; omega) rfl rfl (by omega) (by omega) (fun s3 m3 hS3 => ?_)
  refine s_aload_n (q := 29) hX dX4_init_28 rfl rfl ?_
  refine s_bipush (q := 31) (v := 6) hX dX4_init_29 rfl rfl (by decide) ?_
  refine s_mkI (q := 36) (n := 6) (L := L) (szs := [(0, 6), (0, 18), (0, 18)]) (fs' := [some (.ref (L)), some (.ref (L + 1)), some (.ref (L + 2)), some (.ref (L + 3)), some .null, some .null, none, none, none]) hX dX4_init_31 dX4_init_33 rfl rfl (by decide) gfl_4_21 (Or.inr ⟨rfl, rfl, rfl⟩) hS3 hb (by show L + 3 < 900000; omega) rfl rfl (by omega) (by omega) (fun s4 m4 hS4 => ?_)
  refine s_aload_n (q := 37) hX dX4_init_36 rfl rfl ?_
  refine s_bipush (q := 39) (v := 42) hX dX4_init_37 rfl rfl (by decide) ?_
  refine s_mkI (q := 44) (n := 42) (L := L) (szs := [(0, 6), (0, 18), (0, 18), (0, 6)]) (fs' := [some (.ref (L)), some (.ref (L + 1)), some (.ref (L + 2)), some (.ref (L + 3)), some (.ref (L + 4)), some .null, none, none, none]) hX dX4_init_39 dX4_init_41 rfl rfl (by decide) gfl_4_24 (Or.inr ⟨rfl, rfl, rfl⟩) hS4 hb (by show L + 4 < 900000; omega) rfl rfl (by omega) (by omega) (fun s5 m5 hS5 => ?_)
  refine s_aload_n (q := 45) hX dX4_init_44 rfl rfl ?_
  refine s_iconst (q := 46) (v := 3) hX dX4_init_45 rfl rfl ?_
  refine s_mkI (q := 51) (n := 3) (L := L) (szs := [(0, 6), (0, 18), (0, 18), (0, 6), (0, 42)]) (fs' := [some (.ref (L)), some (.ref (L + 1)), some (.ref (L + 2)), some (.ref (L + 3)), some (.ref (L + 4)), some (.ref (L + 5)), none, none, none]) hX dX4_init_46 dX4_init_48 rfl rfl (by decide) gfl_4_27 (Or.inr ⟨rfl, rfl, rfl⟩) hS5 hb (by show L + 5 < 900000; omega) rfl rfl (by omega) (by omega) (fun s6 m6 hS6 => ?_)
  refine s_ret hX dX4_init_51 rfl ⟨by omega, by omega, ?_, hcon s6 m6 hS6⟩
  rw [hS6.1.1, hL]
  exact Nat.le_add_right _ _
set_option maxHeartbeats 4000000 in
set_option maxRecDepth 100000 in
theorem n_wit {d L b : Nat} {sh : List gS} {M : gM} {Q : Option Value → List gS → gM → Prop} (hd : 1 ≤ d) (hL : sh.length = L) (hL9 : L < 800000) (hG : gOK sh) (hb : b < L) (h0 : sh[b]? = some (.inl (5, gdef 5))) (hcon : ∀ sh' M', CS sh M b 5 L [some (.ref (L)), some (.ref (L + 1)), some (.ref (L + 2)), some (.ref (L + 3)), some (.ref (L + 4)), some (.ref (L + 5)), none, none] [(0, 7), (0, 7), (0, 7), (0, 15), (0, 4), (0, 4)] sh' M' → Q none sh' M') : gC mX5_init d 6 44 [.ref b] sh M Q := by
  have hS0 : CS sh M b 5 L [some .null, some .null, some .null, some .null, some .null, some .null, none, none] [] sh M := CS.i hL hG h0
  refine gC_of (rt := 0) (ini := true) gm_X5_init rfl (by decide) (Nat.le_of_ble_eq_true rfl) (fun X hX => ?_)
  refine s_aload_n (q := 1) hX dX5_init_0 rfl rfl ?_
  refine s_oinit (q := 4) hX dX5_init_1 rfl glk_5_3 (Nat.le_of_ble_eq_true rfl) (by omega) ?_
  refine s_aload_n (q := 5) hX dX5_init_4 rfl rfl ?_
  refine s_bipush (q := 7) (v := 7) hX dX5_init_5 rfl rfl (by decide) ?_
  refine s_mkI (q := 12) (n := 7) (L := L) (szs := []) (fs' := [some (.ref (L)), some .null, some .null, some .null, some .null, some .null, none, none]) hX dX5_init_7 dX5_init_9 rfl rfl (by decide) gfl_5_11 (Or.inr ⟨rfl, rfl, rfl⟩) hS0 hb (by show L + 0 < 900000; omega) rfl rfl (by omega) (by omega) (fun s1 m1 hS1 => ?_)
  refine s_aload_n (q := 13) hX dX5_init_12 rfl rfl ?_
  refine s_bipush (q := 15) (v := 7) hX dX5_init_13 rfl rfl (by decide) ?_
  refine s_mkI (q := 20) (n := 7) (L := L) (szs := [(0, 7)]) (fs' := [some (.ref (L)), some (.ref (L + 1)), some .null, some .null, some .null, some .null, none, none]) hX dX5_init_15 dX5_init_17 rfl rfl (by decide) gfl_5_15 (Or.inr ⟨rfl, rfl, rfl⟩) hS1 hb (by show L + 1 < 900000; omega) rfl rfl (by omega) (by omega) (fun s2 m2 hS2 => ?_)
  refine s_aload_n (q := 21) hX dX5_init_20 rfl rfl ?_
  refine s_bipush (q := 23) (v := 7) hX dX5_init_21 rfl rfl (by decide) ?_
  refine s_mkI (q := 28) (n := 7) (L := L) (szs := [(0, 7), (0, 7)]) (fs' := [some (.ref (L)), some (.ref (L + 1)), some (.ref (L + 2)), some .null, some .null, some .null, none, none]) hX dX5_init_23 dX5_init_25 rfl rfl (by decide) gfl_5_18 (Or.inr ⟨rfl, rfl, rfl⟩) hS2 hb (by show L + 2 < 900000; omega) rfl rfl (by omega) (by omega) (fun s3 m3 hS3 => ?_)
  refine s_aload_n (q := 29) hX dX5_init_28 rfl rfl ?_
  refine s_bipush (q := 31) (v := 15) hX dX5_init_29 rfl rfl (by decide) ?_
  refine s_mkI (q := 36) (n := 15) (L := L) (szs := [(0, 7), (0, 7), (0, 7)]) (fs' := [some (.ref (L)), some (.ref (L + 1)), some (.ref (L + 2)), some (.ref (L + 3)), some .null, some .null, none, none]) hX dX5_init_31 dX5_init_33 rfl rfl (by decide) gfl_5_21 (Or.inr ⟨rfl, rfl, rfl⟩) hS3 hb (by show L + 3 < 900000; omega) rfl rfl (by omega) (by omega) (fun s4 m4 hS4 => ?_)
  refine s_aload_n (q := 37) hX dX5_init_36 rfl rfl ?_
  refine s_iconst (q := 38) (v := 4) hX dX5_init_37 rfl rfl ?_
  refine s_mkI (q := 43) (n := 4) (L := L) (szs := [(0, 7), (0, 7), (0, 7), (0, 15)]) (fs' := [some (.ref (L)), some (.ref (L + 1)), some (.ref (L + 2)), some (.ref (L + 3)), some (.ref (L + 4)), some .null, none, none]) hX dX5_init_38 dX5_init_40 rfl rfl (by decide) gfl_5_24 (Or.inr ⟨rfl, rfl, rfl⟩) hS4 hb (by show L + 4 < 900000; omega) rfl rfl (by omega) (by omega) (fun s5 m5 hS5 => ?_)
  refine s_aload_n (q := 44) hX dX5_init_43 rfl rfl ?_
  refine s_iconst (q := 45) (v := 4) hX dX5_init_44 rfl rfl ?_
  refine s_mkI (q := 50) (n := 4) (L := L) (szs := [(0, 7), (0, 7), (0, 7), (0, 15), (0, 4)]) (fs' := [some (.ref (L)), some (.ref (L + 1)), some (.ref (L + 2)), some (.ref (L + 3)), some (.ref (L + 4)), some (.ref (L + 5)), none, none]) hX dX5_init_45 dX5_init_47 rfl rfl (by decide) gfl_5_27 (Or.inr ⟨rfl, rfl, rfl⟩) hS5 hb (by show L + 5 < 900000; omega) rfl rfl (by omega) (by omega) (fun s6 m6 hS6 => ?_)
  refine s_ret hX dX5_init_50 rfl ⟨by omega, by omega, ?_, hcon s6 m6 hS6⟩
  rw [hS6.1.1, hL]
  exact Nat.le_add_right _ _
set_option maxHeartbeats 4000000 in
set_option maxRecDepth 100000 in
theorem n_cho {d L b : Nat} {sh : List gS} {M : gM} {Q : Option Value → List gS → gM → Prop} (hd : 1 ≤ d) (hL : sh.length = L) (hL9 : L < 800000) (hG : gOK sh) (hb : b < L) (h0 : sh[b]? = some (.inl (0, gdef 0))) (hcon : ∀ sh' M', CS sh M b 0 L [some (.ref (L)), some (.ref (L + 1)), some (.ref (L + 2)), some (.ref (L + 3)), none, none] [(0, 111), (0, 6), (0, 6), (0, 7)] sh' M' → Q none sh' M') : gC mX0_init d 4 130 [.ref b] sh M Q := by
  have hS0 : CS sh M b 0 L [some .null, some .null, some .null, some .null, none, none] [] sh M := CS.i hL hG h0
  refine gC_of (rt := 0) (ini := true) gm_X0_init rfl (by decide) (Nat.le_of_ble_eq_true rfl) (fun X hX => ?_)
  refine s_aload_n (q := 1) hX dX0_init_0 rfl rfl ?_
  refine s_oinit (q := 4) hX dX0_init_1 rfl glk_0_5 (Nat.le_of_ble_eq_true rfl) (by omega) ?_
  refine s_aload_n (q := 5) hX dX0_init_4 rfl rfl ?_
  refine s_bipush (q := 7) (v := 111) hX dX0_init_5 rfl rfl (by decide) ?_
  refine s_mkI (q := 12) (n := 111) (L := L) (szs := []) (fs' := [some (.ref (L)), some .null, some .null, some .null, none, none]) hX dX0_init_7 dX0_init_9 rfl rfl (by decide) gfl_0_11 (Or.inr ⟨rfl, rfl, rfl⟩) hS0 hb (by show L + 0 < 900000; omega) rfl rfl (by omega) (by omega) (fun s1 m1 hS1 => ?_)
  refine s_aload_n (q := 13) hX dX0_init_12 rfl rfl ?_
  refine s_bipush (q := 15) (v := 6) hX dX0_init_13 rfl rfl (by decide) ?_
  refine s_mkI (q := 20) (n := 6) (L := L) (szs := [(0, 111)]) (fs' := [some (.ref (L)), some (.ref (L + 1)), some .null, some .null, none, none]) hX dX0_init_15 dX0_init_17 rfl rfl (by decide) gfl_0_15 (Or.inr ⟨rfl, rfl, rfl⟩) hS1 hb (by show L + 1 < 900000; omega) rfl rfl (by omega) (by omega) (fun s2 m2 hS2 => ?_)
  refine s_aload_n (q := 21) hX dX0_init_20 rfl rfl ?_
  refine s_bipush (q := 23) (v := 6) hX dX0_init_21 rfl rfl (by decide) ?_
  refine s_mkI (q := 28) (n := 6) (L := L) (szs := [(0, 111), (0, 6)]) (fs' := [some (.ref (L)), some (.ref (L + 1)), some (.ref (L + 2)), some .null, none, none]) hX dX0_init_23 dX0_init_25 rfl rfl (by decide) gfl_0_18 (Or.inr ⟨rfl, rfl, rfl⟩) hS2 hb (by show L + 2 < 900000; omega) rfl rfl (by omega) (by omega) (fun s3 m3 hS3 => ?_)
  refine s_aload_n (q := 29) hX dX0_init_28 rfl rfl ?_
  refine s_bipush (q := 31) (v := 7) hX dX0_init_29 rfl rfl (by decide) ?_
  refine s_mkI (q := 36) (n := 7) (L := L) (szs := [(0, 111), (0, 6), (0, 6)]) (fs' := [some (.ref (L)), some (.ref (L + 1)), some (.ref (L + 2)), some (.ref (L + 3)), none, none]) hX dX0_init_31 dX0_init_33 rfl rfl (by decide) gfl_0_21 (Or.inr ⟨rfl, rfl, rfl⟩) hS3 hb (by show L + 3 < 900000; omega) rfl rfl (by omega) (by omega) (fun s4 m4 hS4 => ?_)
  refine s_ret hX dX0_init_36 rfl ⟨by omega, by omega, ?_, hcon s4 m4 hS4⟩
  rw [hS4.1.1, hL]
  exact Nat.le_add_right _ _
theorem isStreet.sm {sh sh' : List gS} {s : Nat} (h : isStreet sh s) (hs : ∀ c, s ≤ c → c ≤ s + 3 → sh'[c]? = sh[c]?) : isStreet sh' s := by
  unfold isStreet
  rw [hs s (by omega) (by omega), hs (s + 1) (by omega) (by omega), hs (s + 2) (by omega) (by omega), hs (s + 3) (by omega) (by omega)]
  exact h
def gsl (L n i : Nat) : List (Option Nat) := (List.range n).map (fun k => if k < i then some (L + 1 + 4 * k) else none)
theorem gsl_len (L n i : Nat) : (gsl L n i).length = n := by simp [gsl]
theorem gsl_0 (L n : Nat) : gsl L n 0 = List.replicate n none := by
  refine List.ext_getElem? fun k => ?_
  unfold gsl
  rw [List.getElem?_map, List.getElem?_replicate]
  by_cases h : k < n
  · rw [List.getElem?_range h, if_pos h]; rfl
  · rw [if_neg h, List.getElem?_eq_none (by rw [List.length_range]; omega)]; rfl
theorem gsl_s {L n i : Nat} (hi : i < n) : (gsl L n i).set i (some (L + 1 + 4 * i)) = gsl L n (i + 1) := by
  refine List.ext_getElem? fun k => ?_
  by_cases e : i = k
  · subst e
    rw [List.getElem?_set_self (by rw [gsl_len]; exact hi)]
    unfold gsl
    rw [List.getElem?_map, List.getElem?_range hi]
    show _ = some (if i < i + 1 then some (L + 1 + 4 * i) else none)
    rw [if_pos (by omega)]
  · rw [List.getElem?_set_ne e]
    unfold gsl
    rw [List.getElem?_map, List.getElem?_map]
    by_cases h : k < n
    · rw [List.getElem?_range h]
      show some (if k < i then some (L + 1 + 4 * k) else none) = some (if k < i + 1 then some (L + 1 + 4 * k) else none)
      by_cases z : k < i
      · rw [if_pos z, if_pos (by omega)]
      · rw [if_neg z, if_neg (by omega)]
    · rw [List.getElem?_eq_none (by rw [List.length_range]; omega)]; rfl
theorem gsl_n {e n : Nat} : gsl (e + 1) n n = gslots e n := by
  unfold gsl gslots
  refine List.map_congr_left fun k hk => ?_
  rw [if_pos (List.mem_range.mp hk)]
set_option maxHeartbeats 4000000 in
set_option maxRecDepth 100000 in
theorem n_shelf {d b n : Nat} {sh : List gS} {M : gM} {Q : Option Value → List gS → gM → Prop} (hd : 3 ≤ d) (hn1 : 1 ≤ n) (hn8 : n ≤ 8) (hL : sh.length = b + 1) (hL9 : b < 700000) (hG : gOK sh) (h0 : sh[b]? = some (.inl (2, gdef 2))) (hcon : ∀ sh' M', sh'.length = b + 2 + 4 * n → gOK sh' → (∀ c, c < b → sh'[c]? = sh[c]?) → isShelf sh' b n → (∀ c, c < b + 1 → M' c = M c) → (∀ c, b + 1 ≤ c → c < b + 2 + 4 * n → M' c = fun _ => 0) → Q none sh' M') : gC mX2_init d (1 + 4 * n) (35 * n) [.ref b, .int (nI n)] sh M Q := by
  refine gC_of (rt := 0) (ini := true) gm_X2_init rfl (by decide) (Nat.le_of_ble_eq_true rfl) (fun X hX => ?_)
  have L : ∀ (m i : Nat) (sh1 : List gS) (M1 : gM), i + m = n → sh1.length = b + 2 + 4 * i → gOK sh1 → (∀ c, c < b → sh1[c]? = sh[c]?) → sh1[b]? = some (.inl (2, [some (.ref (b + 1)), none, none])) → sh1[b + 1]? = some (.inr (.inr (gsl (b + 1) n i))) → (∀ k, k < i → isStreet sh1 (b + 2 + 4 * k)) → (∀ c, c < b + 1 → M1 c = M c) → (∀ c, b + 1 ≤ c → c < b + 2 + 4 * i → M1 c = fun _ => 0) → X 18 [(0, .ref b), (1, .int (nI n)), (2, .int (nI i))] [] sh1 M1 (1 + 4 * i) (n + 34 * i) := by
    intro m
    induction m with
    | zero =>
      intro i sh1 M1 hi hl hg ho hb hq hs hm hz
      have e : i = n := by omega
      subst e
      refine s_iload_n (q := 19) hX dX2_init_18 rfl rfl ?_
      refine s_aload_n (q := 20) hX dX2_init_19 rfl rfl ?_
      refine s_getr (q := 23) hX dX2_init_20 rfl gfl_2_15 (by assumption) rfl ?_
      refine s_qlen (q := 24) hX dX2_init_23 rfl (by assumption) ?_
      refine s_icmp_ge_t (q := 27) (r := 46) hX dX2_init_24 rfl rfl (by rw [gsl_len]; exact Int32.le_refl _) ?_
      refine s_ret hX dX2_init_46 rfl ⟨by omega, by omega, by omega, ?_⟩
      rw [gsl_n] at hq
      exact hcon sh1 M1 hl hg ho ⟨hb, hq, hs⟩ hm hz
    | succ m ih =>
      intro i sh1 M1 hi hl hg ho hb hq hs hm hz
      refine s_iload_n (q := 19) hX dX2_init_18 rfl rfl ?_
      refine s_aload_n (q := 20) hX dX2_init_19 rfl rfl ?_
      refine s_getr (q := 23) hX dX2_init_20 rfl gfl_2_15 (by assumption) rfl ?_
      refine s_qlen (q := 24) hX dX2_init_23 rfl (by assumption) ?_
      refine s_icmp_ge_f (q := 27) (r := 46) hX dX2_init_24 rfl rfl (by rw [gsl_len]; exact nI_ge (by omega) (by omega)) ?_
      refine s_aload_n (q := 28) hX dX2_init_27 rfl rfl ?_
      refine s_getr (q := 31) hX dX2_init_28 rfl gfl_2_15 (by assumption) rfl ?_
      refine s_iload_n (q := 32) hX dX2_init_31 rfl rfl ?_
      refine s_newO (q := 35) (L := b + 2 + 4 * i) hX dX2_init_32 rfl gnw_2_13 hl (by omega) (by show n + 34 * i + 4 ≤ 35 * n; omega) hg (gokA_i hg (by rw [hl]; exact gal_c (gov (Or.inl (by omega))) (gal_c rfl (gal_c rfl rfl))) (by rw [hl]; exact gal_c rfl (gal_c (gov (Or.inl (by omega))) rfl)) (by omega)) (fun s2 m2 hl2 hg2 so2 sa2 mo2 mz2 => ?_)
      refine s_dup (q := 36) hX dX2_init_35 rfl rfl ?_
      refine s_invc0 (q := 39) (d' := 1) (mc := 3) (ms := 30) hX dX2_init_36 rfl glk_2_21 (by decide) (Nat.le_of_ble_eq_true rfl) (by omega) (by omega) (by show n + 34 * i + 4 + 30 ≤ 35 * n; omega) (by rw [hl2]; exact gal_c (gov (Or.inl (by omega))) (gal_c rfl (gal_c rfl (gal_c (gov (Or.inl (by omega))) (gal_c rfl (gal_c (gov (Or.inl (by omega))) rfl)))))) (n_street (L := b + 2 + 4 * i + 1) (Nat.le_refl _) hl2 (by omega) hg2 (by omega) sa2 (fun s3 m3 hS3 => ?_))
      refine ⟨rfl, ?_⟩
      obtain ⟨⟨hl3, hg3⟩, ⟨so3, f0, ff⟩, mo3, mz3⟩ := hS3
      have f1 := ff 0 _ rfl
      have f2 := ff 1 _ rfl
      have f3 := ff 2 _ rfl
      have hl3 : s3.length = b + 2 + 4 * i + 1 + 3 := hl3
      have mz3 : ∀ c, b + 2 + 4 * i + 1 ≤ c → c < b + 2 + 4 * i + 1 + 3 → m3 c = fun _ => 0 := mz3
      have eb : s3[b]? = some (.inl (2, [some (.ref (b + 1)), none, none])) := (so3 b (by omega) (by omega)).trans ((so2 b (by omega)).trans hb)
      have eq1 : s3[b + 1]? = some (.inr (.inr (gsl (b + 1) n i))) := (so3 _ (by omega) (by omega)).trans ((so2 _ (by omega)).trans hq)
      refine s_aastN (q := 40) (L := b + 2 + 4 * i + 1 + 3) hX dX2_init_39 rfl hl3 hg3 eq1 rfl (by rw [gsl_len]; omega) (by rw [gsl_len]; omega) f0 (fun s4 hl4 hg4 so4 sa4 => ?_)
      refine s_iinc (q := 43) (v := nI (i + 1)) (lv' := [(0, _), (1, _), (2, _)]) hX dX2_init_40 rfl rfl (nI_add (i) 1) (Nat.le_of_ble_eq_true rfl) rfl ?_
      refine s_goto (q := 18) hX dX2_init_43 rfl ?_
      have hst : isStreet s4 (b + 2 + 4 * i) := ⟨(so4 _ (by omega)).trans f0, (so4 _ (by omega)).trans f1, (so4 _ (by omega)).trans f2, (so4 _ (by omega)).trans f3⟩
      have hx := ih (i + 1) s4 m3 (by omega) (by omega) hg4 (fun c hc => (so4 c (by omega)).trans ((so3 c (by omega) (by omega)).trans ((so2 c (by omega)).trans (ho c hc)))) ((so4 b (by omega)).trans eb) (by rw [← gsl_s (by omega), show b + 1 + 1 + 4 * i = b + 2 + 4 * i by omega]; exact sa4) (fun k hk => ?_) (fun c hc => (mo3 c (by omega)).trans ((mo2 c (by omega)).trans (hm c hc))) (fun c h1 h2 => ?_)
      · rw [show 1 + 4 * (i + 1) = 1 + 4 * i + 1 + 3 by omega, show n + 34 * (i + 1) = n + 34 * i + (gdef 3).length + 30 by show _ = n + 34 * i + 4 + 30; omega] at hx
        exact hx
      · by_cases e : k = i
        · subst e; exact hst
        · exact (hs k (by omega)).sm (fun c h1 h2 => (so4 c (by omega)).trans ((so3 c (by omega) (by omega)).trans (so2 c (by omega))))
      · by_cases e1 : c < b + 2 + 4 * i
        · exact (mo3 c (by omega)).trans ((mo2 c (by omega)).trans (hz c h1 e1))
        · by_cases e2 : c = b + 2 + 4 * i
          · subst e2; exact (mo3 _ (by omega)).trans mz2
          · exact mz3 c (by omega) (by omega)
  refine s_aload_n (q := 1) hX dX2_init_0 rfl rfl ?_
  refine s_oinit (q := 4) hX dX2_init_1 rfl glk_2_1 (Nat.le_of_ble_eq_true rfl) (by omega) ?_
  refine s_aload_n (q := 5) hX dX2_init_4 rfl rfl ?_
  refine s_iconst (q := 6) (v := 1) hX dX2_init_5 rfl rfl ?_
  refine s_iload_n (q := 7) hX dX2_init_6 rfl rfl ?_
  refine s_invs2_1 (q := 10) hX dX2_init_7 rfl glk_2_7 (by decide) (Nat.le_of_ble_eq_true rfl) ⟨Nat.zero_le _, Nat.zero_le _⟩ (by omega) (c_max (d := 0) ?_)
  refine ⟨_, rfl, ?_⟩
  refine s_topi (v := nI n) (by
    by_cases e : n = 1
    · subst e; decide
    · exact if_neg (nI_ge (a := 1) (b := n) (by omega) (by omega))) ?_
  refine s_newA (q := 13) (n := n) (L := b + 1) hX dX2_init_10 rfl gnw_2_13 rfl (by omega) hL (by omega) (by omega) hG (gokA_i hG (by rw [hL]; exact gal_c (gov (Or.inl (by omega))) (gal_c rfl rfl)) (by rw [hL]; exact gal_c (gov (Or.inl (by omega))) rfl) (by omega)) (fun s1 m1 hl1 hg1 so1 sa1 mo1 mz1 => ?_)
  refine s_putN (q := 16) (L := b + 1 + 1) (fs' := [some (.ref (b + 1)), none, none]) hX dX2_init_13 rfl gfl_2_15 (Or.inr ⟨rfl, rfl, rfl⟩) hl1 hg1 ((so1 b (by omega)).trans h0) rfl rfl (by omega) (fun s2 hl2 hg2 so2 sa2 => ?_)
  refine s_iconst (q := 17) (v := 0) hX dX2_init_16 rfl rfl ?_
  refine s_istore_n (q := 18) (lv' := [(0, _), (1, _), (2, _)]) hX dX2_init_17 rfl (Nat.le_of_ble_eq_true rfl) rfl ?_
  have hx := L n 0 s2 m1 (by omega) (by omega) hg2 (fun c hc => (so2 c (by omega)).trans (so1 c (by omega))) sa2 (by rw [gsl_0]; exact (so2 _ (by omega)).trans sa1) (fun k hk => absurd hk (by omega)) (fun c hc => mo1 c (by omega)) (fun c h1 h2 => by rw [show c = b + 1 by omega]; exact mz1)
  rw [show 1 + 4 * 0 = 0 + 1 from rfl, show n + 34 * 0 = 0 + n by omega] at hx
  exact hx
