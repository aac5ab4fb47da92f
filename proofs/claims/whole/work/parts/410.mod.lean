set_option maxHeartbeats 4000000 in
set_option maxRecDepth 100000 in
theorem m_together {d b set s : Nat} {S : gA} {sh : List gS} {M : gM} {Q : Option Value → List gS → gM → Prop} (hC : isMod sh) (hS : MOD M S) (hk : S.ok b) (hb : b ≤ 20000) (hset : set < 64) (hs : s < 3) (hcon : Q (some (.int (nI (S.sm set s)))) sh M) : gC mX7_together d 0 0 [.ref 83, .int (nI set), .int (nI s)] sh M Q := by
  have hC0 := hC
  obtain ⟨y0, y1, y2, y3, y4, y5, y6, y7, y8, y9, y10, y11, y12, y13, y14, y15⟩ := hC
  have hS0 := hS
  have hk0 := hk
  obtain ⟨⟨a1, a1x⟩, a2, a3, ⟨a4, a4x⟩, ⟨a5, a5x⟩, a6⟩ := hS
  obtain ⟨g1, g2, g3, g4, g5, g6, g7⟩ := hk
  have g0 := g1
  obtain ⟨o1, o2, o3, o4, o5, o6, o7, o8⟩ := g0
  refine gC_of (rt := 1) (ini := false) gm_X7_together rfl (by decide) (Nat.le_of_ble_eq_true rfl) (fun X hX => ?_)
  have L : ∀ (m i : Nat), i + m = S.T.P → X 5 [(0, .ref 83), (1, .int (nI set)), (2, .int (nI s)), (3, .int (nI (sumN (fun i => set / 2 ^ i % 2 * S.U.h (3 * i + s)) i))), (4, .int (nI i))] [] sh M 0 0 := by
    intro m
    induction m with
    | zero =>
      intro i hi
      have hiP : i = S.T.P := by omega
      subst hiP
      refine s_iload (q := 7) hX dX7_together_5 rfl rfl ?_
      refine s_aload_n (q := 8) hX dX7_together_7 rfl rfl ?_
      refine s_getr (q := 11) hX dX7_together_8 rfl gfl_7_13 (by assumption) rfl ?_
      refine s_iconst (q := 12) (v := 0) hX dX7_together_11 rfl rfl ?_
      refine s_iald (k := 0) (q := 13) hX dX7_together_12 rfl (by assumption) rfl (by omega) (by omega) ?_
      refine s_topi (v := nI (S.T.P)) a2.1 ?_
      refine s_icmp_ge_t (q := 16) (r := 45) hX dX7_together_13 rfl rfl (Int32.le_refl _) ?_
      refine s_iload_n (q := 46) hX dX7_together_45 rfl rfl ?_
      refine s_iret hX dX7_together_46 (Or.inl rfl) ⟨Nat.le_refl _, Nat.le_refl _, Nat.le_refl _, ?_⟩
      exact hcon
    | succ m ih =>
      intro i hi
      have hh : M 93 (1 + 3 * i + s) = nI (S.U.h (3 * i + s)) := by rw [show 1 + 3 * i + s = 0 + 1 + (3 * i + s) by omega]; exact a3.2.1 (3 * i + s) (by omega)
      have hdv : set / 2 ^ i ≤ set := Nat.div_le_self _ _
      refine s_iload (q := 7) hX dX7_together_5 rfl rfl ?_
      refine s_aload_n (q := 8) hX dX7_together_7 rfl rfl ?_
      refine s_getr (q := 11) hX dX7_together_8 rfl gfl_7_13 (by assumption) rfl ?_
      refine s_iconst (q := 12) (v := 0) hX dX7_together_11 rfl rfl ?_
      refine s_iald (k := 0) (q := 13) hX dX7_together_12 rfl (by assumption) rfl (by omega) (by omega) ?_
      refine s_topi (v := nI (S.T.P)) a2.1 ?_
      refine s_icmp_ge_f (q := 16) (r := 45) hX dX7_together_13 rfl rfl (Int32.not_le.mpr (nI_lt (by omega) (by omega))) ?_
      refine s_iload_n (q := 17) hX dX7_together_16 rfl rfl ?_
      refine s_iload_n (q := 18) hX dX7_together_17 rfl rfl ?_
      refine s_iload (q := 20) hX dX7_together_18 rfl rfl ?_
      refine s_ishr (q := 21) (v := nI (set / 2 ^ i)) hX dX7_together_20 rfl (gshr (by omega) (by omega)) ?_
      refine s_iconst (q := 22) (v := 1) hX dX7_together_21 rfl rfl ?_
      refine s_iand (q := 23) (v := nI (set / 2 ^ i % 2)) hX dX7_together_22 rfl (gan1 (by omega)) ?_
      refine s_aload_n (q := 24) hX dX7_together_23 rfl rfl ?_
      refine s_getr (q := 27) hX dX7_together_24 rfl gfl_7_38 (by assumption) rfl ?_
      refine s_iconst (q := 28) (v := 1) hX dX7_together_27 rfl rfl ?_
      refine s_iconst (q := 29) (v := 3) hX dX7_together_28 rfl rfl ?_
      refine s_iload (q := 31) hX dX7_together_29 rfl rfl ?_
      refine s_imul (q := 32) (v := nI (3 * i)) hX dX7_together_31 rfl (pk_mul (3) (i)) ?_
      refine s_iadd (q := 33) (v := nI (1 + (3 * i))) hX dX7_together_32 rfl (nI_add (1) (3 * i)) ?_
      refine s_iload_n (q := 34) hX dX7_together_33 rfl rfl ?_
      refine s_iadd (q := 35) (v := nI (1 + (3 * i) + s)) hX dX7_together_34 rfl (nI_add (1 + (3 * i)) (s)) ?_
      refine s_iald (k := 1 + (3 * i) + s) (q := 36) hX dX7_together_35 rfl (by assumption) rfl (by omega) (by omega) ?_
      refine s_topi (v := nI (S.U.h (3 * i + s))) hh ?_
      refine s_imul (q := 37) (v := nI ((set / 2 ^ i % 2) * (S.U.h (3 * i + s)))) hX dX7_together_36 rfl (pk_mul (set / 2 ^ i % 2) (S.U.h (3 * i + s))) ?_
      refine s_iadd (q := 38) (v := nI (sumN (fun i => set / 2 ^ i % 2 * S.U.h (3 * i + s)) i + ((set / 2 ^ i % 2) * (S.U.h (3 * i + s))))) hX dX7_together_37 rfl (nI_add (sumN (fun i => set / 2 ^ i % 2 * S.U.h (3 * i + s)) i) ((set / 2 ^ i % 2) * (S.U.h (3 * i + s)))) ?_
      refine s_istore_n (q := 39) (lv' := [(0, _), (1, _), (2, _), (3, _), (4, _)]) hX dX7_together_38 rfl (Nat.le_of_ble_eq_true rfl) rfl ?_
      refine s_iinc (q := 42) (v := nI (i + 1)) (lv' := [(0, _), (1, _), (2, _), (3, _), (4, _)]) hX dX7_together_39 rfl rfl (nI_add (i) 1) (Nat.le_of_ble_eq_true rfl) rfl ?_
      refine s_goto (q := 5) hX dX7_together_42 rfl ?_
      exact ih (i + 1) (by omega)
  refine s_iconst (q := 1) (v := 0) hX dX7_together_0 rfl rfl ?_
  refine s_istore_n (q := 2) (lv' := [(0, _), (1, _), (2, _), (3, _)]) hX dX7_together_1 rfl (Nat.le_of_ble_eq_true rfl) rfl ?_
  refine s_iconst (q := 3) (v := 0) hX dX7_together_2 rfl rfl ?_
  refine s_istore (q := 5) (lv' := [(0, _), (1, _), (2, _), (3, _), (4, _)]) hX dX7_together_3 rfl (Nat.le_of_ble_eq_true rfl) rfl ?_
  exact L S.T.P 0 (by omega)
set_option maxHeartbeats 4000000 in
set_option maxRecDepth 100000 in
theorem m_manyOf {d n : Nat} {sh : List gS} {M : gM} {Q : Option Value → List gS → gM → Prop} (hn : n < 1000) (hcon : Q (some (.int (nI (popc n)))) sh M) : gC mX7_manyOf d 0 0 [.int (nI n)] sh M Q := by
  refine gC_of (rt := 1) (ini := false) gm_X7_manyOf rfl (by decide) (Nat.le_of_ble_eq_true rfl) (fun X hX => ?_)
  have L : ∀ (m i : Nat), i + m = 8 → X 4 [(0, .int (nI n)), (1, .int (nI (sumN (fun k => n / 2 ^ k % 2) i))), (2, .int (nI i))] [] sh M 0 0 := by
    intro m
    induction m with
    | zero =>
      intro i hi
      have hi8 : i = 8 := by omega
      subst hi8
      refine s_iload_n (q := 5) hX dX7_manyOf_4 rfl rfl ?_
      refine s_bipush (q := 7) (v := 8) hX dX7_manyOf_5 rfl rfl (by decide) ?_
      refine s_icmp_ge_t (q := 10) (r := 24) hX dX7_manyOf_7 rfl rfl (by decide) ?_
      refine s_iload_n (q := 25) hX dX7_manyOf_24 rfl rfl ?_
      refine s_iret hX dX7_manyOf_25 (Or.inl rfl) ⟨Nat.le_refl _, Nat.le_refl _, Nat.le_refl _, ?_⟩
      exact hcon
    | succ m ih =>
      intro i hi
      have hdv : n / 2 ^ i ≤ n := Nat.div_le_self _ _
      refine s_iload_n (q := 5) hX dX7_manyOf_4 rfl rfl ?_
      refine s_bipush (q := 7) (v := 8) hX dX7_manyOf_5 rfl rfl (by decide) ?_
      refine s_icmp_ge_f (q := 10) (r := 24) hX dX7_manyOf_7 rfl rfl (Int32.not_le.mpr (nI_lt (b := 8) (by omega) (by omega))) ?_
      refine s_iload_n (q := 11) hX dX7_manyOf_10 rfl rfl ?_
      refine s_iload_n (q := 12) hX dX7_manyOf_11 rfl rfl ?_
      refine s_iload_n (q := 13) hX dX7_manyOf_12 rfl rfl ?_
      refine s_ishr (q := 14) (v := nI (n / 2 ^ i)) hX dX7_manyOf_13 rfl (gshr (by omega) (by omega)) ?_
      refine s_iconst (q := 15) (v := 1) hX dX7_manyOf_14 rfl rfl ?_
      refine s_iand (q := 16) (v := nI (n / 2 ^ i % 2)) hX dX7_manyOf_15 rfl (gan1 (by omega)) ?_
      refine s_iadd (q := 17) (v := nI (sumN (fun k => n / 2 ^ k % 2) i + (n / 2 ^ i % 2))) hX dX7_manyOf_16 rfl (nI_add (sumN (fun k => n / 2 ^ k % 2) i) (n / 2 ^ i % 2)) ?_
      refine s_istore_n (q := 18) (lv' := [(0, _), (1, _), (2, _)]) hX dX7_manyOf_17 rfl (Nat.le_of_ble_eq_true rfl) rfl ?_
      refine s_iinc (q := 21) (v := nI (i + 1)) (lv' := [(0, _), (1, _), (2, _)]) hX dX7_manyOf_18 rfl rfl (nI_add (i) 1) (Nat.le_of_ble_eq_true rfl) rfl ?_
      refine s_goto (q := 4) hX dX7_manyOf_21 rfl ?_
      exact ih (i + 1) (by omega)
  refine s_iconst (q := 1) (v := 0) hX dX7_manyOf_0 rfl rfl ?_
  refine s_istore_n (q := 2) (lv' := [(0, _), (1, _)]) hX dX7_manyOf_1 rfl (Nat.le_of_ble_eq_true rfl) rfl ?_
  refine s_iconst (q := 3) (v := 0) hX dX7_manyOf_2 rfl rfl ?_
  refine s_istore_n (q := 4) (lv' := [(0, _), (1, _), (2, _)]) hX dX7_manyOf_3 rfl (Nat.le_of_ble_eq_true rfl) rfl ?_
  exact L 8 0 rfl
set_option maxHeartbeats 4000000 in
set_option maxRecDepth 100000 in
theorem p_heap {d b : Nat} {x y z : Int32} {S : gA} {sh : List gS} {M : gM} {Q : Option Value → List gS → gM → Prop} (hd : 2 ≤ d) (hC : isMod sh) (hS : MOD M S) (hk : S.ok b) (hb : b ≤ 20000) (hcon : kM sh M (S.heap x y z) Q) : gC mX7_heap d 0 0 [.ref 83, .int x, .int y, .int z] sh M Q := by
  have hC0 := hC
  obtain ⟨y0, y1, y2, y3, y4, y5, y6, y7, y8, y9, y10, y11, y12, y13, y14, y15⟩ := hC
  have hS0 := hS
  have hk0 := hk
  obtain ⟨⟨a1, a1x⟩, a2, a3, ⟨a4, a4x⟩, ⟨a5, a5x⟩, a6⟩ := hS
  obtain ⟨g1, g2, g3, g4, g5, g6, g7⟩ := hk
  have g0 := g1
  obtain ⟨o1, o2, o3, o4, o5, o6, o7, o8⟩ := g0
  refine gC_of (rt := 1) (ini := false) gm_X7_heap rfl (by decide) (Nat.le_of_ble_eq_true rfl) (fun X hX => ?_)
  refine s_iload_n (q := 1) hX dX7_heap_0 rfl rfl ?_
  refine s_iconst (q := 2) (v := 0) hX dX7_heap_1 rfl rfl ?_
  refine s_bipush (q := 4) (v := 99) hX dX7_heap_2 rfl rfl (by decide) ?_
  refine s_invs3_1 (q := 7) hX dX7_heap_4 rfl glk_7_66 (by decide) (Nat.le_of_ble_eq_true rfl) ⟨Nat.le_refl _, Nat.le_refl _⟩ (by omega) (m_rng (d := 0) (x := x) (lo := 0) (n := 100) rfl rfl (by decide) (by decide) (fun rx => ?_) (fun r rx lr hr er => ?_)) 
  · refine ⟨_, rfl, ?_⟩
    refine s_if_eq_t (q := 10) (r := 30) hX dX7_heap_7 rfl rfl (by decide) ?_
    refine s_iconst (q := 31) (v := (-1)) hX dX7_heap_30 rfl rfl ?_
    refine s_iret hX dX7_heap_31 (Or.inl rfl) ⟨Nat.le_refl _, Nat.le_refl _, Nat.le_refl _, ?_⟩
    exact hcon.ret (by first | (unfold gA.heap; rw [rx]; dsimp only; rw [ry]; dsimp only; rw [rw]) | (unfold gA.heap; rw [rx]; dsimp only; rw [ry]) | (unfold gA.heap; rw [rx])) hS0 (fun _ _ => rfl)
  · subst er
    refine ⟨_, rfl, ?_⟩
    refine s_if_eq_f (q := 10) (r := 30) hX dX7_heap_7 rfl rfl (by decide) ?_
    refine s_iload_n (q := 11) hX dX7_heap_10 rfl rfl ?_
    refine s_iconst (q := 12) (v := 0) hX dX7_heap_11 rfl rfl ?_
    refine s_bipush (q := 14) (v := 99) hX dX7_heap_12 rfl rfl (by decide) ?_
    refine s_invs3_1 (q := 17) hX dX7_heap_14 rfl glk_7_66 (by decide) (Nat.le_of_ble_eq_true rfl) ⟨Nat.le_refl _, Nat.le_refl _⟩ (by omega) (m_rng (d := 0) (x := y) (lo := 0) (n := 100) rfl rfl (by decide) (by decide) (fun ry => ?_) (fun q ry lq hq eq => ?_)) 
    · refine ⟨_, rfl, ?_⟩
      refine s_if_eq_t (q := 20) (r := 30) hX dX7_heap_17 rfl rfl (by decide) ?_
      refine s_iconst (q := 31) (v := (-1)) hX dX7_heap_30 rfl rfl ?_
      refine s_iret hX dX7_heap_31 (Or.inl rfl) ⟨Nat.le_refl _, Nat.le_refl _, Nat.le_refl _, ?_⟩
      exact hcon.ret (by first | (unfold gA.heap; rw [rx]; dsimp only; rw [ry]; dsimp only; rw [rw]) | (unfold gA.heap; rw [rx]; dsimp only; rw [ry]) | (unfold gA.heap; rw [rx])) hS0 (fun _ _ => rfl)
    · subst eq
      refine ⟨_, rfl, ?_⟩
      refine s_if_eq_f (q := 20) (r := 30) hX dX7_heap_17 rfl rfl (by decide) ?_
      refine s_iload_n (q := 21) hX dX7_heap_20 rfl rfl ?_
      refine s_iconst (q := 22) (v := 0) hX dX7_heap_21 rfl rfl ?_
      refine s_bipush (q := 24) (v := 99) hX dX7_heap_22 rfl rfl (by decide) ?_
      refine s_invs3_1 (q := 27) hX dX7_heap_24 rfl glk_7_66 (by decide) (Nat.le_of_ble_eq_true rfl) ⟨Nat.le_refl _, Nat.le_refl _⟩ (by omega) (m_rng (d := 0) (x := z) (lo := 0) (n := 100) rfl rfl (by decide) (by decide) (fun rw => ?_) (fun w rw lw hw ew => ?_)) 
      · refine ⟨_, rfl, ?_⟩
        refine s_if_ne_f (q := 30) (r := 32) hX dX7_heap_27 rfl rfl (by decide) ?_
        refine s_iconst (q := 31) (v := (-1)) hX dX7_heap_30 rfl rfl ?_
        refine s_iret hX dX7_heap_31 (Or.inl rfl) ⟨Nat.le_refl _, Nat.le_refl _, Nat.le_refl _, ?_⟩
        exact hcon.ret (by first | (unfold gA.heap; rw [rx]; dsimp only; rw [ry]; dsimp only; rw [rw]) | (unfold gA.heap; rw [rx]; dsimp only; rw [ry]) | (unfold gA.heap; rw [rx])) hS0 (fun _ _ => rfl)
      · subst ew
        refine ⟨_, rfl, ?_⟩
        refine s_if_ne_t (q := 30) (r := 32) hX dX7_heap_27 rfl rfl (by decide) ?_
        refine s_bipush (q := 34) (v := (-4)) hX dX7_heap_32 rfl rfl (by decide) ?_
        refine s_istore (q := 36) (lv' := [(0, _), (1, _), (2, _), (3, _), (4, _)]) hX dX7_heap_34 rfl (Nat.le_of_ble_eq_true rfl) rfl ?_
        refine s_iconst (q := 37) (v := 0) hX dX7_heap_36 rfl rfl ?_
        refine s_istore (q := 39) (lv' := [(0, _), (1, _), (2, _), (3, _), (4, _), (5, _)]) hX dX7_heap_37 rfl (Nat.le_of_ble_eq_true rfl) rfl ?_
        have hp6 : 2 ^ S.T.P ≤ 2 ^ 6 := Nat.pow_le_pow_right (by decide) o1
        have hp64 : (2 : Nat) ^ 6 = 64 := by decide
        have L : ∀ (m n : Nat), n + m = 2 ^ S.T.P → X 39 [(0, .ref 83), (1, .int (nI r)), (2, .int (nI q)), (3, .int (nI w)), (4, .int (lwI (S.hpf r q w n))), (5, .int (nI n))] [] sh M 0 0 := by
          intro m
          induction m with
          | zero =>
            intro n hn
            have hnP : n = 2 ^ S.T.P := by omega
            have e9 : S.heap (nI r) (nI q) (nI w) = (lwI (S.hpf r q w n), S) := by
              unfold gA.heap
              rw [rx]; dsimp only; rw [ry]; dsimp only; rw [rw]; dsimp only
              rw [← hnP]
              cases S.hpf r q w n with
              | none => rfl
              | some f => rfl
            refine s_iload (q := 41) hX dX7_heap_39 rfl rfl ?_
            refine s_iconst (q := 42) (v := 1) hX dX7_heap_41 rfl rfl ?_
            refine s_aload_n (q := 43) hX dX7_heap_42 rfl rfl ?_
            refine s_getr (q := 46) hX dX7_heap_43 rfl gfl_7_13 (by assumption) rfl ?_
            refine s_iconst (q := 47) (v := 0) hX dX7_heap_46 rfl rfl ?_
            refine s_iald (k := 0) (q := 48) hX dX7_heap_47 rfl (by assumption) rfl (by omega) (by omega) ?_
            refine s_topi (v := nI (S.T.P)) a2.1 ?_
            refine s_ishl (q := 49) (v := nI (2 ^ S.T.P)) hX dX7_heap_48 rfl (gshl (by omega)) ?_
            refine s_icmp_ge_t (q := 52) (r := 132) hX dX7_heap_49 rfl rfl ((nI_leI (by omega) (by omega)).mpr (by omega)) ?_
            refine s_iload (q := 134) hX dX7_heap_132 rfl rfl ?_
            refine s_iret hX dX7_heap_134 (Or.inl rfl) ⟨Nat.le_refl _, Nat.le_refl _, Nat.le_refl _, ?_⟩
            exact hcon.ret e9 hS0 (fun _ _ => rfl)
          | succ m ih =>
            intro n hn
            have hpn := popc_le n (by omega)
            have b0 := gA.sm_le (set := n) (s := 0) hk0 (by omega)
            have b1 := gA.sm_le (set := n) (s := 1) hk0 (by omega)
            have b2 := gA.sm_le (set := n) (s := 2) hk0 (by omega)
            have hE : S.hpf r q w (n + 1) = if (r ≤ S.sm n 0 ∧ q ≤ S.sm n 1 ∧ w ≤ S.sm n 2) ∧ popc n < fwN (S.hpf r q w n) then some n else S.hpf r q w n := rfl
            have ih2 := ih (n + 1) (by omega)
            rw [hE] at ih2
            cases hq : S.hpf r q w n with
            | none =>
              rw [hq] at ih2
              have hfw : fwN none = 7 := rfl
              refine s_iload (q := 41) hX dX7_heap_39 rfl rfl ?_
              refine s_iconst (q := 42) (v := 1) hX dX7_heap_41 rfl rfl ?_
              refine s_aload_n (q := 43) hX dX7_heap_42 rfl rfl ?_
              refine s_getr (q := 46) hX dX7_heap_43 rfl gfl_7_13 (by assumption) rfl ?_
              refine s_iconst (q := 47) (v := 0) hX dX7_heap_46 rfl rfl ?_
              refine s_iald (k := 0) (q := 48) hX dX7_heap_47 rfl (by assumption) rfl (by omega) (by omega) ?_
              refine s_topi (v := nI (S.T.P)) a2.1 ?_
              refine s_ishl (q := 49) (v := nI (2 ^ S.T.P)) hX dX7_heap_48 rfl (gshl (by omega)) ?_
              refine s_icmp_ge_f (q := 52) (r := 132) hX dX7_heap_49 rfl rfl (Int32.not_le.mpr (nI_lt (by omega) (by omega))) ?_
              refine s_aload_n (q := 53) hX dX7_heap_52 rfl rfl ?_
              refine s_iload (q := 55) hX dX7_heap_53 rfl rfl ?_
              refine s_iconst (q := 56) (v := 0) hX dX7_heap_55 rfl rfl ?_
              refine s_invv2_1 (q := 59) hX dX7_heap_56 rfl glk_7_160 (by assumption) (Nat.le_of_ble_eq_true rfl) ⟨Nat.le_refl _, Nat.le_refl _⟩ (by omega) (m_together (d := 0) (s := 0) hC0 hS0 hk0 hb (by omega) (by omega) ?_) 
              refine ⟨_, rfl, ?_⟩
              refine s_iload_n (q := 60) hX dX7_heap_59 rfl rfl ?_
              refine s_nicmp_lt (a := S.sm n 0) (b := r) (q := 63) (r := 89) hX dX7_heap_60 rfl rfl rfl rfl (by omega) (by omega) (fun c60 => ?_) (fun c60 => ?_)
              · refine s_iconst (q := 90) (v := 0) hX dX7_heap_89 rfl rfl ?_
                refine s_istore (q := 92) (lv' := [(0, _), (1, _), (2, _), (3, _), (4, _), (5, _), (6, _)]) hX dX7_heap_90 rfl (Nat.le_of_ble_eq_true rfl) rfl ?_
                refine s_iload (q := 94) hX dX7_heap_92 rfl rfl ?_
                refine s_if_eq_t (q := 97) (r := 122) hX dX7_heap_94 rfl rfl (by decide) ?_
                refine s_iload (q := 124) hX dX7_heap_122 rfl rfl ?_
                refine s_istore (q := 126) (lv' := [(0, _), (1, _), (2, _), (3, _), (4, _), (5, _), (6, _)]) hX dX7_heap_124 rfl (Nat.le_of_ble_eq_true rfl) rfl ?_
                refine s_iinc (q := 129) (v := nI (n + 1)) (lv' := [(0, _), (1, _), (2, _), (3, _), (4, _), (5, _), (6, _)]) hX dX7_heap_126 rfl rfl (nI_add (n) 1) (Nat.le_of_ble_eq_true rfl) rfl ?_
                refine s_goto (q := 39) hX dX7_heap_129 rfl ?_
                refine s_dl hX ?_
                rw [if_neg (by omega)] at ih2
                exact ih2
              · refine s_aload_n (q := 64) hX dX7_heap_63 rfl rfl ?_
                refine s_iload (q := 66) hX dX7_heap_64 rfl rfl ?_
                refine s_iconst (q := 67) (v := 1) hX dX7_heap_66 rfl rfl ?_
                refine s_invv2_1 (q := 70) hX dX7_heap_67 rfl glk_7_160 (by assumption) (Nat.le_of_ble_eq_true rfl) ⟨Nat.le_refl _, Nat.le_refl _⟩ (by omega) (m_together (d := 0) (s := 1) hC0 hS0 hk0 hb (by omega) (by omega) ?_) 
                refine ⟨_, rfl, ?_⟩
                refine s_iload_n (q := 71) hX dX7_heap_70 rfl rfl ?_
                refine s_nicmp_lt (a := S.sm n 1) (b := q) (q := 74) (r := 89) hX dX7_heap_71 rfl rfl rfl rfl (by omega) (by omega) (fun c71 => ?_) (fun c71 => ?_)
                · refine s_iconst (q := 90) (v := 0) hX dX7_heap_89 rfl rfl ?_
                  refine s_istore (q := 92) (lv' := [(0, _), (1, _), (2, _), (3, _), (4, _), (5, _), (6, _)]) hX dX7_heap_90 rfl (Nat.le_of_ble_eq_true rfl) rfl ?_
                  refine s_iload (q := 94) hX dX7_heap_92 rfl rfl ?_
                  refine s_if_eq_t (q := 97) (r := 122) hX dX7_heap_94 rfl rfl (by decide) ?_
                  refine s_iload (q := 124) hX dX7_heap_122 rfl rfl ?_
                  refine s_istore (q := 126) (lv' := [(0, _), (1, _), (2, _), (3, _), (4, _), (5, _), (6, _)]) hX dX7_heap_124 rfl (Nat.le_of_ble_eq_true rfl) rfl ?_
                  refine s_iinc (q := 129) (v := nI (n + 1)) (lv' := [(0, _), (1, _), (2, _), (3, _), (4, _), (5, _), (6, _)]) hX dX7_heap_126 rfl rfl (nI_add (n) 1) (Nat.le_of_ble_eq_true rfl) rfl ?_
                  refine s_goto (q := 39) hX dX7_heap_129 rfl ?_
                  refine s_dl hX ?_
                  rw [if_neg (by omega)] at ih2
                  exact ih2
                · refine s_aload_n (q := 75) hX dX7_heap_74 rfl rfl ?_
                  refine s_iload (q := 77) hX dX7_heap_75 rfl rfl ?_
                  refine s_iconst (q := 78) (v := 2) hX dX7_heap_77 rfl rfl ?_
                  refine s_invv2_1 (q := 81) hX dX7_heap_78 rfl glk_7_160 (by assumption) (Nat.le_of_ble_eq_true rfl) ⟨Nat.le_refl _, Nat.le_refl _⟩ (by omega) (m_together (d := 0) (s := 2) hC0 hS0 hk0 hb (by omega) (by omega) ?_) 
                  refine ⟨_, rfl, ?_⟩
                  refine s_iload_n (q := 82) hX dX7_heap_81 rfl rfl ?_
                  refine s_nicmp_lt (a := S.sm n 2) (b := w) (q := 85) (r := 89) hX dX7_heap_82 rfl rfl rfl rfl (by omega) (by omega) (fun c82 => ?_) (fun c82 => ?_)
                  · refine s_iconst (q := 90) (v := 0) hX dX7_heap_89 rfl rfl ?_
                    refine s_istore (q := 92) (lv' := [(0, _), (1, _), (2, _), (3, _), (4, _), (5, _), (6, _)]) hX dX7_heap_90 rfl (Nat.le_of_ble_eq_true rfl) rfl ?_
                    refine s_iload (q := 94) hX dX7_heap_92 rfl rfl ?_
                    refine s_if_eq_t (q := 97) (r := 122) hX dX7_heap_94 rfl rfl (by decide) ?_
                    refine s_iload (q := 124) hX dX7_heap_122 rfl rfl ?_
                    refine s_istore (q := 126) (lv' := [(0, _), (1, _), (2, _), (3, _), (4, _), (5, _), (6, _)]) hX dX7_heap_124 rfl (Nat.le_of_ble_eq_true rfl) rfl ?_
                    refine s_iinc (q := 129) (v := nI (n + 1)) (lv' := [(0, _), (1, _), (2, _), (3, _), (4, _), (5, _), (6, _)]) hX dX7_heap_126 rfl rfl (nI_add (n) 1) (Nat.le_of_ble_eq_true rfl) rfl ?_
                    refine s_goto (q := 39) hX dX7_heap_129 rfl ?_
                    refine s_dl hX ?_
                    rw [if_neg (by omega)] at ih2
                    exact ih2
                  · refine s_iconst (q := 86) (v := 1) hX dX7_heap_85 rfl rfl ?_
                    refine s_goto (q := 90) hX dX7_heap_86 rfl ?_
                    refine s_istore (q := 92) (lv' := [(0, _), (1, _), (2, _), (3, _), (4, _), (5, _), (6, _)]) hX dX7_heap_90 rfl (Nat.le_of_ble_eq_true rfl) rfl ?_
                    refine s_iload (q := 94) hX dX7_heap_92 rfl rfl ?_
                    refine s_if_eq_f (q := 97) (r := 122) hX dX7_heap_94 rfl rfl (by decide) ?_
                    refine s_iload (q := 99) hX dX7_heap_97 rfl rfl ?_
                    refine s_bipush (q := 101) (v := (-4)) hX dX7_heap_99 rfl rfl (by decide) ?_
                    refine s_icmp_eq_t (q := 104) (r := 117) hX dX7_heap_101 rfl rfl (by decide) ?_
                    refine s_iload (q := 119) hX dX7_heap_117 rfl rfl ?_
                    refine s_goto (q := 124) hX dX7_heap_119 rfl ?_
                    refine s_istore (q := 126) (lv' := [(0, _), (1, _), (2, _), (3, _), (4, _), (5, _), (6, _)]) hX dX7_heap_124 rfl (Nat.le_of_ble_eq_true rfl) rfl ?_
                    refine s_iinc (q := 129) (v := nI (n + 1)) (lv' := [(0, _), (1, _), (2, _), (3, _), (4, _), (5, _), (6, _)]) hX dX7_heap_126 rfl rfl (nI_add (n) 1) (Nat.le_of_ble_eq_true rfl) rfl ?_
                    refine s_goto (q := 39) hX dX7_heap_129 rfl ?_
                    refine s_dl hX ?_
                    rw [if_pos (by omega)] at ih2
                    exact ih2
            | some f =>
              have hf := gA.hpf_lt n f hq
              have hpf := popc_le f (by omega)
              rw [hq] at ih2
              have hfw : fwN (some f) = popc f := rfl
              rw [hfw] at ih2
              refine s_iload (q := 41) hX dX7_heap_39 rfl rfl ?_
              refine s_iconst (q := 42) (v := 1) hX dX7_heap_41 rfl rfl ?_
              refine s_aload_n (q := 43) hX dX7_heap_42 rfl rfl ?_
              refine s_getr (q := 46) hX dX7_heap_43 rfl gfl_7_13 (by assumption) rfl ?_
              refine s_iconst (q := 47) (v := 0) hX dX7_heap_46 rfl rfl ?_
              refine s_iald (k := 0) (q := 48) hX dX7_heap_47 rfl (by assumption) rfl (by omega) (by omega) ?_
              refine s_topi (v := nI (S.T.P)) a2.1 ?_
              refine s_ishl (q := 49) (v := nI (2 ^ S.T.P)) hX dX7_heap_48 rfl (gshl (by omega)) ?_
              refine s_icmp_ge_f (q := 52) (r := 132) hX dX7_heap_49 rfl rfl (Int32.not_le.mpr (nI_lt (by omega) (by omega))) ?_
              refine s_aload_n (q := 53) hX dX7_heap_52 rfl rfl ?_
              refine s_iload (q := 55) hX dX7_heap_53 rfl rfl ?_
              refine s_iconst (q := 56) (v := 0) hX dX7_heap_55 rfl rfl ?_
              refine s_invv2_1 (q := 59) hX dX7_heap_56 rfl glk_7_160 (by assumption) (Nat.le_of_ble_eq_true rfl) ⟨Nat.le_refl _, Nat.le_refl _⟩ (by omega) (m_together (d := 0) (s := 0) hC0 hS0 hk0 hb (by omega) (by omega) ?_) 
              refine ⟨_, rfl, ?_⟩
              refine s_iload_n (q := 60) hX dX7_heap_59 rfl rfl ?_
              refine s_nicmp_lt (a := S.sm n 0) (b := r) (q := 63) (r := 89) hX dX7_heap_60 rfl rfl rfl rfl (by omega) (by omega) (fun c60 => ?_) (fun c60 => ?_)
              · refine s_iconst (q := 90) (v := 0) hX dX7_heap_89 rfl rfl ?_
                refine s_istore (q := 92) (lv' := [(0, _), (1, _), (2, _), (3, _), (4, _), (5, _), (6, _)]) hX dX7_heap_90 rfl (Nat.le_of_ble_eq_true rfl) rfl ?_
                refine s_iload (q := 94) hX dX7_heap_92 rfl rfl ?_
                refine s_if_eq_t (q := 97) (r := 122) hX dX7_heap_94 rfl rfl (by decide) ?_
                refine s_iload (q := 124) hX dX7_heap_122 rfl rfl ?_
                refine s_istore (q := 126) (lv' := [(0, _), (1, _), (2, _), (3, _), (4, _), (5, _), (6, _)]) hX dX7_heap_124 rfl (Nat.le_of_ble_eq_true rfl) rfl ?_
                refine s_iinc (q := 129) (v := nI (n + 1)) (lv' := [(0, _), (1, _), (2, _), (3, _), (4, _), (5, _), (6, _)]) hX dX7_heap_126 rfl rfl (nI_add (n) 1) (Nat.le_of_ble_eq_true rfl) rfl ?_
                refine s_goto (q := 39) hX dX7_heap_129 rfl ?_
                refine s_dl hX ?_
                rw [if_neg (by omega)] at ih2
                exact ih2
              · refine s_aload_n (q := 64) hX dX7_heap_63 rfl rfl ?_
                refine s_iload (q := 66) hX dX7_heap_64 rfl rfl ?_
                refine s_iconst (q := 67) (v := 1) hX dX7_heap_66 rfl rfl ?_
                refine s_invv2_1 (q := 70) hX dX7_heap_67 rfl glk_7_160 (by assumption) (Nat.le_of_ble_eq_true rfl) ⟨Nat.le_refl _, Nat.le_refl _⟩ (by omega) (m_together (d := 0) (s := 1) hC0 hS0 hk0 hb (by omega) (by omega) ?_) 
                refine ⟨_, rfl, ?_⟩
                refine s_iload_n (q := 71) hX dX7_heap_70 rfl rfl ?_
                refine s_nicmp_lt (a := S.sm n 1) (b := q) (q := 74) (r := 89) hX dX7_heap_71 rfl rfl rfl rfl (by omega) (by omega) (fun c71 => ?_) (fun c71 => ?_)
                · refine s_iconst (q := 90) (v := 0) hX dX7_heap_89 rfl rfl ?_
                  refine s_istore (q := 92) (lv' := [(0, _), (1, _), (2, _), (3, _), (4, _), (5, _), (6, _)]) hX dX7_heap_90 rfl (Nat.le_of_ble_eq_true rfl) rfl ?_
                  refine s_iload (q := 94) hX dX7_heap_92 rfl rfl ?_
                  refine s_if_eq_t (q := 97) (r := 122) hX dX7_heap_94 rfl rfl (by decide) ?_
                  refine s_iload (q := 124) hX dX7_heap_122 rfl rfl ?_
                  refine s_istore (q := 126) (lv' := [(0, _), (1, _), (2, _), (3, _), (4, _), (5, _), (6, _)]) hX dX7_heap_124 rfl (Nat.le_of_ble_eq_true rfl) rfl ?_
                  refine s_iinc (q := 129) (v := nI (n + 1)) (lv' := [(0, _), (1, _), (2, _), (3, _), (4, _), (5, _), (6, _)]) hX dX7_heap_126 rfl rfl (nI_add (n) 1) (Nat.le_of_ble_eq_true rfl) rfl ?_
                  refine s_goto (q := 39) hX dX7_heap_129 rfl ?_
                  refine s_dl hX ?_
                  rw [if_neg (by omega)] at ih2
                  exact ih2
                · refine s_aload_n (q := 75) hX dX7_heap_74 rfl rfl ?_
                  refine s_iload (q := 77) hX dX7_heap_75 rfl rfl ?_
                  refine s_iconst (q := 78) (v := 2) hX dX7_heap_77 rfl rfl ?_
                  refine s_invv2_1 (q := 81) hX dX7_heap_78 rfl glk_7_160 (by assumption) (Nat.le_of_ble_eq_true rfl) ⟨Nat.le_refl _, Nat.le_refl _⟩ (by omega) (m_together (d := 0) (s := 2) hC0 hS0 hk0 hb (by omega) (by omega) ?_) 
                  refine ⟨_, rfl, ?_⟩
                  refine s_iload_n (q := 82) hX dX7_heap_81 rfl rfl ?_
                  refine s_nicmp_lt (a := S.sm n 2) (b := w) (q := 85) (r := 89) hX dX7_heap_82 rfl rfl rfl rfl (by omega) (by omega) (fun c82 => ?_) (fun c82 => ?_)
                  · refine s_iconst (q := 90) (v := 0) hX dX7_heap_89 rfl rfl ?_
                    refine s_istore (q := 92) (lv' := [(0, _), (1, _), (2, _), (3, _), (4, _), (5, _), (6, _)]) hX dX7_heap_90 rfl (Nat.le_of_ble_eq_true rfl) rfl ?_
                    refine s_iload (q := 94) hX dX7_heap_92 rfl rfl ?_
                    refine s_if_eq_t (q := 97) (r := 122) hX dX7_heap_94 rfl rfl (by decide) ?_
                    refine s_iload (q := 124) hX dX7_heap_122 rfl rfl ?_
                    refine s_istore (q := 126) (lv' := [(0, _), (1, _), (2, _), (3, _), (4, _), (5, _), (6, _)]) hX dX7_heap_124 rfl (Nat.le_of_ble_eq_true rfl) rfl ?_
                    refine s_iinc (q := 129) (v := nI (n + 1)) (lv' := [(0, _), (1, _), (2, _), (3, _), (4, _), (5, _), (6, _)]) hX dX7_heap_126 rfl rfl (nI_add (n) 1) (Nat.le_of_ble_eq_true rfl) rfl ?_
                    refine s_goto (q := 39) hX dX7_heap_129 rfl ?_
                    refine s_dl hX ?_
                    rw [if_neg (by omega)] at ih2
                    exact ih2
                  · refine s_iconst (q := 86) (v := 1) hX dX7_heap_85 rfl rfl ?_
                    refine s_goto (q := 90) hX dX7_heap_86 rfl ?_
                    refine s_istore (q := 92) (lv' := [(0, _), (1, _), (2, _), (3, _), (4, _), (5, _), (6, _)]) hX dX7_heap_90 rfl (Nat.le_of_ble_eq_true rfl) rfl ?_
                    refine s_iload (q := 94) hX dX7_heap_92 rfl rfl ?_
                    refine s_if_eq_f (q := 97) (r := 122) hX dX7_heap_94 rfl rfl (by decide) ?_
                    refine s_iload (q := 99) hX dX7_heap_97 rfl rfl ?_
                    refine s_bipush (q := 101) (v := (-4)) hX dX7_heap_99 rfl rfl (by decide) ?_
                    refine s_icmp_eq_f (q := 104) (r := 117) hX dX7_heap_101 rfl rfl (gnI4 (by omega)) ?_
                    refine s_iload (q := 106) hX dX7_heap_104 rfl rfl ?_
                    refine s_invs1_1 (q := 109) hX dX7_heap_106 rfl glk_7_163 (by decide) (Nat.le_of_ble_eq_true rfl) ⟨Nat.le_refl _, Nat.le_refl _⟩ (by omega) (m_manyOf (d := 0) (by omega) ?_) 
                    refine ⟨_, rfl, ?_⟩
                    refine s_iload (q := 111) hX dX7_heap_109 rfl rfl ?_
                    refine s_invs1_1 (q := 114) hX dX7_heap_111 rfl glk_7_163 (by decide) (Nat.le_of_ble_eq_true rfl) ⟨Nat.le_refl _, Nat.le_refl _⟩ (by omega) (m_manyOf (d := 0) (n := f) (by omega) ?_) 
                    refine ⟨_, rfl, ?_⟩
                    refine s_nicmp_ge (a := popc n) (b := popc f) (q := 117) (r := 122) hX dX7_heap_114 rfl rfl rfl rfl (by omega) (by omega) (fun c114 => ?_) (fun c114 => ?_)
                    · refine s_iload (q := 124) hX dX7_heap_122 rfl rfl ?_
                      refine s_istore (q := 126) (lv' := [(0, _), (1, _), (2, _), (3, _), (4, _), (5, _), (6, _)]) hX dX7_heap_124 rfl (Nat.le_of_ble_eq_true rfl) rfl ?_
                      refine s_iinc (q := 129) (v := nI (n + 1)) (lv' := [(0, _), (1, _), (2, _), (3, _), (4, _), (5, _), (6, _)]) hX dX7_heap_126 rfl rfl (nI_add (n) 1) (Nat.le_of_ble_eq_true rfl) rfl ?_
                      refine s_goto (q := 39) hX dX7_heap_129 rfl ?_
                      refine s_dl hX ?_
                      rw [if_neg (by omega)] at ih2
                      exact ih2
                    · refine s_iload (q := 119) hX dX7_heap_117 rfl rfl ?_
                      refine s_goto (q := 124) hX dX7_heap_119 rfl ?_
                      refine s_istore (q := 126) (lv' := [(0, _), (1, _), (2, _), (3, _), (4, _), (5, _), (6, _)]) hX dX7_heap_124 rfl (Nat.le_of_ble_eq_true rfl) rfl ?_
                      refine s_iinc (q := 129) (v := nI (n + 1)) (lv' := [(0, _), (1, _), (2, _), (3, _), (4, _), (5, _), (6, _)]) hX dX7_heap_126 rfl rfl (nI_add (n) 1) (Nat.le_of_ble_eq_true rfl) rfl ?_
                      refine s_goto (q := 39) hX dX7_heap_129 rfl ?_
                      refine s_dl hX ?_
                      rw [if_pos (by omega)] at ih2
                      exact ih2
        exact L (2 ^ S.T.P) 0 (by omega)
