def chw (n k : Nat) : Nat → Nat
  | 0 => 1
  | i + 1 => chw n k i * (n - k + (i + 1)) / (i + 1)
theorem chw_b : ∀ n, n < 8 → ∀ k, k ≤ n → ∀ i, i ≤ k → chw n k i ≤ 1000 := by decide +kernel
theorem chw_bin : ∀ n, n < 8 → ∀ k, k ≤ n → chw n k k = bin n k := by decide +kernel
theorem bin_b : ∀ n, n < 8 → ∀ k, k ≤ n → bin n k ≤ 35 := by decide +kernel
def eu : Nat → Nat → Nat → Nat
  | 0, a, _ => a
  | n + 1, a, b => if b = 0 then a else eu n b (a % b)
theorem eu_gcd : ∀ (k a b : Nat), b < 2 ^ k → ∀ n, 2 * k < n → eu n a b = Nat.gcd a b
  | 0, a, b, hb, n, hn => by
    have b0 : b = 0 := by omega
    subst b0
    obtain ⟨m, rfl⟩ : ∃ m, n = m + 1 := ⟨n - 1, by omega⟩
    show (if 0 = 0 then a else eu m 0 (a % 0)) = _
    rw [if_pos rfl, Nat.gcd_zero_right]
  | k + 1, a, b, hb, n, hn => by
    obtain ⟨m, rfl⟩ : ∃ m, n = m + 1 + 1 := ⟨n - 2, by omega⟩
    show (if b = 0 then a else eu (m + 1) b (a % b)) = _
    by_cases h0 : b = 0
    · rw [if_pos h0, h0, Nat.gcd_zero_right]
    · rw [if_neg h0]
      show (if a % b = 0 then b else eu m (a % b) (b % (a % b))) = _
      have hr : a % b < b := Nat.mod_lt _ (by omega)
      have hg : Nat.gcd a b = Nat.gcd b (a % b) := by
        rw [Nat.gcd_comm a b, Nat.gcd_rec b a, Nat.gcd_comm]
      by_cases h1 : a % b = 0
      · rw [if_pos h1, hg, h1, Nat.gcd_zero_right]
      · rw [if_neg h1]
        have hlt : b % (a % b) < 2 ^ k := by
          have h2 : b % (a % b) < a % b := Nat.mod_lt _ (by omega)
          have h3 := Nat.div_add_mod b (a % b)
          have h4 : 1 ≤ b / (a % b) := Nat.div_pos (by omega) (by omega)
          have h5 : a % b ≤ (a % b) * (b / (a % b)) := Nat.le_mul_of_pos_right _ h4
          have hb2 : b < 2 * 2 ^ k := by rw [Nat.pow_succ] at hb; omega
          omega
        rw [eu_gcd k (a % b) (b % (a % b)) hlt m (by omega), hg, Nat.gcd_comm b (a % b), Nat.gcd_rec (a % b) b, Nat.gcd_comm (b % (a % b))]
theorem lgc0 {a : Nat} (h0 : 0 < a) (h : a < 2 ^ 63) : lg_cmp (lN a) 0 = 1 := by
  unfold lg_cmp
  rw [if_pos (show (0 : Int64) < lN a from (pk_lLT (a := 0) (by decide) h).mpr h0)]
theorem lgc_l {a b : Nat} (hab : a < b) (hb : b < 2 ^ 63) : lg_cmp (lN a) (lN b) = -1 := by
  unfold lg_cmp
  rw [if_neg (show ¬ lN b < lN a from fun z => absurd ((pk_lLT hb (by omega)).mp z) (by omega)), if_neg (fun z => absurd ((pk_lEQ (by omega) hb).mp z) (by omega))]
theorem lgc_g {a b : Nat} (hab : b ≤ a) (ha : a < 2 ^ 63) : ¬ lg_cmp (lN a) (lN b) < 0 := by
  unfold lg_cmp
  by_cases h : b = a
  · subst h
    rw [if_neg (show ¬ lN b < lN b from fun z => absurd ((pk_lLT ha ha).mp z) (by omega)), if_pos rfl]; decide
  · rw [if_pos (show lN b < lN a from (pk_lLT (by omega) ha).mpr (by omega))]; decide
theorem lN0 {g : Nat} (h0 : 0 < g) (h : g < 2 ^ 63) : ¬ lN g = 0 := fun z => absurd ((pk_lEQ (b := 0) h (by decide)).mp z) (by omega)
theorem nx_t {i n : Nat} (h : n ≤ i) (hi : i < 2 ^ 31) : nI n ≤ nI i := (nI_leI (by omega) hi).mpr h
theorem nx_f {i n : Nat} (h : i < n) (hn : n < 2 ^ 31) : ¬ nI n ≤ nI i := Int32.not_le.mpr (nI_lt h hn)
set_option maxHeartbeats 4000000 in
set_option maxRecDepth 100000 in
theorem c_maxL {d a b : Nat} {sh : List gS} {M : gM} {Q : Option Value → List gS → gM → Prop} (ha : a < 2 ^ 63) (hb : b < 2 ^ 63) (hcon : Q (some (.long (lN (max a b)))) sh M) : gC mJ9_max_f86c9 d 0 0 [.long (lN a), .long (lN b)] sh M Q := by
  refine gC_of (rt := 3) (ini := false) gm_J9_max_f86c9 rfl (by decide) (Nat.le_of_ble_eq_true rfl) (fun X hX => ?_)
  by_cases h : a < b
  · refine s_lload_n (q := 1) hX dJ9_max_f86c9_0 rfl rfl ?_
    refine s_lload_n (q := 2) hX dJ9_max_f86c9_1 rfl rfl ?_
    refine s_lcmp (q := 3) (v := (-1)) hX dJ9_max_f86c9_2 rfl (lgc_l h hb) ?_
    refine s_if_lt_t (q := 6) (r := 10) hX dJ9_max_f86c9_3 rfl rfl (by decide) ?_
    refine s_lload_n (q := 11) hX dJ9_max_f86c9_10 rfl rfl ?_
    refine s_lret hX dJ9_max_f86c9_11 rfl ⟨Nat.le_refl _, Nat.le_refl _, Nat.le_refl _, ?_⟩
    rw [Nat.max_eq_right (Nat.le_of_lt h)] at hcon
    exact hcon
  · refine s_lload_n (q := 1) hX dJ9_max_f86c9_0 rfl rfl ?_
    refine s_lload_n (q := 2) hX dJ9_max_f86c9_1 rfl rfl ?_
    refine s_lcmp (q := 3) hX dJ9_max_f86c9_2 rfl rfl ?_
    refine s_if_lt_f (q := 6) (r := 10) hX dJ9_max_f86c9_3 rfl rfl (lgc_g (Nat.le_of_not_lt h) ha) ?_
    refine s_lload_n (q := 7) hX dJ9_max_f86c9_6 rfl rfl ?_
    refine s_goto (q := 11) hX dJ9_max_f86c9_7 rfl ?_
    refine s_lret hX dJ9_max_f86c9_11 rfl ⟨Nat.le_refl _, Nat.le_refl _, Nat.le_refl _, ?_⟩
    rw [Nat.max_eq_left (Nat.le_of_not_lt h)] at hcon
    exact hcon
set_option maxHeartbeats 4000000 in
set_option maxRecDepth 100000 in
theorem c_power6 {d x n : Nat} {sh : List gS} {M : gM} {Q : Option Value → List gS → gM → Prop} (hx : x ≤ 10) (hn : n ≤ 7) (hcon : Q (some (.long (lN (x ^ n)))) sh M) : gC mX6_power d 0 0 [.int (nI x), .int (nI n)] sh M Q := by
  refine gC_of (rt := 3) (ini := false) gm_X6_power rfl (by decide) (Nat.le_of_ble_eq_true rfl) (fun X hX => ?_)
  have L : ∀ (m i : Nat), i + m = n → X 5 [(0, .int (nI x)), (1, .int (nI n)), (2, .long (lN (x ^ i))), (4, .int (nI i))] [] sh M 0 0 := by
    intro m
    induction m with
    | zero =>
      intro i hi
      have e : i = n := by omega
      subst e
      refine s_iload (q := 7) hX dX6_power_5 rfl rfl ?_
      refine s_iload_n (q := 8) hX dX6_power_7 rfl rfl ?_
      refine s_icmp_ge_t (q := 11) (r := 22) hX dX6_power_8 rfl rfl (nx_t (Nat.le_refl _) (by omega)) ?_
      refine s_lload_n (q := 23) hX dX6_power_22 rfl rfl ?_
      refine s_lret hX dX6_power_23 rfl ⟨Nat.le_refl _, Nat.le_refl _, Nat.le_refl _, ?_⟩
      exact hcon
    | succ m ih =>
      intro i hi
      refine s_iload (q := 7) hX dX6_power_5 rfl rfl ?_
      refine s_iload_n (q := 8) hX dX6_power_7 rfl rfl ?_
      refine s_icmp_ge_f (q := 11) (r := 22) hX dX6_power_8 rfl rfl (nx_f (by omega) (by omega)) ?_
      refine s_lload_n (q := 12) hX dX6_power_11 rfl rfl ?_
      refine s_iload_n (q := 13) hX dX6_power_12 rfl rfl ?_
      refine s_i2l (q := 14) (z := lN (x)) hX dX6_power_13 rfl (nI_l (by omega)) ?_
      refine s_lmul (q := 15) (z := lN (x ^ (i + 1))) hX dX6_power_14 rfl (lN_mul _ _) ?_
      refine s_lstore_n (q := 16) (lv' := [(0, _), (1, _), (2, _), (4, _)]) hX dX6_power_15 rfl (Nat.le_of_ble_eq_true rfl) rfl ?_
      refine s_iinc (q := 19) (v := nI (i + 1)) (lv' := [(0, _), (1, _), (2, _), (4, _)]) hX dX6_power_16 rfl rfl (nI_add (i) 1) (Nat.le_of_ble_eq_true rfl) rfl ?_
      refine s_goto (q := 5) hX dX6_power_19 rfl ?_
      exact ih (i + 1) (by omega)
  refine s_lconst (q := 1) (z := 1) hX dX6_power_0 rfl rfl ?_
  refine s_lstore_n (q := 2) (lv' := [(0, _), (1, _), (2, _)]) hX dX6_power_1 rfl (Nat.le_of_ble_eq_true rfl) rfl ?_
  refine s_iconst (q := 3) (v := 0) hX dX6_power_2 rfl rfl ?_
  refine s_istore (q := 5) (lv' := [(0, _), (1, _), (2, _), (4, _)]) hX dX6_power_3 rfl (Nat.le_of_ble_eq_true rfl) rfl ?_
  exact L n 0 (by omega)
set_option maxHeartbeats 4000000 in
set_option maxRecDepth 100000 in
theorem c_choose6 {d n k : Nat} {sh : List gS} {M : gM} {Q : Option Value → List gS → gM → Prop} (hn : n < 8) (hk : k ≤ n) (hcon : Q (some (.long (lN (bin n k)))) sh M) : gC mX6_choose d 0 0 [.int (nI n), .int (nI k)] sh M Q := by
  refine gC_of (rt := 3) (ini := false) gm_X6_choose rfl (by decide) (Nat.le_of_ble_eq_true rfl) (fun X hX => ?_)
  have L : ∀ (m i : Nat), i + m = k → X 5 [(0, .int (nI n)), (1, .int (nI k)), (2, .long (lN (chw n k i))), (4, .int (nI (i + 1)))] [] sh M 0 0 := by
    intro m
    induction m with
    | zero =>
      intro i hi
      have e : i = k := by omega
      subst e
      rw [← chw_bin n hn i hk] at hcon
      refine s_iload (q := 7) hX dX6_choose_5 rfl rfl ?_
      refine s_iload_n (q := 8) hX dX6_choose_7 rfl rfl ?_
      refine s_icmp_gt_t (q := 11) (r := 31) hX dX6_choose_8 rfl rfl (nI_lt (by omega) (by omega)) ?_
      refine s_lload_n (q := 32) hX dX6_choose_31 rfl rfl ?_
      refine s_lret hX dX6_choose_32 rfl ⟨Nat.le_refl _, Nat.le_refl _, Nat.le_refl _, ?_⟩
      exact hcon
    | succ m ih =>
      intro i hi
      have hb := chw_b n hn k hk i (by omega)
      have hb2 : chw n k i * (n - k + (i + 1)) ≤ 1000 * 15 := Nat.mul_le_mul hb (by omega)
      refine s_iload (q := 7) hX dX6_choose_5 rfl rfl ?_
      refine s_iload_n (q := 8) hX dX6_choose_7 rfl rfl ?_
      refine s_icmp_gt_f (q := 11) (r := 31) hX dX6_choose_8 rfl rfl (Int32.not_lt.mpr (nx_t (by omega) (by omega))) ?_
      refine s_lload_n (q := 12) hX dX6_choose_11 rfl rfl ?_
      refine s_iload_n (q := 13) hX dX6_choose_12 rfl rfl ?_
      refine s_iload_n (q := 14) hX dX6_choose_13 rfl rfl ?_
      refine s_isub (q := 15) (v := nI (n - k)) hX dX6_choose_14 rfl (pk_sub (by omega)) ?_
      refine s_iload (q := 17) hX dX6_choose_15 rfl rfl ?_
      refine s_iadd (q := 18) (v := nI (n - k + (i + 1))) hX dX6_choose_17 rfl (nI_add (n - k) (i + 1)) ?_
      refine s_i2l (q := 19) (z := lN (n - k + (i + 1))) hX dX6_choose_18 rfl (nI_l (by omega)) ?_
      refine s_lmul (q := 20) (z := lN (chw n k i * (n - k + (i + 1)))) hX dX6_choose_19 rfl (lN_mul _ _) ?_
      refine s_iload (q := 22) hX dX6_choose_20 rfl rfl ?_
      refine s_i2l (q := 23) (z := lN (i + 1)) hX dX6_choose_22 rfl (nI_l (by omega)) ?_
      refine s_ldiv (q := 24) (z := lN (chw n k (i + 1))) hX dX6_choose_23 rfl (pk_lDiv (by omega) (by omega) (by omega)) (lN0 (by omega) (by omega)) ?_
      refine s_lstore_n (q := 25) (lv' := [(0, _), (1, _), (2, _), (4, _)]) hX dX6_choose_24 rfl (Nat.le_of_ble_eq_true rfl) rfl ?_
      refine s_iinc (q := 28) (v := nI (i + 1 + 1)) (lv' := [(0, _), (1, _), (2, _), (4, _)]) hX dX6_choose_25 rfl rfl (nI_add (i + 1) 1) (Nat.le_of_ble_eq_true rfl) rfl ?_
      refine s_goto (q := 5) hX dX6_choose_28 rfl ?_
      exact ih (i + 1) (by omega)
  refine s_lconst (q := 1) (z := 1) hX dX6_choose_0 rfl rfl ?_
  refine s_lstore_n (q := 2) (lv' := [(0, _), (1, _), (2, _)]) hX dX6_choose_1 rfl (Nat.le_of_ble_eq_true rfl) rfl ?_
  refine s_iconst (q := 3) (v := 1) hX dX6_choose_2 rfl rfl ?_
  refine s_istore (q := 5) (lv' := [(0, _), (1, _), (2, _), (4, _)]) hX dX6_choose_3 rfl (Nat.le_of_ble_eq_true rfl) rfl ?_
  exact L k 0 (by omega)
set_option maxHeartbeats 4000000 in
set_option maxRecDepth 100000 in
theorem c_gcd6 {d a b : Nat} {sh : List gS} {M : gM} {Q : Option Value → List gS → gM → Prop} (hd : 1 ≤ d) (ha : a < 2 ^ 63) (hb : b < 2 ^ 49) (hb0 : 0 < b) (hcon : Q (some (.long (lN (Nat.gcd a b)))) sh M) : gC mX6_commonDivisor d 0 0 [.long (lN a), .long (lN b)] sh M Q := by
  refine gC_of (rt := 3) (ini := false) gm_X6_commonDivisor rfl (by decide) (Nat.le_of_ble_eq_true rfl) (fun X hX => ?_)
  have hg : Nat.gcd a b = eu 100 a b := (eu_gcd 49 a b hb 100 (by omega)).symm
  have hgp : 0 < Nat.gcd a b := Nat.gcd_pos_of_pos_right a hb0
  have hgl : Nat.gcd a b ≤ b := Nat.gcd_le_right a hb0
  have L : ∀ (m k x y : Nat), k + m = 100 → x < 2 ^ 63 → y < 2 ^ 63 → Nat.gcd a b = eu m x y → X 9 [(0, .long (lN a)), (2, .long (lN b)), (4, .long (lN x)), (6, .long (lN y)), (8, .int (nI k))] [] sh M 0 0 := by
    intro m
    induction m with
    | zero =>
      intro k x y hk hx hy he
      have e : k = 100 := by omega
      subst e
      have e2 : Nat.gcd a b = x := he
      refine s_iload (q := 11) hX dX6_commonDivisor_9 rfl rfl ?_
      refine s_bipush (q := 13) (v := 100) hX dX6_commonDivisor_11 rfl rfl (by decide) ?_
      refine s_icmp_ge_t (q := 16) (r := 44) hX dX6_commonDivisor_13 rfl rfl (by decide) ?_
      refine s_lconst (q := 45) (z := 1) hX dX6_commonDivisor_44 rfl rfl ?_
      refine s_lload (q := 47) hX dX6_commonDivisor_45 rfl rfl ?_
      refine s_invs2_2 (q := 50) hX dX6_commonDivisor_47 rfl glk_6_273 (by decide) (Nat.le_of_ble_eq_true rfl) ⟨Nat.le_refl _, Nat.le_refl _⟩ (by omega) (c_maxL (d := 0) (a := 1) (b := x) (by decide) hx ?_) 
      refine ⟨_, rfl, ?_⟩
      refine s_lret hX dX6_commonDivisor_50 rfl ⟨Nat.le_refl _, Nat.le_refl _, Nat.le_refl _, ?_⟩
      rw [e2] at hcon hgp
      rw [Nat.max_eq_right hgp]
      exact hcon
    | succ m ih =>
      intro k x y hk hx hy he
      have hE : eu (m + 1) x y = if y = 0 then x else eu m y (x % y) := rfl
      rw [hE] at he
      by_cases hy0 : y = 0
      · rw [if_pos hy0] at he
        subst hy0
        refine s_iload (q := 11) hX dX6_commonDivisor_9 rfl rfl ?_
        refine s_bipush (q := 13) (v := 100) hX dX6_commonDivisor_11 rfl rfl (by decide) ?_
        refine s_icmp_ge_f (q := 16) (r := 44) hX dX6_commonDivisor_13 rfl rfl (nx_f (n := 100) (by omega) (by omega)) ?_
        refine s_lload (q := 18) hX dX6_commonDivisor_16 rfl rfl ?_
        refine s_lconst (q := 19) (z := 0) hX dX6_commonDivisor_18 rfl rfl ?_
        refine s_lcmp (q := 20) (v := 0) hX dX6_commonDivisor_19 rfl (by decide) ?_
        refine s_if_eq_t (q := 23) (r := 44) hX dX6_commonDivisor_20 rfl rfl (by decide) ?_
        refine s_lconst (q := 45) (z := 1) hX dX6_commonDivisor_44 rfl rfl ?_
        refine s_lload (q := 47) hX dX6_commonDivisor_45 rfl rfl ?_
        refine s_invs2_2 (q := 50) hX dX6_commonDivisor_47 rfl glk_6_273 (by decide) (Nat.le_of_ble_eq_true rfl) ⟨Nat.le_refl _, Nat.le_refl _⟩ (by omega) (c_maxL (d := 0) (a := 1) (b := x) (by decide) hx ?_) 
        refine ⟨_, rfl, ?_⟩
        refine s_lret hX dX6_commonDivisor_50 rfl ⟨Nat.le_refl _, Nat.le_refl _, Nat.le_refl _, ?_⟩
        rw [he] at hcon hgp
        rw [Nat.max_eq_right hgp]
        exact hcon
      · rw [if_neg hy0] at he
        have hxy : x % y < y := Nat.mod_lt _ (by omega)
        refine s_iload (q := 11) hX dX6_commonDivisor_9 rfl rfl ?_
        refine s_bipush (q := 13) (v := 100) hX dX6_commonDivisor_11 rfl rfl (by decide) ?_
        refine s_icmp_ge_f (q := 16) (r := 44) hX dX6_commonDivisor_13 rfl rfl (nx_f (n := 100) (by omega) (by omega)) ?_
        refine s_lload (q := 18) hX dX6_commonDivisor_16 rfl rfl ?_
        refine s_lconst (q := 19) (z := 0) hX dX6_commonDivisor_18 rfl rfl ?_
        refine s_lcmp (q := 20) (v := 1) hX dX6_commonDivisor_19 rfl (lgc0 (by omega) hy) ?_
        refine s_if_eq_f (q := 23) (r := 44) hX dX6_commonDivisor_20 rfl rfl (by decide) ?_
        refine s_lload (q := 25) hX dX6_commonDivisor_23 rfl rfl ?_
        refine s_lload (q := 27) hX dX6_commonDivisor_25 rfl rfl ?_
        refine s_lrem (q := 28) (z := lN (x % y)) hX dX6_commonDivisor_27 rfl (pk_lRem hx (by omega) hy) (lN0 (by omega) hy) ?_
        refine s_lstore (q := 30) (lv' := [(0, _), (2, _), (4, _), (6, _), (8, _), (9, _)]) hX dX6_commonDivisor_28 rfl (Nat.le_of_ble_eq_true rfl) rfl ?_
        refine s_lload (q := 32) hX dX6_commonDivisor_30 rfl rfl ?_
        refine s_lstore (q := 34) (lv' := [(0, _), (2, _), (4, _), (6, _), (8, _), (9, _)]) hX dX6_commonDivisor_32 rfl (Nat.le_of_ble_eq_true rfl) rfl ?_
        refine s_lload (q := 36) hX dX6_commonDivisor_34 rfl rfl ?_
        refine s_lstore (q := 38) (lv' := [(0, _), (2, _), (4, _), (6, _), (8, _), (9, _)]) hX dX6_commonDivisor_36 rfl (Nat.le_of_ble_eq_true rfl) rfl ?_
        refine s_iinc (q := 41) (v := nI (k + 1)) (lv' := [(0, _), (2, _), (4, _), (6, _), (8, _), (9, _)]) hX dX6_commonDivisor_38 rfl rfl (nI_add (k) 1) (Nat.le_of_ble_eq_true rfl) rfl ?_
        refine s_goto (q := 9) hX dX6_commonDivisor_41 rfl ?_
        refine s_dl hX ?_
        exact ih (k + 1) y (x % y) (by omega) hy (by omega) he
  refine s_lload_n (q := 1) hX dX6_commonDivisor_0 rfl rfl ?_
  refine s_lstore (q := 3) (lv' := [(0, _), (2, _), (4, _)]) hX dX6_commonDivisor_1 rfl (Nat.le_of_ble_eq_true rfl) rfl ?_
  refine s_lload_n (q := 4) hX dX6_commonDivisor_3 rfl rfl ?_
  refine s_lstore (q := 6) (lv' := [(0, _), (2, _), (4, _), (6, _)]) hX dX6_commonDivisor_4 rfl (Nat.le_of_ble_eq_true rfl) rfl ?_
  refine s_iconst (q := 7) (v := 0) hX dX6_commonDivisor_6 rfl rfl ?_
  refine s_istore (q := 9) (lv' := [(0, _), (2, _), (4, _), (6, _), (8, _)]) hX dX6_commonDivisor_7 rfl (Nat.le_of_ble_eq_true rfl) rfl ?_
  exact L 100 0 a b rfl ha (by omega) hg
set_option maxHeartbeats 4000000 in
set_option maxRecDepth 100000 in
theorem c_times {d t b i k n : Nat} {S : gA} {sh : List gS} {M : gM} {Q : Option Value → List gS → gM → Prop} (hd : 3 ≤ d) (hC : isCls sh t) (hS : CLS M t S) (hk : S.ok b) (hb : b ≤ 20000) (hi : i < S.T.P) (hkD : k < S.T.D) (hn : n ≤ 7) (hcon : ∀ M', (∀ c, c ≠ 82 → c ≠ t + 6 → M' c = M c) → Q (some (.int (nI (S.T.row i k n (S.U.tr i))))) sh M') : gC mX6_timesInARow d 0 0 [.ref 0, .int (nI i), .int (nI k), .int (nI n)] sh M Q := by
  have hC0 := hC
  have hS0 := hS
  have hk0 := hk
  obtain ⟨y0, yt, yp, yw, ys, yr, yd, yk, yc, yn, yu⟩ := hC
  have twn := hC0.tw
  have tdf := hC0.df
  have yp2 := yp
  have ys2 := ys
  have yr2 := yr
  have yd2 := yd
  have yk2 := yk
  have yc2 := yc
  have yn2 := yn
  have twn2 := twn
  have tdf2 := tdf
  obtain ⟨p0, p1, p2⟩ := yp2
  obtain ⟨z0, z1, z2, z3, z4, z5, z6⟩ := twn2
  obtain ⟨zz0, zz1, zz2, zz3, zz4, zz5, zz6⟩ := tdf2
  obtain ⟨s0, s1, s2, s3⟩ := ys2
  obtain ⟨r0, r1, r2, r3⟩ := yr2
  obtain ⟨d0, d1, d2⟩ := yd2
  obtain ⟨k0, k1, k2⟩ := yk2
  obtain ⟨q0, q1, q2, q3, q4⟩ := yc2
  obtain ⟨v0, v1, v2, v3, v4, v5, v6⟩ := yn2
  obtain ⟨a1, a2, a3, ⟨n1, a4⟩, ⟨n2, a5⟩, a6⟩ := hS
  obtain ⟨g1, g2, g3, g4, g5, g6, g7⟩ := hk
  have g0 := g1
  obtain ⟨o1, o2, o3, o4, o5, o6, o7, o8⟩ := g0
  have hap : apart t 18 := by unfold apart; omega
  have hap2 : apart t 22 := by unfold apart; omega
  refine gC_of (rt := 1) (ini := false) gm_X6_timesInARow rfl (by decide) (Nat.le_of_ble_eq_true rfl) (fun X hX => ?_)
  have L : ∀ (m a : Nat) (h : Nat → Nat) (M1 : gM), a + m = n → (∀ q, q < 3 → M1 82 (0 + q) = nI (h q)) → (∀ q, q < 3 → h q ≤ 99) → (∀ c, c ≠ 82 → c ≠ t + 6 → M1 c = M c) → S.T.row i k n (S.U.tr i) = a + S.T.row i k m h → X 22 [(0, .ref 0), (1, .int (nI i)), (2, .int (nI k)), (3, .int (nI n)), (4, .int (nI a))] [] sh M1 0 0 := by
    intro m
    induction m with
    | zero =>
      intro a h M1 ha u1 u2 u3 u4
      have e : a = n := by omega
      subst e
      have e9 : S.T.row i k a (S.U.tr i) = a := u4
      refine s_iload (q := 24) hX dX6_timesInARow_22 rfl rfl ?_
      refine s_iload_n (q := 25) hX dX6_timesInARow_24 rfl rfl ?_
      refine s_icmp_ge_t (q := 28) (r := 63) hX dX6_timesInARow_25 rfl rfl (nx_t (Nat.le_refl _) (by omega)) ?_
      refine s_iload (q := 65) hX dX6_timesInARow_63 rfl rfl ?_
      refine s_iret hX dX6_timesInARow_65 (Or.inl rfl) ⟨Nat.le_refl _, Nat.le_refl _, Nat.le_refl _, ?_⟩
      exact gqv (hcon M1 u3) (by rw [e9]) rfl
    | succ m ih =>
      intro a h M1 ha u1 u2 u3 u4
      have hW1 : TWN M1 t S.T := a2.keep (fun c a b => u3 c (by omega) (by omega))
      have hE : S.T.row i k (m + 1) h = if S.T.can i k h = true then S.T.row i k m (fun s => h s - S.T.pay i k h s) + 1 else 0 := rfl
      rw [hE] at u4
      refine s_iload (q := 24) hX dX6_timesInARow_22 rfl rfl ?_
      refine s_iload_n (q := 25) hX dX6_timesInARow_24 rfl rfl ?_
      refine s_icmp_ge_f (q := 28) (r := 63) hX dX6_timesInARow_25 rfl rfl (nx_f (by omega) (by omega)) ?_
      refine s_aload_n (q := 29) hX dX6_timesInARow_28 rfl rfl ?_
      refine s_getr (q := 32) hX dX6_timesInARow_29 rfl gfl_6_19 (by assumption) rfl ?_
      refine s_iload_n (q := 33) hX dX6_timesInARow_32 rfl rfl ?_
      refine s_iload_n (q := 34) hX dX6_timesInARow_33 rfl rfl ?_
      refine s_aload_n (q := 35) hX dX6_timesInARow_34 rfl rfl ?_
      refine s_getr (q := 38) hX dX6_timesInARow_35 rfl gfl_6_62 (by assumption) rfl ?_
      refine s_iconst (q := 39) (v := 0) hX dX6_timesInARow_38 rfl rfl ?_
      refine s_invv4_1 (q := 42) hX dX6_timesInARow_39 rfl glk_6_135 (by assumption) (Nat.le_of_ble_eq_true rfl) ⟨Nat.le_refl _, Nat.le_refl _⟩ (by omega) (c_affords (d := 2) (a := 0) (h := h) (Nat.le_refl _) twn hW1 g1 hi hkD yu (by omega) (by omega) (by omega) u1 (fun s hs => Nat.lt_of_le_of_lt (u2 s hs) (by omega)) (fun g hg => ?_)) 
      refine ⟨_, rfl, ?_⟩
      refine s_if_eq (q := 45) (r := 63) hX dX6_timesInARow_42 rfl rfl (fun c42 => ?_) (fun c42 => ?_)
      · refine s_iload (q := 65) hX dX6_timesInARow_63 rfl rfl ?_
        refine s_iret hX dX6_timesInARow_65 (Or.inl rfl) ⟨Nat.le_refl _, Nat.le_refl _, Nat.le_refl _, ?_⟩
        have hno := gif_f c42
        rw [if_neg hno] at u4
        exact gqv (hcon _ (fun c h1 h2 => by rw [gsr_n _ _ h2, u3 c h1 h2])) (by rw [u4, Nat.add_zero]) rfl
      · refine s_aload_n (q := 46) hX dX6_timesInARow_45 rfl rfl ?_
        refine s_getr (q := 49) hX dX6_timesInARow_46 rfl gfl_6_19 (by assumption) rfl ?_
        refine s_aload_n (q := 50) hX dX6_timesInARow_49 rfl rfl ?_
        refine s_getr (q := 53) hX dX6_timesInARow_50 rfl gfl_6_62 (by assumption) rfl ?_
        refine s_iconst (q := 54) (v := 0) hX dX6_timesInARow_53 rfl rfl ?_
        refine s_invv2_0 (q := 57) hX dX6_timesInARow_54 rfl glk_6_269 (by assumption) (Nat.le_of_ble_eq_true rfl) ⟨Nat.le_refl _, Nat.le_refl _⟩ (by omega) (c_pay (d := 0) (a := 0) twn yu (by omega) (by omega) (by omega) ?_) 
        refine ⟨rfl, ?_⟩
        refine s_iinc (q := 60) (v := nI (a + 1)) (lv' := [(0, _), (1, _), (2, _), (3, _), (4, _)]) hX dX6_timesInARow_57 rfl rfl (nI_add (a) 1) (Nat.le_of_ble_eq_true rfl) rfl ?_
        refine s_goto (q := 22) hX dX6_timesInARow_60 rfl ?_
        have hc := gif_t c42
        rw [if_pos hc] at u4
        have hg := hg hc
        have hple : ∀ r, r < 3 → S.T.pay i k h r ≤ h r := payC_le hc
        refine ih (a + 1) (fun s => h s - S.T.pay i k h s) _ (by omega) (fun q hq => ?_) (fun q hq => Nat.le_trans (Nat.sub_le _ _) (u2 q hq)) (fun c h1 h2 => by rw [gsr_n _ _ h1, gsr_n _ _ h2, u3 c h1 h2]) (by rw [u4]; omega)
        rw [gsr_s, gsr_n _ _ (by omega), gsr_s]
        have key : ∀ r, r < 3 → M1 82 (0 + r) - g r = nI (h r - S.T.pay i k h r) := fun r hr => by rw [u1 r hr, hg r hr]; exact pk_sub (hple r hr)
        unfold pay3
        rcases (show q = 0 ∨ q = 1 ∨ q = 2 by omega) with rfl | rfl | rfl
        · rw [if_pos (by omega)]; exact key 0 (by omega)
        · rw [if_neg (by omega), if_pos rfl]; exact key 1 (by omega)
        · rw [if_neg (by omega), if_neg (by omega), if_pos rfl]; exact key 2 (by omega)
  refine s_aload_n (q := 1) hX dX6_timesInARow_0 rfl rfl ?_
  refine s_getr (q := 4) hX dX6_timesInARow_1 rfl gfl_6_29 (by assumption) rfl ?_
  refine s_getr (q := 7) hX dX6_timesInARow_4 rfl gfl_6_120 (by assumption) rfl ?_
  refine s_iload_n (q := 8) hX dX6_timesInARow_7 rfl rfl ?_
  refine s_iconst (q := 9) (v := 3) hX dX6_timesInARow_8 rfl rfl ?_
  refine s_imul (q := 10) (v := nI (i * 3)) hX dX6_timesInARow_9 rfl (pk_mul (i) (3)) ?_
  refine s_aload_n (q := 11) hX dX6_timesInARow_10 rfl rfl ?_
  refine s_getr (q := 14) hX dX6_timesInARow_11 rfl gfl_6_62 (by assumption) rfl ?_
  refine s_iconst (q := 15) (v := 0) hX dX6_timesInARow_14 rfl rfl ?_
  refine s_iconst (q := 16) (v := 3) hX dX6_timesInARow_15 rfl rfl ?_
  refine s_cpy (k0 := i * 3) (k1 := 0) (n := 3) (q := 19) hX dX6_timesInARow_16 rfl glk_6_222 (by omega) (Nat.le_of_ble_eq_true rfl) (by assumption) (by assumption) rfl rfl rfl (by omega) (by omega) (by omega) (by omega) ?_
  refine s_iconst (q := 20) (v := 0) hX dX6_timesInARow_19 rfl rfl ?_
  refine s_istore (q := 22) (lv' := [(0, _), (1, _), (2, _), (3, _), (4, _)]) hX dX6_timesInARow_20 rfl (Nat.le_of_ble_eq_true rfl) rfl ?_
  exact L n 0 (S.U.tr i) _ (by omega) (fun q hq => by rw [gsr_s, pk_cpy_in (by omega) (by omega), show i * 3 + (0 + q - 0) = 3 * i + q by omega]; exact a3.2.1 _ (by omega)) (fun q hq => g3.1.1 _ (by omega)) (fun c h1 h2 => gsr_n _ _ h1) (by rw [Nat.zero_add])
theorem gT.row_le (T : gT) (i k : Nat) : ∀ (n : Nat) (h : Nat → Nat), T.row i k n h ≤ n
  | 0, _ => Nat.le_refl _
  | n + 1, h => by
    show (if T.can i k h = true then T.row i k n (fun s => h s - T.pay i k h s) + 1 else 0) ≤ n + 1
    split
    · exact Nat.succ_le_succ (T.row_le i k n _)
    · exact Nat.zero_le _
theorem abv_b {n x c : Nat} (hn : n ≤ 7) (hx : x ≤ 10) (hc : c ≤ n) : abv n x c ≤ 28000000000000000 := by
  unfold abv
  refine Nat.le_trans (sumN_bd (c := 35 * 10 ^ 7 * 10 ^ 7) (c + 1) (fun w hw => ?_)) ?_
  · have h1 := bin_b n (by omega) w (by omega)
    have h2 : x ^ w ≤ 10 ^ 7 := Nat.le_trans (Nat.pow_le_pow_left hx w) (Nat.pow_le_pow_right (by decide) (by omega))
    have h3 : (10 - x) ^ (n - w) ≤ 10 ^ 7 := Nat.le_trans (Nat.pow_le_pow_left (Nat.sub_le _ _) _) (Nat.pow_le_pow_right (by decide) (by omega))
    exact Nat.mul_le_mul (Nat.mul_le_mul h1 h2) h3
  · exact Nat.le_trans (Nat.mul_le_mul_right _ (show c + 1 ≤ 8 by omega)) (by decide)
set_option maxHeartbeats 4000000 in
set_option maxRecDepth 100000 in
theorem k_lasts {d t b : Nat} {x y z u w : Int32} {S : gA} {sh : List gS} {M : gM} {Q : Option Value → List gS → gM → Prop} (hd : 4 ≤ d) (hC : isCls sh t) (hS : CLS M t S) (hk : S.ok b) (hb : b ≤ 20000) (hcon : kC sh M (S.lasts x y z u w) Q) : gC mX6_lasts d 0 0 [.ref 0, .int x, .int y, .int z, .int u, .int w] sh M Q := by
  have hC0 := hC
  have hS0 := hS
  have hk0 := hk
  obtain ⟨y0, yt, yp, yw, ys, yr, yd, yk, yc, yn, yu⟩ := hC
  have twn := hC0.tw
  have tdf := hC0.df
  have yp2 := yp
  have ys2 := ys
  have yr2 := yr
  have yd2 := yd
  have yk2 := yk
  have yc2 := yc
  have yn2 := yn
  have twn2 := twn
  have tdf2 := tdf
  obtain ⟨p0, p1, p2⟩ := yp2
  obtain ⟨z0, z1, z2, z3, z4, z5, z6⟩ := twn2
  obtain ⟨zz0, zz1, zz2, zz3, zz4, zz5, zz6⟩ := tdf2
  obtain ⟨s0, s1, s2, s3⟩ := ys2
  obtain ⟨r0, r1, r2, r3⟩ := yr2
  obtain ⟨d0, d1, d2⟩ := yd2
  obtain ⟨k0, k1, k2⟩ := yk2
  obtain ⟨q0, q1, q2, q3, q4⟩ := yc2
  obtain ⟨v0, v1, v2, v3, v4, v5, v6⟩ := yn2
  obtain ⟨a1, a2, a3, ⟨n1, a4⟩, ⟨n2, a5⟩, a6⟩ := hS
  obtain ⟨g1, g2, g3, g4, g5, g6, g7⟩ := hk
  have g0 := g1
  obtain ⟨o1, o2, o3, o4, o5, o6, o7, o8⟩ := g0
  have hap : apart t 18 := by unfold apart; omega
  have hap2 : apart t 22 := by unfold apart; omega
  refine gC_of (rt := 1) (ini := false) gm_X6_lasts rfl (by decide) (Nat.le_of_ble_eq_true rfl) (fun X hX => ?_)
  refine s_aload_n (q := 1) hX dX6_lasts_0 rfl rfl ?_
  refine s_iload_n (q := 2) hX dX6_lasts_1 rfl rfl ?_
  refine s_invv1_1 (q := 5) hX dX6_lasts_2 rfl glk_6_104 (by assumption) (Nat.le_of_ble_eq_true rfl) ⟨Nat.le_refl _, Nat.le_refl _⟩ (by omega) (c_isPerson (d := 1) (x := x) (Nat.le_refl _) hC0 hS0 g1 (fun ra => ?_) (fun i ra hi ei => ?_)) 
  · refine ⟨_, rfl, ?_⟩
    refine s_if_eq_t (q := 8) (r := 47) hX dX6_lasts_5 rfl rfl (by decide) ?_
    refine s_iconst (q := 48) (v := (-1)) hX dX6_lasts_47 rfl rfl ?_
    refine s_iret hX dX6_lasts_48 (Or.inl rfl) ⟨Nat.le_refl _, Nat.le_refl _, Nat.le_refl _, ?_⟩
    exact hcon.ret (by first | (unfold gA.lasts; rw [ra]; dsimp only; rw [rb]; dsimp only; rw [rz]; dsimp only; rw [ru]; dsimp only; rw [rw]) | (unfold gA.lasts; rw [ra]; dsimp only; rw [rb]; dsimp only; rw [rz]; dsimp only; rw [ru]) | (unfold gA.lasts; rw [ra]; dsimp only; rw [rb]; dsimp only; rw [rz]) | (unfold gA.lasts; rw [ra]; dsimp only; rw [rb]) | (unfold gA.lasts; rw [ra])) hC0 hS0 (fun _ _ => rfl)
  · subst ei
    refine ⟨_, rfl, ?_⟩
    refine s_if_eq_f (q := 8) (r := 47) hX dX6_lasts_5 rfl rfl (by decide) ?_
    refine s_aload_n (q := 9) hX dX6_lasts_8 rfl rfl ?_
    refine s_iload_n (q := 10) hX dX6_lasts_9 rfl rfl ?_
    refine s_invv1_1 (q := 13) hX dX6_lasts_10 rfl glk_6_123 (by assumption) (Nat.le_of_ble_eq_true rfl) ⟨Nat.le_refl _, Nat.le_refl _⟩ (by omega) (c_isDeed (d := 1) (x := y) (Nat.le_refl _) hC0 hS0 g1 (fun rb => ?_) (fun k rb hk ek => ?_)) 
    · refine ⟨_, rfl, ?_⟩
      refine s_if_eq_t (q := 16) (r := 47) hX dX6_lasts_13 rfl rfl (by decide) ?_
      refine s_iconst (q := 48) (v := (-1)) hX dX6_lasts_47 rfl rfl ?_
      refine s_iret hX dX6_lasts_48 (Or.inl rfl) ⟨Nat.le_refl _, Nat.le_refl _, Nat.le_refl _, ?_⟩
      exact hcon.ret (by first | (unfold gA.lasts; rw [ra]; dsimp only; rw [rb]; dsimp only; rw [rz]; dsimp only; rw [ru]; dsimp only; rw [rw]) | (unfold gA.lasts; rw [ra]; dsimp only; rw [rb]; dsimp only; rw [rz]; dsimp only; rw [ru]) | (unfold gA.lasts; rw [ra]; dsimp only; rw [rb]; dsimp only; rw [rz]) | (unfold gA.lasts; rw [ra]; dsimp only; rw [rb]) | (unfold gA.lasts; rw [ra])) hC0 hS0 (fun _ _ => rfl)
    · subst ek
      refine ⟨_, rfl, ?_⟩
      refine s_if_eq_f (q := 16) (r := 47) hX dX6_lasts_13 rfl rfl (by decide) ?_
      refine s_iload_n (q := 17) hX dX6_lasts_16 rfl rfl ?_
      refine s_iconst (q := 18) (v := 0) hX dX6_lasts_17 rfl rfl ?_
      refine s_bipush (q := 20) (v := 10) hX dX6_lasts_18 rfl rfl (by decide) ?_
      refine s_invs3_1 (q := 23) hX dX6_lasts_20 rfl glk_6_93 (by decide) (Nat.le_of_ble_eq_true rfl) ⟨Nat.le_refl _, Nat.le_refl _⟩ (by omega) (c_rng (d := 0) (x := z) (lo := 0) (n := 11) rfl rfl (by decide) (by decide) (fun rz => ?_) (fun q rz lq hq eq => ?_)) 
      · refine ⟨_, rfl, ?_⟩
        refine s_if_eq_t (q := 26) (r := 47) hX dX6_lasts_23 rfl rfl (by decide) ?_
        refine s_iconst (q := 48) (v := (-1)) hX dX6_lasts_47 rfl rfl ?_
        refine s_iret hX dX6_lasts_48 (Or.inl rfl) ⟨Nat.le_refl _, Nat.le_refl _, Nat.le_refl _, ?_⟩
        exact hcon.ret (by first | (unfold gA.lasts; rw [ra]; dsimp only; rw [rb]; dsimp only; rw [rz]; dsimp only; rw [ru]; dsimp only; rw [rw]) | (unfold gA.lasts; rw [ra]; dsimp only; rw [rb]; dsimp only; rw [rz]; dsimp only; rw [ru]) | (unfold gA.lasts; rw [ra]; dsimp only; rw [rb]; dsimp only; rw [rz]) | (unfold gA.lasts; rw [ra]; dsimp only; rw [rb]) | (unfold gA.lasts; rw [ra])) hC0 hS0 (fun _ _ => rfl)
      · subst eq
        refine ⟨_, rfl, ?_⟩
        refine s_if_eq_f (q := 26) (r := 47) hX dX6_lasts_23 rfl rfl (by decide) ?_
        refine s_iload (q := 28) hX dX6_lasts_26 rfl rfl ?_
        refine s_iconst (q := 29) (v := 0) hX dX6_lasts_28 rfl rfl ?_
        refine s_bipush (q := 31) (v := 7) hX dX6_lasts_29 rfl rfl (by decide) ?_
        refine s_invs3_1 (q := 34) hX dX6_lasts_31 rfl glk_6_93 (by decide) (Nat.le_of_ble_eq_true rfl) ⟨Nat.le_refl _, Nat.le_refl _⟩ (by omega) (c_rng (d := 0) (x := u) (lo := 0) (n := 8) rfl rfl (by decide) (by decide) (fun ru => ?_) (fun n ru ln hn en => ?_)) 
        · refine ⟨_, rfl, ?_⟩
          refine s_if_eq_t (q := 37) (r := 47) hX dX6_lasts_34 rfl rfl (by decide) ?_
          refine s_iconst (q := 48) (v := (-1)) hX dX6_lasts_47 rfl rfl ?_
          refine s_iret hX dX6_lasts_48 (Or.inl rfl) ⟨Nat.le_refl _, Nat.le_refl _, Nat.le_refl _, ?_⟩
          exact hcon.ret (by first | (unfold gA.lasts; rw [ra]; dsimp only; rw [rb]; dsimp only; rw [rz]; dsimp only; rw [ru]; dsimp only; rw [rw]) | (unfold gA.lasts; rw [ra]; dsimp only; rw [rb]; dsimp only; rw [rz]; dsimp only; rw [ru]) | (unfold gA.lasts; rw [ra]; dsimp only; rw [rb]; dsimp only; rw [rz]) | (unfold gA.lasts; rw [ra]; dsimp only; rw [rb]) | (unfold gA.lasts; rw [ra])) hC0 hS0 (fun _ _ => rfl)
        · subst en
          refine ⟨_, rfl, ?_⟩
          refine s_if_eq_f (q := 37) (r := 47) hX dX6_lasts_34 rfl rfl (by decide) ?_
          refine s_iload (q := 39) hX dX6_lasts_37 rfl rfl ?_
          refine s_iconst (q := 40) (v := 0) hX dX6_lasts_39 rfl rfl ?_
          refine s_iconst (q := 41) (v := 1) hX dX6_lasts_40 rfl rfl ?_
          refine s_invs3_1 (q := 44) hX dX6_lasts_41 rfl glk_6_93 (by decide) (Nat.le_of_ble_eq_true rfl) ⟨Nat.le_refl _, Nat.le_refl _⟩ (by omega) (c_rng (d := 0) (x := w) (lo := 0) (n := 2) rfl rfl (by decide) (by decide) (fun rw => ?_) (fun p rw lp hp ep => ?_)) 
          · refine ⟨_, rfl, ?_⟩
            refine s_if_ne_f (q := 47) (r := 49) hX dX6_lasts_44 rfl rfl (by decide) ?_
            refine s_iconst (q := 48) (v := (-1)) hX dX6_lasts_47 rfl rfl ?_
            refine s_iret hX dX6_lasts_48 (Or.inl rfl) ⟨Nat.le_refl _, Nat.le_refl _, Nat.le_refl _, ?_⟩
            exact hcon.ret (by first | (unfold gA.lasts; rw [ra]; dsimp only; rw [rb]; dsimp only; rw [rz]; dsimp only; rw [ru]; dsimp only; rw [rw]) | (unfold gA.lasts; rw [ra]; dsimp only; rw [rb]; dsimp only; rw [rz]; dsimp only; rw [ru]) | (unfold gA.lasts; rw [ra]; dsimp only; rw [rb]; dsimp only; rw [rz]) | (unfold gA.lasts; rw [ra]; dsimp only; rw [rb]) | (unfold gA.lasts; rw [ra])) hC0 hS0 (fun _ _ => rfl)
          · subst ep
            refine ⟨_, rfl, ?_⟩
            refine s_if_ne_t (q := 47) (r := 49) hX dX6_lasts_44 rfl rfl (by decide) ?_
            refine s_aload_n (q := 50) hX dX6_lasts_49 rfl rfl ?_
            refine s_iload_n (q := 51) hX dX6_lasts_50 rfl rfl ?_
            refine s_iload_n (q := 52) hX dX6_lasts_51 rfl rfl ?_
            refine s_iload (q := 54) hX dX6_lasts_52 rfl rfl ?_
            refine s_invv3_1 (q := 57) hX dX6_lasts_54 rfl glk_6_232 (by assumption) (Nat.le_of_ble_eq_true rfl) ⟨Nat.le_refl _, Nat.le_refl _⟩ (by omega) (c_times (d := 3) (Nat.le_refl _) hC0 hS0 hk0 hb hi hk (by omega) (fun M1 w2 => ?_)) 
            refine ⟨_, rfl, ?_⟩
            refine s_istore (q := 59) (lv' := [(0, _), (1, _), (2, _), (3, _), (4, _), (5, _), (6, _)]) hX dX6_lasts_57 rfl (Nat.le_of_ble_eq_true rfl) rfl ?_
            refine s_lconst (q := 60) (z := 0) hX dX6_lasts_59 rfl rfl ?_
            refine s_lstore (q := 62) (lv' := [(0, _), (1, _), (2, _), (3, _), (4, _), (5, _), (6, _), (7, _)]) hX dX6_lasts_60 rfl (Nat.le_of_ble_eq_true rfl) rfl ?_
            refine s_iconst (q := 63) (v := 0) hX dX6_lasts_62 rfl rfl ?_
            refine s_istore (q := 65) (lv' := [(0, _), (1, _), (2, _), (3, _), (4, _), (5, _), (6, _), (7, _), (9, _)]) hX dX6_lasts_63 rfl (Nat.le_of_ble_eq_true rfl) rfl ?_
            have hcn := S.T.row_le i k n (S.U.tr i)
            generalize hcc : S.T.row i k n (S.U.tr i) = c at *
            have h10 : 10 ^ n ≤ 10 ^ 7 := Nat.pow_le_pow_right (by decide) (by omega)
            have h10b : (10 : Nat) ^ 7 = 10000000 := by decide
            have h10p : 0 < 10 ^ n := Nat.pow_pos (by decide)
            have hab := abv_b (n := n) (x := q) (c := c) (by omega) (by omega) hcn
            have hgp : 0 < Nat.gcd (abv n q c) (10 ^ n) := Nat.gcd_pos_of_pos_right _ h10p
            have hgl : Nat.gcd (abv n q c) (10 ^ n) ≤ 10 ^ n := Nat.gcd_le_right _ h10p
            have L : ∀ (m w : Nat), w + m = c + 1 → X 65 [(0, .ref 0), (1, .int (nI i)), (2, .int (nI k)), (3, .int (nI q)), (4, .int (nI n)), (5, .int (nI p)), (6, .int (nI c)), (7, .long (lN (sumN (fun w => bin n w * q ^ w * (10 - q) ^ (n - w)) w))), (9, .int (nI w))] [] sh M1 0 0 := by
              intro m
              induction m with
              | zero =>
                intro w hw
                have e : w = c + 1 := by omega
                subst e
                have eab : sumN (fun w => bin n w * q ^ w * (10 - q) ^ (n - w)) (c + 1) = abv n q c := rfl
                rw [eab]
                refine s_iload (q := 67) hX dX6_lasts_65 rfl rfl ?_
                refine s_iload (q := 69) hX dX6_lasts_67 rfl rfl ?_
                refine s_icmp_gt_t (q := 72) (r := 110) hX dX6_lasts_69 rfl rfl (nI_lt (by omega) (by omega)) ?_
                refine s_bipush (q := 112) (v := 10) hX dX6_lasts_110 rfl rfl (by decide) ?_
                refine s_iload (q := 114) hX dX6_lasts_112 rfl rfl ?_
                refine s_invs2_2 (q := 117) hX dX6_lasts_114 rfl glk_6_239 (by decide) (Nat.le_of_ble_eq_true rfl) ⟨Nat.le_refl _, Nat.le_refl _⟩ (by omega) (c_power6 (d := 0) (x := 10) (n := n) (by omega) (by omega) ?_) 
                refine ⟨_, rfl, ?_⟩
                refine s_lstore (q := 119) (lv' := [(0, _), (1, _), (2, _), (3, _), (4, _), (5, _), (6, _), (7, _), (9, _)]) hX dX6_lasts_117 rfl (Nat.le_of_ble_eq_true rfl) rfl ?_
                refine s_iload (q := 121) hX dX6_lasts_119 rfl rfl ?_
                refine s_nif_ne (a := p) (b := 0) (q := 124) (r := 129) hX dX6_lasts_121 rfl rfl rfl rfl (by omega) (by omega) (fun c121 => ?_) (fun c121 => ?_)
                · refine s_lload (q := 131) hX dX6_lasts_129 rfl rfl ?_
                  refine s_lload (q := 133) hX dX6_lasts_131 rfl rfl ?_
                  refine s_lload (q := 135) hX dX6_lasts_133 rfl rfl ?_
                  refine s_invs2_2 (q := 138) hX dX6_lasts_135 rfl glk_6_242 (by decide) (Nat.le_of_ble_eq_true rfl) ⟨Nat.le_refl _, Nat.le_refl _⟩ (by omega) (c_gcd6 (d := 1) (a := abv n q c) (b := 10 ^ n) (Nat.le_refl _) (by omega) (by omega) h10p ?_) 
                  refine ⟨_, rfl, ?_⟩
                  refine s_ldiv (q := 139) hX dX6_lasts_138 rfl rfl (lN0 hgp (by omega)) ?_
                  refine s_l2i (q := 140) hX dX6_lasts_139 rfl rfl ?_
                  refine s_iret hX dX6_lasts_140 (Or.inl rfl) ⟨Nat.le_refl _, Nat.le_refl _, Nat.le_refl _, ?_⟩
                  exact hcon.ret (by unfold gA.lasts; rw [ra]; dsimp only; rw [rb]; dsimp only; rw [rz]; dsimp only; rw [ru]; dsimp only; rw [rw]; dsimp only; rw [hcc, if_neg (by omega), pk_lDiv (by omega) hgp (by omega), lN_i]) hC0 (hS0.kp yt (fun c hc => w2 c (by omega) (by omega))) (fun c hc => w2 c (by omega) (by omega))
                · refine s_lload (q := 126) hX dX6_lasts_124 rfl rfl ?_
                  refine s_goto (q := 131) hX dX6_lasts_126 rfl ?_
                  refine s_lload (q := 133) hX dX6_lasts_131 rfl rfl ?_
                  refine s_lload (q := 135) hX dX6_lasts_133 rfl rfl ?_
                  refine s_invs2_2 (q := 138) hX dX6_lasts_135 rfl glk_6_242 (by decide) (Nat.le_of_ble_eq_true rfl) ⟨Nat.le_refl _, Nat.le_refl _⟩ (by omega) (c_gcd6 (d := 1) (a := abv n q c) (b := 10 ^ n) (Nat.le_refl _) (by omega) (by omega) h10p ?_) 
                  refine ⟨_, rfl, ?_⟩
                  refine s_ldiv (q := 139) hX dX6_lasts_138 rfl rfl (lN0 hgp (by omega)) ?_
                  refine s_l2i (q := 140) hX dX6_lasts_139 rfl rfl ?_
                  refine s_iret hX dX6_lasts_140 (Or.inl rfl) ⟨Nat.le_refl _, Nat.le_refl _, Nat.le_refl _, ?_⟩
                  exact hcon.ret (by unfold gA.lasts; rw [ra]; dsimp only; rw [rb]; dsimp only; rw [rz]; dsimp only; rw [ru]; dsimp only; rw [rw]; dsimp only; rw [hcc, if_pos (by omega), pk_lDiv (by omega) hgp (by omega), lN_i]) hC0 (hS0.kp yt (fun c hc => w2 c (by omega) (by omega))) (fun c hc => w2 c (by omega) (by omega))
              | succ m ih =>
                intro w hw
                refine s_iload (q := 67) hX dX6_lasts_65 rfl rfl ?_
                refine s_iload (q := 69) hX dX6_lasts_67 rfl rfl ?_
                refine s_icmp_gt_f (q := 72) (r := 110) hX dX6_lasts_69 rfl rfl (Int32.not_lt.mpr (nx_t (by omega) (by omega))) ?_
                refine s_lload (q := 74) hX dX6_lasts_72 rfl rfl ?_
                refine s_iload (q := 76) hX dX6_lasts_74 rfl rfl ?_
                refine s_iload (q := 78) hX dX6_lasts_76 rfl rfl ?_
                refine s_invs2_2 (q := 81) hX dX6_lasts_78 rfl glk_6_236 (by decide) (Nat.le_of_ble_eq_true rfl) ⟨Nat.le_refl _, Nat.le_refl _⟩ (by omega) (c_choose6 (d := 0) (n := n) (k := w) (by omega) (by omega) ?_) 
                refine ⟨_, rfl, ?_⟩
                refine s_iload_n (q := 82) hX dX6_lasts_81 rfl rfl ?_
                refine s_iload (q := 84) hX dX6_lasts_82 rfl rfl ?_
                refine s_invs2_2 (q := 87) hX dX6_lasts_84 rfl glk_6_239 (by decide) (Nat.le_of_ble_eq_true rfl) ⟨Nat.le_refl _, Nat.le_refl _⟩ (by omega) (c_power6 (d := 0) (x := q) (n := w) (by omega) (by omega) ?_) 
                refine ⟨_, rfl, ?_⟩
                refine s_lmul (q := 88) (z := lN (bin n w * q ^ w)) hX dX6_lasts_87 rfl (lN_mul _ _) ?_
                refine s_bipush (q := 90) (v := 10) hX dX6_lasts_88 rfl rfl (by decide) ?_
                refine s_iload_n (q := 91) hX dX6_lasts_90 rfl rfl ?_
                refine s_isub (q := 92) (v := nI (10 - q)) hX dX6_lasts_91 rfl (pk_sub (a := 10) (by omega)) ?_
                refine s_iload (q := 94) hX dX6_lasts_92 rfl rfl ?_
                refine s_iload (q := 96) hX dX6_lasts_94 rfl rfl ?_
                refine s_isub (q := 97) (v := nI (n - w)) hX dX6_lasts_96 rfl (pk_sub (by omega)) ?_
                refine s_invs2_2 (q := 100) hX dX6_lasts_97 rfl glk_6_239 (by decide) (Nat.le_of_ble_eq_true rfl) ⟨Nat.le_refl _, Nat.le_refl _⟩ (by omega) (c_power6 (d := 0) (x := 10 - q) (n := n - w) (by omega) (by omega) ?_) 
                refine ⟨_, rfl, ?_⟩
                refine s_lmul (q := 101) (z := lN (bin n w * q ^ w * (10 - q) ^ (n - w))) hX dX6_lasts_100 rfl (lN_mul _ _) ?_
                refine s_ladd (q := 102) (z := lN (sumN (fun w => bin n w * q ^ w * (10 - q) ^ (n - w)) (w + 1))) hX dX6_lasts_101 rfl (lN_add _ _) ?_
                refine s_lstore (q := 104) (lv' := [(0, _), (1, _), (2, _), (3, _), (4, _), (5, _), (6, _), (7, _), (9, _)]) hX dX6_lasts_102 rfl (Nat.le_of_ble_eq_true rfl) rfl ?_
                refine s_iinc (q := 107) (v := nI (w + 1)) (lv' := [(0, _), (1, _), (2, _), (3, _), (4, _), (5, _), (6, _), (7, _), (9, _)]) hX dX6_lasts_104 rfl rfl (nI_add (w) 1) (Nat.le_of_ble_eq_true rfl) rfl ?_
                refine s_goto (q := 65) hX dX6_lasts_107 rfl ?_
                exact ih (w + 1) (by omega)
            exact L (c + 1) 0 (by omega)
