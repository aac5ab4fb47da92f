/-! THE LAW -/
section SLW
variable {cc : ByteArray} {o nL d MC MS rt : Nat} {ini : Bool} {Rt : gRt} {X : gX} {pc q : Nat} {lv : List (Nat × Value)} {st : List Value} {sh : List gS} {M : gM} {kc ks : Nat} {x : Int32} {n : Nat} {xs : Nat → Int32}
theorem s_sald {k : Nat} (hX : gCl cc o nL d MC MS rt ini (some (n, xs)) Rt X) (hd : decode cc pc = .ok (.iaload, 1)) (hp : pc + 1 = q) (hs : sh[1000000]? = none) (hk : x = nI k) (hn : k < n) (hb : n ≤ 100000) (h : X q lv (.int (xs k) :: st) sh M kc ks) : X pc lv (.int x :: .ref 1000000 :: st) sh M kc ks := by
  subst hp hk
  refine hX.1 _ _ _ _ _ _ _ _ _ hd ⟨rfl, gpir_i ?_⟩
  unfold gar
  rw [hs]
  refine ⟨rfl, (n, xs), rfl, vp_in_nI hn (by omega), ?_⟩
  rw [nI_clamp (by omega)]
  exact h
theorem s_slen (hX : gCl cc o nL d MC MS rt ini (some (n, xs)) Rt X) (hd : decode cc pc = .ok (.arraylength, 1)) (hp : pc + 1 = q) (hs : sh[1000000]? = none) (h : X q lv (.int (nI n) :: st) sh M kc ks) : X pc lv (.ref 1000000 :: st) sh M kc ks := by
  subst hp
  refine hX.1 _ _ _ _ _ _ _ _ _ hd ⟨rfl, ?_⟩
  unfold gpr
  dsimp only
  rw [hs]
  exact ⟨rfl, (n, xs), rfl, h⟩
end SLW
theorem glaw_gt {n k : Nat} (hn : n ≤ 3072) (hk : k ≤ 600) : nI n - 6 < nI (6 * k) ↔ n < 6 * k + 6 := by
  rw [Int32.lt_iff_toInt_lt, show (6 : Int32) = nI 6 from rfl, pk_sub_toInt (by omega) (by omega), nI_toInt (by omega)]
  omega
theorem gn6 {sh : List gS} (h : sh.length = 99) : sh[1000000]? = none := List.getElem?_eq_none (by omega)
set_option maxHeartbeats 4000000 in
set_option maxRecDepth 100000 in
theorem law_loop {n kc ks : Nat} {xs : Nat → Int32} {X : gX} (hn : n ≤ 3072) (hX : gCl code 8 4 30 600000 7302249 2 false (some (n, xs)) (fun v _ _ kc ks => v = some (.int 1) ∧ kc ≤ 600000 ∧ ks ≤ 7302249) X) (hkc : kc ≤ 600000) (hks : ks ≤ 7302249) : ∀ (m k t : Nat) (S : gA) (sh : List gS) (M : gM), k + m = 513 → sh.length = 99 → isCls sh t → CLS M t S → isMod sh → MOD M S → S.ok (30 * k) → X 18 [(0, .ref 1000000), (1, .ref 0), (2, .ref 83), (3, .int (nI (6 * k)))] [] sh M kc ks := by
  intro m
  induction m with
  | zero =>
    intro k t S sh M hm hl hC hS hM hD hk9
    have hn6 := gn6 hl
    refine s_iload_n (q := 19) hX dL_law_18 rfl rfl ?_
    refine s_aload_n (q := 20) hX dL_law_19 rfl rfl ?_
    refine s_slen (q := 21) hX dL_law_20 rfl (by assumption) ?_
    refine s_bipush (q := 23) (v := 6) hX dL_law_21 rfl rfl (by decide) ?_
    refine s_isub (q := 24) hX dL_law_23 rfl rfl ?_
    refine s_icmp_gt_t (q := 27) (r := 1000) hX dL_law_24 rfl rfl ((glaw_gt hn (by omega)).mpr (by omega)) ?_
    refine s_iconst (q := 1001) (v := 1) hX dL_law_1000 rfl rfl ?_
    refine s_iret hX dL_law_1001 (Or.inr ⟨rfl, Or.inr rfl⟩) ⟨rfl, hkc, hks⟩
  | succ m ih =>
    intro k t S sh M hm hl hC hS hM hD hk9
    have hn6 := gn6 hl
    have c6 := hC.1
    have hb9 : 30 * k ≤ 20000 := by omega
    have N9 : ∀ (t : Nat) (S : gA) (sh : List gS) (M : gM), sh.length = 99 → isCls sh t → CLS M t S → isMod sh → MOD M S → S.ok (30 * k + 30) → X 994 [(0, .ref 1000000), (1, .ref 0), (2, .ref 83), (3, .int (nI (6 * k)))] [] sh M kc ks := by
      intro t S sh M q1 q2 q3 q4 q5 q6
      have hx := ih (k + 1) t S sh M (by omega) q1 q2 q3 q4 q5 (by rw [show 30 * (k + 1) = 30 * k + 30 by omega]; exact q6)
      rw [show 6 * (k + 1) = 6 * k + 6 by omega] at hx
      refine s_iinc (q := 997) (v := nI (6 * k + 6)) (lv' := [(0, _), (1, _), (2, _), (3, _)]) hX dL_law_994 rfl rfl (nI_add (6 * k) 6) (Nat.le_of_ble_eq_true rfl) rfl ?_
      refine s_goto (q := 18) hX dL_law_997 rfl ?_
      exact hx
    refine s_iload_n (q := 19) hX dL_law_18 rfl rfl ?_
    refine s_aload_n (q := 20) hX dL_law_19 rfl rfl ?_
    refine s_slen (q := 21) hX dL_law_20 rfl (by assumption) ?_
    refine s_bipush (q := 23) (v := 6) hX dL_law_21 rfl rfl (by decide) ?_
    refine s_isub (q := 24) hX dL_law_23 rfl rfl ?_
    refine s_icmp_gt (q := 27) (r := 1000) hX dL_law_24 rfl rfl (fun c24 => ?_) (fun c24 => ?_)
    · refine s_iconst (q := 1001) (v := 1) hX dL_law_1000 rfl rfl ?_
      refine s_iret hX dL_law_1001 (Or.inr ⟨rfl, Or.inr rfl⟩) ⟨rfl, hkc, hks⟩
    · have hk6 : 6 * k + 6 ≤ n := by
        have := mt (glaw_gt hn (by omega)).mpr c24
        omega
      refine s_aload_n (q := 28) hX dL_law_27 rfl rfl ?_
      refine s_iload_n (q := 29) hX dL_law_28 rfl rfl ?_
      refine s_sald (k := 6 * k) (q := 30) hX dL_law_29 rfl (by assumption) rfl (by omega) (by omega) ?_
      refine s_bipush (q := 32) (v := 31) hX dL_law_30 rfl rfl (by decide) ?_
      refine s_iand (q := 33) hX dL_law_32 rfl rfl ?_
      refine s_table hX dL_law_33 rfl (fun c33 => ?_) ⟨fun c33 => ?_, fun c33 => ?_, fun c33 => ?_, fun c33 => ?_, fun c33 => ?_, fun c33 => ?_, fun c33 => ?_, fun c33 => ?_, fun c33 => ?_, fun c33 => ?_, fun c33 => ?_, fun c33 => ?_, fun c33 => ?_, fun c33 => ?_, fun c33 => ?_, fun c33 => ?_, fun c33 => ?_, fun c33 => ?_, fun c33 => ?_, fun c33 => ?_, fun c33 => ?_, fun c33 => ?_, fun c33 => ?_, fun c33 => ?_, fun c33 => ?_, fun c33 => ?_, fun c33 => ?_, fun c33 => ?_, trivial⟩
      · refine s_to (r := 994) rfl ?_
        exact N9 t S sh M hl hC hS hM hD (gA.ok_up hk9 (by omega))
      · refine s_to (r := 160) rfl ?_
        refine s_aload_n (q := 161) hX dL_law_160 rfl rfl ?_
        refine s_aload_n (q := 162) hX dL_law_161 rfl rfl ?_
        refine s_iload_n (q := 163) hX dL_law_162 rfl rfl ?_
        refine s_iconst (q := 164) (v := 1) hX dL_law_163 rfl rfl ?_
        refine s_iadd (q := 165) (v := nI (6 * k + 1)) hX dL_law_164 rfl (nI_add (6 * k) (1)) ?_
        refine s_sald (k := 6 * k + 1) (q := 166) hX dL_law_165 rfl (by assumption) rfl (by omega) (by omega) ?_
        refine s_invv1_1 (q := 169) hX dL_law_166 rfl glk_8_13 (by assumption) (Nat.le_of_ble_eq_true rfl) ⟨hkc, hks⟩ (by omega) (k_write (d := 29) (by omega) hC hS hk9 hb9 (fun t2 sh2 M2 z1 z2 z3 z4 z5 => ?_)) 
        have z3 : sh2.length = 99 := by rw [z3]; exact hl
        have hM2 := hM.sm z2
        have hD2 := hD.sm z5
        have c7 := hM2.1
        have hn62 := gn6 z3
        refine ⟨_, rfl, ?_⟩
        refine s_aload_n (q := 170) hX dL_law_169 rfl rfl ?_
        refine s_aload_n (q := 171) hX dL_law_170 rfl rfl ?_
        refine s_iload_n (q := 172) hX dL_law_171 rfl rfl ?_
        refine s_iconst (q := 173) (v := 1) hX dL_law_172 rfl rfl ?_
        refine s_iadd (q := 174) (v := nI (6 * k + 1)) hX dL_law_173 rfl (nI_add (6 * k) (1)) ?_
        refine s_sald (k := 6 * k + 1) (q := 175) hX dL_law_174 rfl (by assumption) rfl (by omega) (by omega) ?_
        refine s_invv1_1 (q := 178) hX dL_law_175 rfl glk_8_17 (by assumption) (Nat.le_of_ble_eq_true rfl) ⟨hkc, hks⟩ (by omega) (p_write (d := 29) (by omega) hM2 hD2 hk9 hb9 (fun M3 w1 w2 => ?_)) 
        refine ⟨_, rfl, ?_⟩
        refine s_icmp_eq_t (q := 181) (r := 994) hX dL_law_178 rfl rfl rfl ?_
        exact N9 t2 _ sh2 M3 z3 z1 (CLS.sm z1.2.1 z4 w2) hM2 w1 (ok_write hk9)
      · refine s_to (r := 183) rfl ?_
        refine s_aload_n (q := 184) hX dL_law_183 rfl rfl ?_
        refine s_invv0_1 (q := 187) hX dL_law_184 rfl glk_8_18 (by assumption) (Nat.le_of_ble_eq_true rfl) ⟨hkc, hks⟩ (by omega) (k_wipe (d := 29) (by omega) hC hS hk9 hb9 (fun t2 sh2 M2 z1 z2 z3 z4 z5 => ?_)) 
        have z3 : sh2.length = 99 := by rw [z3]; exact hl
        have hM2 := hM.sm z2
        have hD2 := hD.sm z5
        have c7 := hM2.1
        have hn62 := gn6 z3
        refine ⟨_, rfl, ?_⟩
        refine s_aload_n (q := 188) hX dL_law_187 rfl rfl ?_
        refine s_invv0_1 (q := 191) hX dL_law_188 rfl glk_8_22 (by assumption) (Nat.le_of_ble_eq_true rfl) ⟨hkc, hks⟩ (by omega) (p_wipe (d := 29) (by omega) hM2 hD2 hk9 hb9 (fun M3 w1 w2 => ?_)) 
        refine ⟨_, rfl, ?_⟩
        refine s_icmp_eq_t (q := 194) (r := 994) hX dL_law_191 rfl rfl rfl ?_
        exact N9 t2 _ sh2 M3 z3 z1 (CLS.sm z1.2.1 z4 w2) hM2 w1 (ok_wipe hk9)
      · refine s_to (r := 196) rfl ?_
        refine s_aload_n (q := 197) hX dL_law_196 rfl rfl ?_
        refine s_invv0_1 (q := 200) hX dL_law_197 rfl glk_8_23 (by assumption) (Nat.le_of_ble_eq_true rfl) ⟨hkc, hks⟩ (by omega) (k_fault (d := 29) (by omega) hC hS hk9 hb9 (fun t2 sh2 M2 z1 z2 z3 z4 z5 => ?_)) 
        have z3 : sh2.length = 99 := by rw [z3]; exact hl
        have hM2 := hM.sm z2
        have hD2 := hD.sm z5
        have c7 := hM2.1
        have hn62 := gn6 z3
        refine ⟨_, rfl, ?_⟩
        refine s_aload_n (q := 201) hX dL_law_200 rfl rfl ?_
        refine s_invv0_1 (q := 204) hX dL_law_201 rfl glk_8_26 (by assumption) (Nat.le_of_ble_eq_true rfl) ⟨hkc, hks⟩ (by omega) (p_fault (d := 29) (by omega) hM2 hD2 hk9 hb9 (fun M3 w1 w2 => ?_)) 
        refine ⟨_, rfl, ?_⟩
        refine s_icmp_eq_t (q := 207) (r := 994) hX dL_law_204 rfl rfl rfl ?_
        exact N9 t2 _ sh2 M3 z3 z1 (CLS.sm z1.2.1 z4 w2) hM2 w1 (ok_fault hk9)
      · refine s_to (r := 209) rfl ?_
        refine s_aload_n (q := 210) hX dL_law_209 rfl rfl ?_
        refine s_invv0_1 (q := 213) hX dL_law_210 rfl glk_8_27 (by assumption) (Nat.le_of_ble_eq_true rfl) ⟨hkc, hks⟩ (by omega) (k_lay (d := 29) (by omega) hC hS hk9 hb9 (fun t2 sh2 M2 z1 z2 z3 z4 z5 => ?_)) 
        have z3 : sh2.length = 99 := by rw [z3]; exact hl
        have hM2 := hM.sm z2
        have hD2 := hD.sm z5
        have c7 := hM2.1
        have hn62 := gn6 z3
        refine ⟨_, rfl, ?_⟩
        refine s_aload_n (q := 214) hX dL_law_213 rfl rfl ?_
        refine s_invv0_1 (q := 217) hX dL_law_214 rfl glk_8_30 (by assumption) (Nat.le_of_ble_eq_true rfl) ⟨hkc, hks⟩ (by omega) (p_lay (d := 29) (by omega) hM2 hD2 hk9 hb9 (fun M3 w1 w2 => ?_)) 
        refine ⟨_, rfl, ?_⟩
        refine s_icmp_eq_t (q := 220) (r := 994) hX dL_law_217 rfl rfl rfl ?_
        exact N9 t2 _ sh2 M3 z3 z1 (CLS.sm z1.2.1 z4 w2) hM2 w1 (ok_lay hk9)
      · refine s_to (r := 222) rfl ?_
        refine s_aload_n (q := 223) hX dL_law_222 rfl rfl ?_
        refine s_aload_n (q := 224) hX dL_law_223 rfl rfl ?_
        refine s_iload_n (q := 225) hX dL_law_224 rfl rfl ?_
        refine s_iconst (q := 226) (v := 1) hX dL_law_225 rfl rfl ?_
        refine s_iadd (q := 227) (v := nI (6 * k + 1)) hX dL_law_226 rfl (nI_add (6 * k) (1)) ?_
        refine s_sald (k := 6 * k + 1) (q := 228) hX dL_law_227 rfl (by assumption) rfl (by omega) (by omega) ?_
        refine s_aload_n (q := 229) hX dL_law_228 rfl rfl ?_
        refine s_iload_n (q := 230) hX dL_law_229 rfl rfl ?_
        refine s_iconst (q := 231) (v := 2) hX dL_law_230 rfl rfl ?_
        refine s_iadd (q := 232) (v := nI (6 * k + 2)) hX dL_law_231 rfl (nI_add (6 * k) (2)) ?_
        refine s_sald (k := 6 * k + 2) (q := 233) hX dL_law_232 rfl (by assumption) rfl (by omega) (by omega) ?_
        refine s_invv2_1 (q := 236) hX dL_law_233 rfl glk_8_31 (by assumption) (Nat.le_of_ble_eq_true rfl) ⟨hkc, hks⟩ (by omega) (k_person (d := 29) (by omega) hC hS hk9 hb9 (fun t2 sh2 M2 z1 z2 z3 z4 z5 => ?_)) 
        have z3 : sh2.length = 99 := by rw [z3]; exact hl
        have hM2 := hM.sm z2
        have hD2 := hD.sm z5
        have c7 := hM2.1
        have hn62 := gn6 z3
        refine ⟨_, rfl, ?_⟩
        refine s_aload_n (q := 237) hX dL_law_236 rfl rfl ?_
        refine s_aload_n (q := 238) hX dL_law_237 rfl rfl ?_
        refine s_iload_n (q := 239) hX dL_law_238 rfl rfl ?_
        refine s_iconst (q := 240) (v := 1) hX dL_law_239 rfl rfl ?_
        refine s_iadd (q := 241) (v := nI (6 * k + 1)) hX dL_law_240 rfl (nI_add (6 * k) (1)) ?_
        refine s_sald (k := 6 * k + 1) (q := 242) hX dL_law_241 rfl (by assumption) rfl (by omega) (by omega) ?_
        refine s_aload_n (q := 243) hX dL_law_242 rfl rfl ?_
        refine s_iload_n (q := 244) hX dL_law_243 rfl rfl ?_
        refine s_iconst (q := 245) (v := 2) hX dL_law_244 rfl rfl ?_
        refine s_iadd (q := 246) (v := nI (6 * k + 2)) hX dL_law_245 rfl (nI_add (6 * k) (2)) ?_
        refine s_sald (k := 6 * k + 2) (q := 247) hX dL_law_246 rfl (by assumption) rfl (by omega) (by omega) ?_
        refine s_invv2_1 (q := 250) hX dL_law_247 rfl glk_8_35 (by assumption) (Nat.le_of_ble_eq_true rfl) ⟨hkc, hks⟩ (by omega) (p_person (d := 29) (by omega) hM2 hD2 hk9 hb9 (fun M3 w1 w2 => ?_)) 
        refine ⟨_, rfl, ?_⟩
        refine s_icmp_eq_t (q := 253) (r := 994) hX dL_law_250 rfl rfl rfl ?_
        exact N9 t2 _ sh2 M3 z3 z1 (CLS.sm z1.2.1 z4 w2) hM2 w1 (ok_person hk9)
      · refine s_to (r := 255) rfl ?_
        refine s_aload_n (q := 256) hX dL_law_255 rfl rfl ?_
        refine s_aload_n (q := 257) hX dL_law_256 rfl rfl ?_
        refine s_iload_n (q := 258) hX dL_law_257 rfl rfl ?_
        refine s_iconst (q := 259) (v := 1) hX dL_law_258 rfl rfl ?_
        refine s_iadd (q := 260) (v := nI (6 * k + 1)) hX dL_law_259 rfl (nI_add (6 * k) (1)) ?_
        refine s_sald (k := 6 * k + 1) (q := 261) hX dL_law_260 rfl (by assumption) rfl (by omega) (by omega) ?_
        refine s_aload_n (q := 262) hX dL_law_261 rfl rfl ?_
        refine s_iload_n (q := 263) hX dL_law_262 rfl rfl ?_
        refine s_iconst (q := 264) (v := 2) hX dL_law_263 rfl rfl ?_
        refine s_iadd (q := 265) (v := nI (6 * k + 2)) hX dL_law_264 rfl (nI_add (6 * k) (2)) ?_
        refine s_sald (k := 6 * k + 2) (q := 266) hX dL_law_265 rfl (by assumption) rfl (by omega) (by omega) ?_
        refine s_invv2_1 (q := 269) hX dL_law_266 rfl glk_8_36 (by assumption) (Nat.le_of_ble_eq_true rfl) ⟨hkc, hks⟩ (by omega) (k_deed (d := 29) (by omega) hC hS hk9 hb9 (fun t2 sh2 M2 z1 z2 z3 z4 z5 => ?_)) 
        have z3 : sh2.length = 99 := by rw [z3]; exact hl
        have hM2 := hM.sm z2
        have hD2 := hD.sm z5
        have c7 := hM2.1
        have hn62 := gn6 z3
        refine ⟨_, rfl, ?_⟩
        refine s_aload_n (q := 270) hX dL_law_269 rfl rfl ?_
        refine s_aload_n (q := 271) hX dL_law_270 rfl rfl ?_
        refine s_iload_n (q := 272) hX dL_law_271 rfl rfl ?_
        refine s_iconst (q := 273) (v := 1) hX dL_law_272 rfl rfl ?_
        refine s_iadd (q := 274) (v := nI (6 * k + 1)) hX dL_law_273 rfl (nI_add (6 * k) (1)) ?_
        refine s_sald (k := 6 * k + 1) (q := 275) hX dL_law_274 rfl (by assumption) rfl (by omega) (by omega) ?_
        refine s_aload_n (q := 276) hX dL_law_275 rfl rfl ?_
        refine s_iload_n (q := 277) hX dL_law_276 rfl rfl ?_
        refine s_iconst (q := 278) (v := 2) hX dL_law_277 rfl rfl ?_
        refine s_iadd (q := 279) (v := nI (6 * k + 2)) hX dL_law_278 rfl (nI_add (6 * k) (2)) ?_
        refine s_sald (k := 6 * k + 2) (q := 280) hX dL_law_279 rfl (by assumption) rfl (by omega) (by omega) ?_
        refine s_invv2_1 (q := 283) hX dL_law_280 rfl glk_8_39 (by assumption) (Nat.le_of_ble_eq_true rfl) ⟨hkc, hks⟩ (by omega) (p_deed (d := 29) (by omega) hM2 hD2 hk9 hb9 (fun M3 w1 w2 => ?_)) 
        refine ⟨_, rfl, ?_⟩
        refine s_icmp_eq_t (q := 286) (r := 994) hX dL_law_283 rfl rfl rfl ?_
        exact N9 t2 _ sh2 M3 z3 z1 (CLS.sm z1.2.1 z4 w2) hM2 w1 (ok_deed hk9)
      · refine s_to (r := 288) rfl ?_
        refine s_aload_n (q := 289) hX dL_law_288 rfl rfl ?_
        refine s_aload_n (q := 290) hX dL_law_289 rfl rfl ?_
        refine s_iload_n (q := 291) hX dL_law_290 rfl rfl ?_
        refine s_iconst (q := 292) (v := 1) hX dL_law_291 rfl rfl ?_
        refine s_iadd (q := 293) (v := nI (6 * k + 1)) hX dL_law_292 rfl (nI_add (6 * k) (1)) ?_
        refine s_sald (k := 6 * k + 1) (q := 294) hX dL_law_293 rfl (by assumption) rfl (by omega) (by omega) ?_
        refine s_aload_n (q := 295) hX dL_law_294 rfl rfl ?_
        refine s_iload_n (q := 296) hX dL_law_295 rfl rfl ?_
        refine s_iconst (q := 297) (v := 2) hX dL_law_296 rfl rfl ?_
        refine s_iadd (q := 298) (v := nI (6 * k + 2)) hX dL_law_297 rfl (nI_add (6 * k) (2)) ?_
        refine s_sald (k := 6 * k + 2) (q := 299) hX dL_law_298 rfl (by assumption) rfl (by omega) (by omega) ?_
        refine s_invv2_1 (q := 302) hX dL_law_299 rfl glk_8_40 (by assumption) (Nat.le_of_ble_eq_true rfl) ⟨hkc, hks⟩ (by omega) (k_told (d := 29) (by omega) hC hS hk9 hb9 (fun t2 sh2 M2 z1 z2 z3 z4 z5 => ?_)) 
        have z3 : sh2.length = 99 := by rw [z3]; exact hl
        have hM2 := hM.sm z2
        have hD2 := hD.sm z5
        have c7 := hM2.1
        have hn62 := gn6 z3
        refine ⟨_, rfl, ?_⟩
        refine s_aload_n (q := 303) hX dL_law_302 rfl rfl ?_
        refine s_aload_n (q := 304) hX dL_law_303 rfl rfl ?_
        refine s_iload_n (q := 305) hX dL_law_304 rfl rfl ?_
        refine s_iconst (q := 306) (v := 1) hX dL_law_305 rfl rfl ?_
        refine s_iadd (q := 307) (v := nI (6 * k + 1)) hX dL_law_306 rfl (nI_add (6 * k) (1)) ?_
        refine s_sald (k := 6 * k + 1) (q := 308) hX dL_law_307 rfl (by assumption) rfl (by omega) (by omega) ?_
        refine s_aload_n (q := 309) hX dL_law_308 rfl rfl ?_
        refine s_iload_n (q := 310) hX dL_law_309 rfl rfl ?_
        refine s_iconst (q := 311) (v := 2) hX dL_law_310 rfl rfl ?_
        refine s_iadd (q := 312) (v := nI (6 * k + 2)) hX dL_law_311 rfl (nI_add (6 * k) (2)) ?_
        refine s_sald (k := 6 * k + 2) (q := 313) hX dL_law_312 rfl (by assumption) rfl (by omega) (by omega) ?_
        refine s_invv2_1 (q := 316) hX dL_law_313 rfl glk_8_43 (by assumption) (Nat.le_of_ble_eq_true rfl) ⟨hkc, hks⟩ (by omega) (p_told (d := 29) (by omega) hM2 hD2 hk9 hb9 (fun M3 w1 w2 => ?_)) 
        refine ⟨_, rfl, ?_⟩
        refine s_icmp_eq_t (q := 319) (r := 994) hX dL_law_316 rfl rfl rfl ?_
        exact N9 t2 _ sh2 M3 z3 z1 (CLS.sm z1.2.1 z4 w2) hM2 w1 (ok_told hk9)
      · refine s_to (r := 321) rfl ?_
        refine s_aload_n (q := 322) hX dL_law_321 rfl rfl ?_
        refine s_aload_n (q := 323) hX dL_law_322 rfl rfl ?_
        refine s_iload_n (q := 324) hX dL_law_323 rfl rfl ?_
        refine s_iconst (q := 325) (v := 1) hX dL_law_324 rfl rfl ?_
        refine s_iadd (q := 326) (v := nI (6 * k + 1)) hX dL_law_325 rfl (nI_add (6 * k) (1)) ?_
        refine s_sald (k := 6 * k + 1) (q := 327) hX dL_law_326 rfl (by assumption) rfl (by omega) (by omega) ?_
        refine s_aload_n (q := 328) hX dL_law_327 rfl rfl ?_
        refine s_iload_n (q := 329) hX dL_law_328 rfl rfl ?_
        refine s_iconst (q := 330) (v := 2) hX dL_law_329 rfl rfl ?_
        refine s_iadd (q := 331) (v := nI (6 * k + 2)) hX dL_law_330 rfl (nI_add (6 * k) (2)) ?_
        refine s_sald (k := 6 * k + 2) (q := 332) hX dL_law_331 rfl (by assumption) rfl (by omega) (by omega) ?_
        refine s_invv2_1 (q := 335) hX dL_law_332 rfl glk_8_44 (by assumption) (Nat.le_of_ble_eq_true rfl) ⟨hkc, hks⟩ (by omega) (k_can (d := 29) (by omega) hC hS hk9 hb9 (fun t2 sh2 M2 z1 z2 z3 z4 z5 => ?_)) 
        have z3 : sh2.length = 99 := by rw [z3]; exact hl
        have hM2 := hM.sm z2
        have hD2 := hD.sm z5
        have c7 := hM2.1
        have hn62 := gn6 z3
        refine ⟨_, rfl, ?_⟩
        refine s_aload_n (q := 336) hX dL_law_335 rfl rfl ?_
        refine s_aload_n (q := 337) hX dL_law_336 rfl rfl ?_
        refine s_iload_n (q := 338) hX dL_law_337 rfl rfl ?_
        refine s_iconst (q := 339) (v := 1) hX dL_law_338 rfl rfl ?_
        refine s_iadd (q := 340) (v := nI (6 * k + 1)) hX dL_law_339 rfl (nI_add (6 * k) (1)) ?_
        refine s_sald (k := 6 * k + 1) (q := 341) hX dL_law_340 rfl (by assumption) rfl (by omega) (by omega) ?_
        refine s_aload_n (q := 342) hX dL_law_341 rfl rfl ?_
        refine s_iload_n (q := 343) hX dL_law_342 rfl rfl ?_
        refine s_iconst (q := 344) (v := 2) hX dL_law_343 rfl rfl ?_
        refine s_iadd (q := 345) (v := nI (6 * k + 2)) hX dL_law_344 rfl (nI_add (6 * k) (2)) ?_
        refine s_sald (k := 6 * k + 2) (q := 346) hX dL_law_345 rfl (by assumption) rfl (by omega) (by omega) ?_
        refine s_invv2_1 (q := 349) hX dL_law_346 rfl glk_8_47 (by assumption) (Nat.le_of_ble_eq_true rfl) ⟨hkc, hks⟩ (by omega) (p_can (d := 29) (by omega) hM2 hD2 hk9 hb9 (fun M3 w1 w2 => ?_)) 
        refine ⟨_, rfl, ?_⟩
        refine s_icmp_eq_t (q := 352) (r := 994) hX dL_law_349 rfl rfl rfl ?_
        exact N9 t2 _ sh2 M3 z3 z1 (CLS.sm z1.2.1 z4 w2) hM2 w1 (ok_can hk9)
      · refine s_to (r := 354) rfl ?_
        refine s_aload_n (q := 355) hX dL_law_354 rfl rfl ?_
        refine s_aload_n (q := 356) hX dL_law_355 rfl rfl ?_
        refine s_iload_n (q := 357) hX dL_law_356 rfl rfl ?_
        refine s_iconst (q := 358) (v := 1) hX dL_law_357 rfl rfl ?_
        refine s_iadd (q := 359) (v := nI (6 * k + 1)) hX dL_law_358 rfl (nI_add (6 * k) (1)) ?_
        refine s_sald (k := 6 * k + 1) (q := 360) hX dL_law_359 rfl (by assumption) rfl (by omega) (by omega) ?_
        refine s_invv1_1 (q := 363) hX dL_law_360 rfl glk_8_48 (by assumption) (Nat.le_of_ble_eq_true rfl) ⟨hkc, hks⟩ (by omega) (k_pass (d := 29) (by omega) hC hS hk9 hb9 (fun t2 sh2 M2 z1 z2 z3 z4 z5 => ?_)) 
        have z3 : sh2.length = 99 := by rw [z3]; exact hl
        have hM2 := hM.sm z2
        have hD2 := hD.sm z5
        have c7 := hM2.1
        have hn62 := gn6 z3
        refine ⟨_, rfl, ?_⟩
        refine s_aload_n (q := 364) hX dL_law_363 rfl rfl ?_
        refine s_aload_n (q := 365) hX dL_law_364 rfl rfl ?_
        refine s_iload_n (q := 366) hX dL_law_365 rfl rfl ?_
        refine s_iconst (q := 367) (v := 1) hX dL_law_366 rfl rfl ?_
        refine s_iadd (q := 368) (v := nI (6 * k + 1)) hX dL_law_367 rfl (nI_add (6 * k) (1)) ?_
        refine s_sald (k := 6 * k + 1) (q := 369) hX dL_law_368 rfl (by assumption) rfl (by omega) (by omega) ?_
        refine s_invv1_1 (q := 372) hX dL_law_369 rfl glk_8_51 (by assumption) (Nat.le_of_ble_eq_true rfl) ⟨hkc, hks⟩ (by omega) (p_pass (d := 29) (by omega) hM2 hD2 hk9 hb9 (fun M3 w1 w2 => ?_)) 
        refine ⟨_, rfl, ?_⟩
        refine s_icmp_eq_t (q := 375) (r := 994) hX dL_law_372 rfl rfl rfl ?_
        exact N9 t2 _ sh2 M3 z3 z1 (CLS.sm z1.2.1 z4 w2) hM2 w1 (ok_pass hk9 hb9)
      · refine s_to (r := 377) rfl ?_
        refine s_aload_n (q := 378) hX dL_law_377 rfl rfl ?_
        refine s_aload_n (q := 379) hX dL_law_378 rfl rfl ?_
        refine s_iload_n (q := 380) hX dL_law_379 rfl rfl ?_
        refine s_iconst (q := 381) (v := 1) hX dL_law_380 rfl rfl ?_
        refine s_iadd (q := 382) (v := nI (6 * k + 1)) hX dL_law_381 rfl (nI_add (6 * k) (1)) ?_
        refine s_sald (k := 6 * k + 1) (q := 383) hX dL_law_382 rfl (by assumption) rfl (by omega) (by omega) ?_
        refine s_aload_n (q := 384) hX dL_law_383 rfl rfl ?_
        refine s_iload_n (q := 385) hX dL_law_384 rfl rfl ?_
        refine s_iconst (q := 386) (v := 2) hX dL_law_385 rfl rfl ?_
        refine s_iadd (q := 387) (v := nI (6 * k + 2)) hX dL_law_386 rfl (nI_add (6 * k) (2)) ?_
        refine s_sald (k := 6 * k + 2) (q := 388) hX dL_law_387 rfl (by assumption) rfl (by omega) (by omega) ?_
        refine s_invv2_1 (q := 391) hX dL_law_388 rfl glk_8_52 (by assumption) (Nat.le_of_ble_eq_true rfl) ⟨hkc, hks⟩ (by omega) (k_act (d := 29) (by omega) hC hS hk9 hb9 (fun t2 sh2 M2 z1 z2 z3 z4 z5 => ?_)) 
        have z3 : sh2.length = 99 := by rw [z3]; exact hl
        have hM2 := hM.sm z2
        have hD2 := hD.sm z5
        have c7 := hM2.1
        have hn62 := gn6 z3
        refine ⟨_, rfl, ?_⟩
        refine s_aload_n (q := 392) hX dL_law_391 rfl rfl ?_
        refine s_aload_n (q := 393) hX dL_law_392 rfl rfl ?_
        refine s_iload_n (q := 394) hX dL_law_393 rfl rfl ?_
        refine s_iconst (q := 395) (v := 1) hX dL_law_394 rfl rfl ?_
        refine s_iadd (q := 396) (v := nI (6 * k + 1)) hX dL_law_395 rfl (nI_add (6 * k) (1)) ?_
        refine s_sald (k := 6 * k + 1) (q := 397) hX dL_law_396 rfl (by assumption) rfl (by omega) (by omega) ?_
        refine s_aload_n (q := 398) hX dL_law_397 rfl rfl ?_
        refine s_iload_n (q := 399) hX dL_law_398 rfl rfl ?_
        refine s_iconst (q := 400) (v := 2) hX dL_law_399 rfl rfl ?_
        refine s_iadd (q := 401) (v := nI (6 * k + 2)) hX dL_law_400 rfl (nI_add (6 * k) (2)) ?_
        refine s_sald (k := 6 * k + 2) (q := 402) hX dL_law_401 rfl (by assumption) rfl (by omega) (by omega) ?_
        refine s_invv2_1 (q := 405) hX dL_law_402 rfl glk_8_55 (by assumption) (Nat.le_of_ble_eq_true rfl) ⟨hkc, hks⟩ (by omega) (p_act (d := 29) (by omega) hM2 hD2 hk9 hb9 (fun M3 w1 w2 => ?_)) 
        refine ⟨_, rfl, ?_⟩
        refine s_icmp_eq_t (q := 408) (r := 994) hX dL_law_405 rfl rfl rfl ?_
        exact N9 t2 _ sh2 M3 z3 z1 (CLS.sm z1.2.1 z4 w2) hM2 w1 (ok_act hk9)
      · refine s_to (r := 410) rfl ?_
        refine s_aload_n (q := 411) hX dL_law_410 rfl rfl ?_
        refine s_aload_n (q := 412) hX dL_law_411 rfl rfl ?_
        refine s_iload_n (q := 413) hX dL_law_412 rfl rfl ?_
        refine s_iconst (q := 414) (v := 1) hX dL_law_413 rfl rfl ?_
        refine s_iadd (q := 415) (v := nI (6 * k + 1)) hX dL_law_414 rfl (nI_add (6 * k) (1)) ?_
        refine s_sald (k := 6 * k + 1) (q := 416) hX dL_law_415 rfl (by assumption) rfl (by omega) (by omega) ?_
        refine s_aload_n (q := 417) hX dL_law_416 rfl rfl ?_
        refine s_iload_n (q := 418) hX dL_law_417 rfl rfl ?_
        refine s_iconst (q := 419) (v := 2) hX dL_law_418 rfl rfl ?_
        refine s_iadd (q := 420) (v := nI (6 * k + 2)) hX dL_law_419 rfl (nI_add (6 * k) (2)) ?_
        refine s_sald (k := 6 * k + 2) (q := 421) hX dL_law_420 rfl (by assumption) rfl (by omega) (by omega) ?_
        refine s_aload_n (q := 422) hX dL_law_421 rfl rfl ?_
        refine s_iload_n (q := 423) hX dL_law_422 rfl rfl ?_
        refine s_iconst (q := 424) (v := 3) hX dL_law_423 rfl rfl ?_
        refine s_iadd (q := 425) (v := nI (6 * k + 3)) hX dL_law_424 rfl (nI_add (6 * k) (3)) ?_
        refine s_sald (k := 6 * k + 3) (q := 426) hX dL_law_425 rfl (by assumption) rfl (by omega) (by omega) ?_
        refine s_aload_n (q := 427) hX dL_law_426 rfl rfl ?_
        refine s_iload_n (q := 428) hX dL_law_427 rfl rfl ?_
        refine s_iconst (q := 429) (v := 4) hX dL_law_428 rfl rfl ?_
        refine s_iadd (q := 430) (v := nI (6 * k + 4)) hX dL_law_429 rfl (nI_add (6 * k) (4)) ?_
        refine s_sald (k := 6 * k + 4) (q := 431) hX dL_law_430 rfl (by assumption) rfl (by omega) (by omega) ?_
        refine s_invv4_1 (q := 434) hX dL_law_431 rfl glk_8_56 (by assumption) (Nat.le_of_ble_eq_true rfl) ⟨hkc, hks⟩ (by omega) (k_lend (d := 29) (by omega) hC hS hk9 hb9 (fun t2 sh2 M2 z1 z2 z3 z4 z5 => ?_)) 
        have z3 : sh2.length = 99 := by rw [z3]; exact hl
        have hM2 := hM.sm z2
        have hD2 := hD.sm z5
        have c7 := hM2.1
        have hn62 := gn6 z3
        refine ⟨_, rfl, ?_⟩
        refine s_aload_n (q := 435) hX dL_law_434 rfl rfl ?_
        refine s_aload_n (q := 436) hX dL_law_435 rfl rfl ?_
        refine s_iload_n (q := 437) hX dL_law_436 rfl rfl ?_
        refine s_iconst (q := 438) (v := 1) hX dL_law_437 rfl rfl ?_
        refine s_iadd (q := 439) (v := nI (6 * k + 1)) hX dL_law_438 rfl (nI_add (6 * k) (1)) ?_
        refine s_sald (k := 6 * k + 1) (q := 440) hX dL_law_439 rfl (by assumption) rfl (by omega) (by omega) ?_
        refine s_aload_n (q := 441) hX dL_law_440 rfl rfl ?_
        refine s_iload_n (q := 442) hX dL_law_441 rfl rfl ?_
        refine s_iconst (q := 443) (v := 2) hX dL_law_442 rfl rfl ?_
        refine s_iadd (q := 444) (v := nI (6 * k + 2)) hX dL_law_443 rfl (nI_add (6 * k) (2)) ?_
        refine s_sald (k := 6 * k + 2) (q := 445) hX dL_law_444 rfl (by assumption) rfl (by omega) (by omega) ?_
        refine s_aload_n (q := 446) hX dL_law_445 rfl rfl ?_
        refine s_iload_n (q := 447) hX dL_law_446 rfl rfl ?_
        refine s_iconst (q := 448) (v := 3) hX dL_law_447 rfl rfl ?_
        refine s_iadd (q := 449) (v := nI (6 * k + 3)) hX dL_law_448 rfl (nI_add (6 * k) (3)) ?_
        refine s_sald (k := 6 * k + 3) (q := 450) hX dL_law_449 rfl (by assumption) rfl (by omega) (by omega) ?_
        refine s_aload_n (q := 451) hX dL_law_450 rfl rfl ?_
        refine s_iload_n (q := 452) hX dL_law_451 rfl rfl ?_
        refine s_iconst (q := 453) (v := 4) hX dL_law_452 rfl rfl ?_
        refine s_iadd (q := 454) (v := nI (6 * k + 4)) hX dL_law_453 rfl (nI_add (6 * k) (4)) ?_
        refine s_sald (k := 6 * k + 4) (q := 455) hX dL_law_454 rfl (by assumption) rfl (by omega) (by omega) ?_
        refine s_invv4_1 (q := 458) hX dL_law_455 rfl glk_8_60 (by assumption) (Nat.le_of_ble_eq_true rfl) ⟨hkc, hks⟩ (by omega) (p_lend (d := 29) (by omega) hM2 hD2 hk9 hb9 (fun M3 w1 w2 => ?_)) 
        refine ⟨_, rfl, ?_⟩
        refine s_icmp_eq_t (q := 461) (r := 994) hX dL_law_458 rfl rfl rfl ?_
        exact N9 t2 _ sh2 M3 z3 z1 (CLS.sm z1.2.1 z4 w2) hM2 w1 (ok_lend hk9)
      · refine s_to (r := 463) rfl ?_
        refine s_aload_n (q := 464) hX dL_law_463 rfl rfl ?_
        refine s_aload_n (q := 465) hX dL_law_464 rfl rfl ?_
        refine s_iload_n (q := 466) hX dL_law_465 rfl rfl ?_
        refine s_iconst (q := 467) (v := 1) hX dL_law_466 rfl rfl ?_
        refine s_iadd (q := 468) (v := nI (6 * k + 1)) hX dL_law_467 rfl (nI_add (6 * k) (1)) ?_
        refine s_sald (k := 6 * k + 1) (q := 469) hX dL_law_468 rfl (by assumption) rfl (by omega) (by omega) ?_
        refine s_aload_n (q := 470) hX dL_law_469 rfl rfl ?_
        refine s_iload_n (q := 471) hX dL_law_470 rfl rfl ?_
        refine s_iconst (q := 472) (v := 2) hX dL_law_471 rfl rfl ?_
        refine s_iadd (q := 473) (v := nI (6 * k + 2)) hX dL_law_472 rfl (nI_add (6 * k) (2)) ?_
        refine s_sald (k := 6 * k + 2) (q := 474) hX dL_law_473 rfl (by assumption) rfl (by omega) (by omega) ?_
        refine s_aload_n (q := 475) hX dL_law_474 rfl rfl ?_
        refine s_iload_n (q := 476) hX dL_law_475 rfl rfl ?_
        refine s_iconst (q := 477) (v := 3) hX dL_law_476 rfl rfl ?_
        refine s_iadd (q := 478) (v := nI (6 * k + 3)) hX dL_law_477 rfl (nI_add (6 * k) (3)) ?_
        refine s_sald (k := 6 * k + 3) (q := 479) hX dL_law_478 rfl (by assumption) rfl (by omega) (by omega) ?_
        refine s_invv3_1 (q := 482) hX dL_law_479 rfl glk_8_61 (by assumption) (Nat.le_of_ble_eq_true rfl) ⟨hkc, hks⟩ (by omega) (k_sell (d := 29) (by omega) hC hS hk9 hb9 (fun t2 sh2 M2 z1 z2 z3 z4 z5 => ?_)) 
        have z3 : sh2.length = 99 := by rw [z3]; exact hl
        have hM2 := hM.sm z2
        have hD2 := hD.sm z5
        have c7 := hM2.1
        have hn62 := gn6 z3
        refine ⟨_, rfl, ?_⟩
        refine s_aload_n (q := 483) hX dL_law_482 rfl rfl ?_
        refine s_aload_n (q := 484) hX dL_law_483 rfl rfl ?_
        refine s_iload_n (q := 485) hX dL_law_484 rfl rfl ?_
        refine s_iconst (q := 486) (v := 1) hX dL_law_485 rfl rfl ?_
        refine s_iadd (q := 487) (v := nI (6 * k + 1)) hX dL_law_486 rfl (nI_add (6 * k) (1)) ?_
        refine s_sald (k := 6 * k + 1) (q := 488) hX dL_law_487 rfl (by assumption) rfl (by omega) (by omega) ?_
        refine s_aload_n (q := 489) hX dL_law_488 rfl rfl ?_
        refine s_iload_n (q := 490) hX dL_law_489 rfl rfl ?_
        refine s_iconst (q := 491) (v := 2) hX dL_law_490 rfl rfl ?_
        refine s_iadd (q := 492) (v := nI (6 * k + 2)) hX dL_law_491 rfl (nI_add (6 * k) (2)) ?_
        refine s_sald (k := 6 * k + 2) (q := 493) hX dL_law_492 rfl (by assumption) rfl (by omega) (by omega) ?_
        refine s_aload_n (q := 494) hX dL_law_493 rfl rfl ?_
        refine s_iload_n (q := 495) hX dL_law_494 rfl rfl ?_
        refine s_iconst (q := 496) (v := 3) hX dL_law_495 rfl rfl ?_
        refine s_iadd (q := 497) (v := nI (6 * k + 3)) hX dL_law_496 rfl (nI_add (6 * k) (3)) ?_
        refine s_sald (k := 6 * k + 3) (q := 498) hX dL_law_497 rfl (by assumption) rfl (by omega) (by omega) ?_
        refine s_invv3_1 (q := 501) hX dL_law_498 rfl glk_8_65 (by assumption) (Nat.le_of_ble_eq_true rfl) ⟨hkc, hks⟩ (by omega) (p_sell (d := 29) (by omega) hM2 hD2 hk9 hb9 (fun M3 w1 w2 => ?_)) 
        refine ⟨_, rfl, ?_⟩
        refine s_icmp_eq_t (q := 504) (r := 994) hX dL_law_501 rfl rfl rfl ?_
        exact N9 t2 _ sh2 M3 z3 z1 (CLS.sm z1.2.1 z4 w2) hM2 w1 (ok_sell hk9)
      · refine s_to (r := 506) rfl ?_
        refine s_aload_n (q := 507) hX dL_law_506 rfl rfl ?_
        refine s_aload_n (q := 508) hX dL_law_507 rfl rfl ?_
        refine s_iload_n (q := 509) hX dL_law_508 rfl rfl ?_
        refine s_iconst (q := 510) (v := 1) hX dL_law_509 rfl rfl ?_
        refine s_iadd (q := 511) (v := nI (6 * k + 1)) hX dL_law_510 rfl (nI_add (6 * k) (1)) ?_
        refine s_sald (k := 6 * k + 1) (q := 512) hX dL_law_511 rfl (by assumption) rfl (by omega) (by omega) ?_
        refine s_aload_n (q := 513) hX dL_law_512 rfl rfl ?_
        refine s_iload_n (q := 514) hX dL_law_513 rfl rfl ?_
        refine s_iconst (q := 515) (v := 2) hX dL_law_514 rfl rfl ?_
        refine s_iadd (q := 516) (v := nI (6 * k + 2)) hX dL_law_515 rfl (nI_add (6 * k) (2)) ?_
        refine s_sald (k := 6 * k + 2) (q := 517) hX dL_law_516 rfl (by assumption) rfl (by omega) (by omega) ?_
        refine s_invv2_1 (q := 520) hX dL_law_517 rfl glk_8_66 (by assumption) (Nat.le_of_ble_eq_true rfl) ⟨hkc, hks⟩ (by omega) (k_levy (d := 29) (by omega) hC hS hk9 hb9 (fun t2 sh2 M2 z1 z2 z3 z4 z5 => ?_)) 
        have z3 : sh2.length = 99 := by rw [z3]; exact hl
        have hM2 := hM.sm z2
        have hD2 := hD.sm z5
        have c7 := hM2.1
        have hn62 := gn6 z3
        refine ⟨_, rfl, ?_⟩
        refine s_aload_n (q := 521) hX dL_law_520 rfl rfl ?_
        refine s_aload_n (q := 522) hX dL_law_521 rfl rfl ?_
        refine s_iload_n (q := 523) hX dL_law_522 rfl rfl ?_
        refine s_iconst (q := 524) (v := 1) hX dL_law_523 rfl rfl ?_
        refine s_iadd (q := 525) (v := nI (6 * k + 1)) hX dL_law_524 rfl (nI_add (6 * k) (1)) ?_
        refine s_sald (k := 6 * k + 1) (q := 526) hX dL_law_525 rfl (by assumption) rfl (by omega) (by omega) ?_
        refine s_aload_n (q := 527) hX dL_law_526 rfl rfl ?_
        refine s_iload_n (q := 528) hX dL_law_527 rfl rfl ?_
        refine s_iconst (q := 529) (v := 2) hX dL_law_528 rfl rfl ?_
        refine s_iadd (q := 530) (v := nI (6 * k + 2)) hX dL_law_529 rfl (nI_add (6 * k) (2)) ?_
        refine s_sald (k := 6 * k + 2) (q := 531) hX dL_law_530 rfl (by assumption) rfl (by omega) (by omega) ?_
        refine s_invv2_1 (q := 534) hX dL_law_531 rfl glk_8_69 (by assumption) (Nat.le_of_ble_eq_true rfl) ⟨hkc, hks⟩ (by omega) (p_levy (d := 29) (by omega) hM2 hD2 hk9 hb9 (fun M3 w1 w2 => ?_)) 
        refine ⟨_, rfl, ?_⟩
        refine s_icmp_eq_t (q := 537) (r := 994) hX dL_law_534 rfl rfl rfl ?_
        exact N9 t2 _ sh2 M3 z3 z1 (CLS.sm z1.2.1 z4 w2) hM2 w1 (ok_levy hk9)
      · refine s_to (r := 539) rfl ?_
        refine s_aload_n (q := 540) hX dL_law_539 rfl rfl ?_
        refine s_invv0_1 (q := 543) hX dL_law_540 rfl glk_8_70 (by assumption) (Nat.le_of_ble_eq_true rfl) ⟨hkc, hks⟩ (by omega) (k_undo (d := 29) (by omega) hC hS hk9 hb9 (fun t2 sh2 M2 z1 z2 z3 z4 z5 => ?_)) 
        have z3 : sh2.length = 99 := by rw [z3]; exact hl
        have hM2 := hM.sm z2
        have hD2 := hD.sm z5
        have c7 := hM2.1
        have hn62 := gn6 z3
        refine ⟨_, rfl, ?_⟩
        refine s_aload_n (q := 544) hX dL_law_543 rfl rfl ?_
        refine s_invv0_1 (q := 547) hX dL_law_544 rfl glk_8_73 (by assumption) (Nat.le_of_ble_eq_true rfl) ⟨hkc, hks⟩ (by omega) (p_undo (d := 29) (by omega) hM2 hD2 hk9 hb9 (fun M3 w1 w2 => ?_)) 
        refine ⟨_, rfl, ?_⟩
        refine s_icmp_eq_t (q := 550) (r := 994) hX dL_law_547 rfl rfl rfl ?_
        exact N9 t2 _ sh2 M3 z3 z1 (CLS.sm z1.2.1 z4 w2) hM2 w1 (ok_undo hk9)
      · refine s_to (r := 552) rfl ?_
        refine s_aload_n (q := 553) hX dL_law_552 rfl rfl ?_
        refine s_aload_n (q := 554) hX dL_law_553 rfl rfl ?_
        refine s_iload_n (q := 555) hX dL_law_554 rfl rfl ?_
        refine s_iconst (q := 556) (v := 1) hX dL_law_555 rfl rfl ?_
        refine s_iadd (q := 557) (v := nI (6 * k + 1)) hX dL_law_556 rfl (nI_add (6 * k) (1)) ?_
        refine s_sald (k := 6 * k + 1) (q := 558) hX dL_law_557 rfl (by assumption) rfl (by omega) (by omega) ?_
        refine s_aload_n (q := 559) hX dL_law_558 rfl rfl ?_
        refine s_iload_n (q := 560) hX dL_law_559 rfl rfl ?_
        refine s_iconst (q := 561) (v := 2) hX dL_law_560 rfl rfl ?_
        refine s_iadd (q := 562) (v := nI (6 * k + 2)) hX dL_law_561 rfl (nI_add (6 * k) (2)) ?_
        refine s_sald (k := 6 * k + 2) (q := 563) hX dL_law_562 rfl (by assumption) rfl (by omega) (by omega) ?_
        refine s_aload_n (q := 564) hX dL_law_563 rfl rfl ?_
        refine s_iload_n (q := 565) hX dL_law_564 rfl rfl ?_
        refine s_iconst (q := 566) (v := 3) hX dL_law_565 rfl rfl ?_
        refine s_iadd (q := 567) (v := nI (6 * k + 3)) hX dL_law_566 rfl (nI_add (6 * k) (3)) ?_
        refine s_sald (k := 6 * k + 3) (q := 568) hX dL_law_567 rfl (by assumption) rfl (by omega) (by omega) ?_
        refine s_invv3_1 (q := 571) hX dL_law_568 rfl glk_8_74 (by assumption) (Nat.le_of_ble_eq_true rfl) ⟨hkc, hks⟩ (by omega) (k_behind (d := 29) (by omega) hC hS hk9 hb9 (fun t2 sh2 M2 z1 z2 z3 z4 z5 => ?_)) 
        have z3 : sh2.length = 99 := by rw [z3]; exact hl
        have hM2 := hM.sm z2
        have hD2 := hD.sm z5
        have c7 := hM2.1
        have hn62 := gn6 z3
        refine ⟨_, rfl, ?_⟩
        refine s_aload_n (q := 572) hX dL_law_571 rfl rfl ?_
        refine s_aload_n (q := 573) hX dL_law_572 rfl rfl ?_
        refine s_iload_n (q := 574) hX dL_law_573 rfl rfl ?_
        refine s_iconst (q := 575) (v := 1) hX dL_law_574 rfl rfl ?_
        refine s_iadd (q := 576) (v := nI (6 * k + 1)) hX dL_law_575 rfl (nI_add (6 * k) (1)) ?_
        refine s_sald (k := 6 * k + 1) (q := 577) hX dL_law_576 rfl (by assumption) rfl (by omega) (by omega) ?_
        refine s_aload_n (q := 578) hX dL_law_577 rfl rfl ?_
        refine s_iload_n (q := 579) hX dL_law_578 rfl rfl ?_
        refine s_iconst (q := 580) (v := 2) hX dL_law_579 rfl rfl ?_
        refine s_iadd (q := 581) (v := nI (6 * k + 2)) hX dL_law_580 rfl (nI_add (6 * k) (2)) ?_
        refine s_sald (k := 6 * k + 2) (q := 582) hX dL_law_581 rfl (by assumption) rfl (by omega) (by omega) ?_
        refine s_aload_n (q := 583) hX dL_law_582 rfl rfl ?_
        refine s_iload_n (q := 584) hX dL_law_583 rfl rfl ?_
        refine s_iconst (q := 585) (v := 3) hX dL_law_584 rfl rfl ?_
        refine s_iadd (q := 586) (v := nI (6 * k + 3)) hX dL_law_585 rfl (nI_add (6 * k) (3)) ?_
        refine s_sald (k := 6 * k + 3) (q := 587) hX dL_law_586 rfl (by assumption) rfl (by omega) (by omega) ?_
        refine s_invv3_1 (q := 590) hX dL_law_587 rfl glk_8_77 (by assumption) (Nat.le_of_ble_eq_true rfl) ⟨hkc, hks⟩ (by omega) (p_behind (d := 29) (by omega) hM2 hD2 hk9 hb9 (fun M3 w1 w2 => ?_)) 
        refine ⟨_, rfl, ?_⟩
        refine s_icmp_eq_t (q := 593) (r := 994) hX dL_law_590 rfl rfl rfl ?_
        exact N9 t2 _ sh2 M3 z3 z1 (CLS.sm z1.2.1 z4 w2) hM2 w1 (ok_behind hk9)
      · refine s_to (r := 595) rfl ?_
        refine s_aload_n (q := 596) hX dL_law_595 rfl rfl ?_
        refine s_aload_n (q := 597) hX dL_law_596 rfl rfl ?_
        refine s_iload_n (q := 598) hX dL_law_597 rfl rfl ?_
        refine s_iconst (q := 599) (v := 1) hX dL_law_598 rfl rfl ?_
        refine s_iadd (q := 600) (v := nI (6 * k + 1)) hX dL_law_599 rfl (nI_add (6 * k) (1)) ?_
        refine s_sald (k := 6 * k + 1) (q := 601) hX dL_law_600 rfl (by assumption) rfl (by omega) (by omega) ?_
        refine s_invv1_1 (q := 604) hX dL_law_601 rfl glk_8_78 (by assumption) (Nat.le_of_ble_eq_true rfl) ⟨hkc, hks⟩ (by omega) (k_grey (d := 29) (by omega) hC hS hk9 hb9 (fun t2 sh2 M2 z1 z2 z3 z4 z5 => ?_)) 
        have z3 : sh2.length = 99 := by rw [z3]; exact hl
        have hM2 := hM.sm z2
        have hD2 := hD.sm z5
        have c7 := hM2.1
        have hn62 := gn6 z3
        refine ⟨_, rfl, ?_⟩
        refine s_aload_n (q := 605) hX dL_law_604 rfl rfl ?_
        refine s_aload_n (q := 606) hX dL_law_605 rfl rfl ?_
        refine s_iload_n (q := 607) hX dL_law_606 rfl rfl ?_
        refine s_iconst (q := 608) (v := 1) hX dL_law_607 rfl rfl ?_
        refine s_iadd (q := 609) (v := nI (6 * k + 1)) hX dL_law_608 rfl (nI_add (6 * k) (1)) ?_
        refine s_sald (k := 6 * k + 1) (q := 610) hX dL_law_609 rfl (by assumption) rfl (by omega) (by omega) ?_
        refine s_invv1_1 (q := 613) hX dL_law_610 rfl glk_8_81 (by assumption) (Nat.le_of_ble_eq_true rfl) ⟨hkc, hks⟩ (by omega) (p_grey (d := 29) (by omega) hM2 hD2 hk9 hb9 (fun M3 w1 w2 => ?_)) 
        refine ⟨_, rfl, ?_⟩
        refine s_icmp_eq_t (q := 616) (r := 994) hX dL_law_613 rfl rfl rfl ?_
        exact N9 t2 _ sh2 M3 z3 z1 (CLS.sm z1.2.1 z4 w2) hM2 w1 (ok_grey hk9)
      · refine s_to (r := 618) rfl ?_
        refine s_aload_n (q := 619) hX dL_law_618 rfl rfl ?_
        refine s_aload_n (q := 620) hX dL_law_619 rfl rfl ?_
        refine s_iload_n (q := 621) hX dL_law_620 rfl rfl ?_
        refine s_iconst (q := 622) (v := 1) hX dL_law_621 rfl rfl ?_
        refine s_iadd (q := 623) (v := nI (6 * k + 1)) hX dL_law_622 rfl (nI_add (6 * k) (1)) ?_
        refine s_sald (k := 6 * k + 1) (q := 624) hX dL_law_623 rfl (by assumption) rfl (by omega) (by omega) ?_
        refine s_aload_n (q := 625) hX dL_law_624 rfl rfl ?_
        refine s_iload_n (q := 626) hX dL_law_625 rfl rfl ?_
        refine s_iconst (q := 627) (v := 2) hX dL_law_626 rfl rfl ?_
        refine s_iadd (q := 628) (v := nI (6 * k + 2)) hX dL_law_627 rfl (nI_add (6 * k) (2)) ?_
        refine s_sald (k := 6 * k + 2) (q := 629) hX dL_law_628 rfl (by assumption) rfl (by omega) (by omega) ?_
        refine s_invv2_1 (q := 632) hX dL_law_629 rfl glk_8_82 (by assumption) (Nat.le_of_ble_eq_true rfl) ⟨hkc, hks⟩ (by omega) (k_best (d := 29) (by omega) hC hS hk9 hb9 (fun t2 sh2 M2 z1 z2 z3 z4 z5 => ?_)) 
        have z3 : sh2.length = 99 := by rw [z3]; exact hl
        have hM2 := hM.sm z2
        have hD2 := hD.sm z5
        have c7 := hM2.1
        have hn62 := gn6 z3
        refine ⟨_, rfl, ?_⟩
        refine s_aload_n (q := 633) hX dL_law_632 rfl rfl ?_
        refine s_aload_n (q := 634) hX dL_law_633 rfl rfl ?_
        refine s_iload_n (q := 635) hX dL_law_634 rfl rfl ?_
        refine s_iconst (q := 636) (v := 1) hX dL_law_635 rfl rfl ?_
        refine s_iadd (q := 637) (v := nI (6 * k + 1)) hX dL_law_636 rfl (nI_add (6 * k) (1)) ?_
        refine s_sald (k := 6 * k + 1) (q := 638) hX dL_law_637 rfl (by assumption) rfl (by omega) (by omega) ?_
        refine s_aload_n (q := 639) hX dL_law_638 rfl rfl ?_
        refine s_iload_n (q := 640) hX dL_law_639 rfl rfl ?_
        refine s_iconst (q := 641) (v := 2) hX dL_law_640 rfl rfl ?_
        refine s_iadd (q := 642) (v := nI (6 * k + 2)) hX dL_law_641 rfl (nI_add (6 * k) (2)) ?_
        refine s_sald (k := 6 * k + 2) (q := 643) hX dL_law_642 rfl (by assumption) rfl (by omega) (by omega) ?_
        refine s_invv2_1 (q := 646) hX dL_law_643 rfl glk_8_85 (by assumption) (Nat.le_of_ble_eq_true rfl) ⟨hkc, hks⟩ (by omega) (p_best (d := 29) (by omega) hM2 hD2 hk9 hb9 (fun M3 w1 w2 => ?_)) 
        refine ⟨_, rfl, ?_⟩
        refine s_icmp_eq_t (q := 649) (r := 994) hX dL_law_646 rfl rfl rfl ?_
        exact N9 t2 _ sh2 M3 z3 z1 (CLS.sm z1.2.1 z4 w2) hM2 w1 (ok_best hk9)
      · refine s_to (r := 651) rfl ?_
        refine s_aload_n (q := 652) hX dL_law_651 rfl rfl ?_
        refine s_invv0_1 (q := 655) hX dL_law_652 rfl glk_8_86 (by assumption) (Nat.le_of_ble_eq_true rfl) ⟨hkc, hks⟩ (by omega) (k_lending (d := 29) (by omega) hC hS hk9 hb9 (fun t2 sh2 M2 z1 z2 z3 z4 z5 => ?_)) 
        have z3 : sh2.length = 99 := by rw [z3]; exact hl
        have hM2 := hM.sm z2
        have hD2 := hD.sm z5
        have c7 := hM2.1
        have hn62 := gn6 z3
        refine ⟨_, rfl, ?_⟩
        refine s_aload_n (q := 656) hX dL_law_655 rfl rfl ?_
        refine s_invv0_1 (q := 659) hX dL_law_656 rfl glk_8_89 (by assumption) (Nat.le_of_ble_eq_true rfl) ⟨hkc, hks⟩ (by omega) (p_lending (d := 29) (by omega) hM2 hD2 hk9 hb9 (fun M3 w1 w2 => ?_)) 
        refine ⟨_, rfl, ?_⟩
        refine s_icmp_eq_t (q := 662) (r := 994) hX dL_law_659 rfl rfl rfl ?_
        exact N9 t2 _ sh2 M3 z3 z1 (CLS.sm z1.2.1 z4 w2) hM2 w1 (ok_lending hk9)
      · refine s_to (r := 664) rfl ?_
        refine s_aload_n (q := 665) hX dL_law_664 rfl rfl ?_
        refine s_aload_n (q := 666) hX dL_law_665 rfl rfl ?_
        refine s_iload_n (q := 667) hX dL_law_666 rfl rfl ?_
        refine s_iconst (q := 668) (v := 1) hX dL_law_667 rfl rfl ?_
        refine s_iadd (q := 669) (v := nI (6 * k + 1)) hX dL_law_668 rfl (nI_add (6 * k) (1)) ?_
        refine s_sald (k := 6 * k + 1) (q := 670) hX dL_law_669 rfl (by assumption) rfl (by omega) (by omega) ?_
        refine s_aload_n (q := 671) hX dL_law_670 rfl rfl ?_
        refine s_iload_n (q := 672) hX dL_law_671 rfl rfl ?_
        refine s_iconst (q := 673) (v := 2) hX dL_law_672 rfl rfl ?_
        refine s_iadd (q := 674) (v := nI (6 * k + 2)) hX dL_law_673 rfl (nI_add (6 * k) (2)) ?_
        refine s_sald (k := 6 * k + 2) (q := 675) hX dL_law_674 rfl (by assumption) rfl (by omega) (by omega) ?_
        refine s_aload_n (q := 676) hX dL_law_675 rfl rfl ?_
        refine s_iload_n (q := 677) hX dL_law_676 rfl rfl ?_
        refine s_iconst (q := 678) (v := 3) hX dL_law_677 rfl rfl ?_
        refine s_iadd (q := 679) (v := nI (6 * k + 3)) hX dL_law_678 rfl (nI_add (6 * k) (3)) ?_
        refine s_sald (k := 6 * k + 3) (q := 680) hX dL_law_679 rfl (by assumption) rfl (by omega) (by omega) ?_
        refine s_invv3_1 (q := 683) hX dL_law_680 rfl glk_8_90 (by assumption) (Nat.le_of_ble_eq_true rfl) ⟨hkc, hks⟩ (by omega) (k_heap (d := 29) (by omega) hC hS hk9 hb9 (fun t2 sh2 M2 z1 z2 z3 z4 z5 => ?_)) 
        have z3 : sh2.length = 99 := by rw [z3]; exact hl
        have hM2 := hM.sm z2
        have hD2 := hD.sm z5
        have c7 := hM2.1
        have hn62 := gn6 z3
        refine ⟨_, rfl, ?_⟩
        refine s_aload_n (q := 684) hX dL_law_683 rfl rfl ?_
        refine s_aload_n (q := 685) hX dL_law_684 rfl rfl ?_
        refine s_iload_n (q := 686) hX dL_law_685 rfl rfl ?_
        refine s_iconst (q := 687) (v := 1) hX dL_law_686 rfl rfl ?_
        refine s_iadd (q := 688) (v := nI (6 * k + 1)) hX dL_law_687 rfl (nI_add (6 * k) (1)) ?_
        refine s_sald (k := 6 * k + 1) (q := 689) hX dL_law_688 rfl (by assumption) rfl (by omega) (by omega) ?_
        refine s_aload_n (q := 690) hX dL_law_689 rfl rfl ?_
        refine s_iload_n (q := 691) hX dL_law_690 rfl rfl ?_
        refine s_iconst (q := 692) (v := 2) hX dL_law_691 rfl rfl ?_
        refine s_iadd (q := 693) (v := nI (6 * k + 2)) hX dL_law_692 rfl (nI_add (6 * k) (2)) ?_
        refine s_sald (k := 6 * k + 2) (q := 694) hX dL_law_693 rfl (by assumption) rfl (by omega) (by omega) ?_
        refine s_aload_n (q := 695) hX dL_law_694 rfl rfl ?_
        refine s_iload_n (q := 696) hX dL_law_695 rfl rfl ?_
        refine s_iconst (q := 697) (v := 3) hX dL_law_696 rfl rfl ?_
        refine s_iadd (q := 698) (v := nI (6 * k + 3)) hX dL_law_697 rfl (nI_add (6 * k) (3)) ?_
        refine s_sald (k := 6 * k + 3) (q := 699) hX dL_law_698 rfl (by assumption) rfl (by omega) (by omega) ?_
        refine s_invv3_1 (q := 702) hX dL_law_699 rfl glk_8_93 (by assumption) (Nat.le_of_ble_eq_true rfl) ⟨hkc, hks⟩ (by omega) (p_heap (d := 29) (by omega) hM2 hD2 hk9 hb9 (fun M3 w1 w2 => ?_)) 
        refine ⟨_, rfl, ?_⟩
        refine s_icmp_eq_t (q := 705) (r := 994) hX dL_law_702 rfl rfl rfl ?_
        exact N9 t2 _ sh2 M3 z3 z1 (CLS.sm z1.2.1 z4 w2) hM2 w1 (ok_heap hk9)
      · refine s_to (r := 707) rfl ?_
        refine s_aload_n (q := 708) hX dL_law_707 rfl rfl ?_
        refine s_aload_n (q := 709) hX dL_law_708 rfl rfl ?_
        refine s_iload_n (q := 710) hX dL_law_709 rfl rfl ?_
        refine s_iconst (q := 711) (v := 1) hX dL_law_710 rfl rfl ?_
        refine s_iadd (q := 712) (v := nI (6 * k + 1)) hX dL_law_711 rfl (nI_add (6 * k) (1)) ?_
        refine s_sald (k := 6 * k + 1) (q := 713) hX dL_law_712 rfl (by assumption) rfl (by omega) (by omega) ?_
        refine s_aload_n (q := 714) hX dL_law_713 rfl rfl ?_
        refine s_iload_n (q := 715) hX dL_law_714 rfl rfl ?_
        refine s_iconst (q := 716) (v := 2) hX dL_law_715 rfl rfl ?_
        refine s_iadd (q := 717) (v := nI (6 * k + 2)) hX dL_law_716 rfl (nI_add (6 * k) (2)) ?_
        refine s_sald (k := 6 * k + 2) (q := 718) hX dL_law_717 rfl (by assumption) rfl (by omega) (by omega) ?_
        refine s_aload_n (q := 719) hX dL_law_718 rfl rfl ?_
        refine s_iload_n (q := 720) hX dL_law_719 rfl rfl ?_
        refine s_iconst (q := 721) (v := 3) hX dL_law_720 rfl rfl ?_
        refine s_iadd (q := 722) (v := nI (6 * k + 3)) hX dL_law_721 rfl (nI_add (6 * k) (3)) ?_
        refine s_sald (k := 6 * k + 3) (q := 723) hX dL_law_722 rfl (by assumption) rfl (by omega) (by omega) ?_
        refine s_invv3_1 (q := 726) hX dL_law_723 rfl glk_8_94 (by assumption) (Nat.le_of_ble_eq_true rfl) ⟨hkc, hks⟩ (by omega) (k_seen (d := 29) (by omega) hC hS hk9 hb9 (fun t2 sh2 M2 z1 z2 z3 z4 z5 => ?_)) 
        have z3 : sh2.length = 99 := by rw [z3]; exact hl
        have hM2 := hM.sm z2
        have hD2 := hD.sm z5
        have c7 := hM2.1
        have hn62 := gn6 z3
        refine ⟨_, rfl, ?_⟩
        refine s_aload_n (q := 727) hX dL_law_726 rfl rfl ?_
        refine s_aload_n (q := 728) hX dL_law_727 rfl rfl ?_
        refine s_iload_n (q := 729) hX dL_law_728 rfl rfl ?_
        refine s_iconst (q := 730) (v := 1) hX dL_law_729 rfl rfl ?_
        refine s_iadd (q := 731) (v := nI (6 * k + 1)) hX dL_law_730 rfl (nI_add (6 * k) (1)) ?_
        refine s_sald (k := 6 * k + 1) (q := 732) hX dL_law_731 rfl (by assumption) rfl (by omega) (by omega) ?_
        refine s_aload_n (q := 733) hX dL_law_732 rfl rfl ?_
        refine s_iload_n (q := 734) hX dL_law_733 rfl rfl ?_
        refine s_iconst (q := 735) (v := 2) hX dL_law_734 rfl rfl ?_
        refine s_iadd (q := 736) (v := nI (6 * k + 2)) hX dL_law_735 rfl (nI_add (6 * k) (2)) ?_
        refine s_sald (k := 6 * k + 2) (q := 737) hX dL_law_736 rfl (by assumption) rfl (by omega) (by omega) ?_
        refine s_aload_n (q := 738) hX dL_law_737 rfl rfl ?_
        refine s_iload_n (q := 739) hX dL_law_738 rfl rfl ?_
        refine s_iconst (q := 740) (v := 3) hX dL_law_739 rfl rfl ?_
        refine s_iadd (q := 741) (v := nI (6 * k + 3)) hX dL_law_740 rfl (nI_add (6 * k) (3)) ?_
        refine s_sald (k := 6 * k + 3) (q := 742) hX dL_law_741 rfl (by assumption) rfl (by omega) (by omega) ?_
        refine s_invv3_1 (q := 745) hX dL_law_742 rfl glk_8_97 (by assumption) (Nat.le_of_ble_eq_true rfl) ⟨hkc, hks⟩ (by omega) (p_seen (d := 29) (by omega) hM2 hD2 hk9 hb9 (fun M3 w1 w2 => ?_)) 
        refine ⟨_, rfl, ?_⟩
        refine s_icmp_eq_t (q := 748) (r := 994) hX dL_law_745 rfl rfl rfl ?_
        exact N9 t2 _ sh2 M3 z3 z1 (CLS.sm z1.2.1 z4 w2) hM2 w1 (ok_seen hk9)
      · refine s_to (r := 750) rfl ?_
        refine s_aload_n (q := 751) hX dL_law_750 rfl rfl ?_
        refine s_invv0_1 (q := 754) hX dL_law_751 rfl glk_8_98 (by assumption) (Nat.le_of_ble_eq_true rfl) ⟨hkc, hks⟩ (by omega) (k_forget (d := 29) (by omega) hC hS hk9 hb9 (fun t2 sh2 M2 z1 z2 z3 z4 z5 => ?_)) 
        have z3 : sh2.length = 99 := by rw [z3]; exact hl
        have hM2 := hM.sm z2
        have hD2 := hD.sm z5
        have c7 := hM2.1
        have hn62 := gn6 z3
        refine ⟨_, rfl, ?_⟩
        refine s_aload_n (q := 755) hX dL_law_754 rfl rfl ?_
        refine s_invv0_1 (q := 758) hX dL_law_755 rfl glk_8_101 (by assumption) (Nat.le_of_ble_eq_true rfl) ⟨hkc, hks⟩ (by omega) (p_forget (d := 29) (by omega) hM2 hD2 hk9 hb9 (fun M3 w1 w2 => ?_)) 
        refine ⟨_, rfl, ?_⟩
        refine s_icmp_eq_t (q := 761) (r := 994) hX dL_law_758 rfl rfl rfl ?_
        exact N9 t2 _ sh2 M3 z3 z1 (CLS.sm z1.2.1 z4 w2) hM2 w1 (ok_forget hk9)
      · refine s_to (r := 763) rfl ?_
        refine s_aload_n (q := 764) hX dL_law_763 rfl rfl ?_
        refine s_aload_n (q := 765) hX dL_law_764 rfl rfl ?_
        refine s_iload_n (q := 766) hX dL_law_765 rfl rfl ?_
        refine s_iconst (q := 767) (v := 1) hX dL_law_766 rfl rfl ?_
        refine s_iadd (q := 768) (v := nI (6 * k + 1)) hX dL_law_767 rfl (nI_add (6 * k) (1)) ?_
        refine s_sald (k := 6 * k + 1) (q := 769) hX dL_law_768 rfl (by assumption) rfl (by omega) (by omega) ?_
        refine s_aload_n (q := 770) hX dL_law_769 rfl rfl ?_
        refine s_iload_n (q := 771) hX dL_law_770 rfl rfl ?_
        refine s_iconst (q := 772) (v := 2) hX dL_law_771 rfl rfl ?_
        refine s_iadd (q := 773) (v := nI (6 * k + 2)) hX dL_law_772 rfl (nI_add (6 * k) (2)) ?_
        refine s_sald (k := 6 * k + 2) (q := 774) hX dL_law_773 rfl (by assumption) rfl (by omega) (by omega) ?_
        refine s_invv2_1 (q := 777) hX dL_law_774 rfl glk_8_102 (by assumption) (Nat.le_of_ble_eq_true rfl) ⟨hkc, hks⟩ (by omega) (k_spent (d := 29) (by omega) hC hS hk9 hb9 (fun t2 sh2 M2 z1 z2 z3 z4 z5 => ?_)) 
        have z3 : sh2.length = 99 := by rw [z3]; exact hl
        have hM2 := hM.sm z2
        have hD2 := hD.sm z5
        have c7 := hM2.1
        have hn62 := gn6 z3
        refine ⟨_, rfl, ?_⟩
        refine s_aload_n (q := 778) hX dL_law_777 rfl rfl ?_
        refine s_aload_n (q := 779) hX dL_law_778 rfl rfl ?_
        refine s_iload_n (q := 780) hX dL_law_779 rfl rfl ?_
        refine s_iconst (q := 781) (v := 1) hX dL_law_780 rfl rfl ?_
        refine s_iadd (q := 782) (v := nI (6 * k + 1)) hX dL_law_781 rfl (nI_add (6 * k) (1)) ?_
        refine s_sald (k := 6 * k + 1) (q := 783) hX dL_law_782 rfl (by assumption) rfl (by omega) (by omega) ?_
        refine s_aload_n (q := 784) hX dL_law_783 rfl rfl ?_
        refine s_iload_n (q := 785) hX dL_law_784 rfl rfl ?_
        refine s_iconst (q := 786) (v := 2) hX dL_law_785 rfl rfl ?_
        refine s_iadd (q := 787) (v := nI (6 * k + 2)) hX dL_law_786 rfl (nI_add (6 * k) (2)) ?_
        refine s_sald (k := 6 * k + 2) (q := 788) hX dL_law_787 rfl (by assumption) rfl (by omega) (by omega) ?_
        refine s_invv2_1 (q := 791) hX dL_law_788 rfl glk_8_105 (by assumption) (Nat.le_of_ble_eq_true rfl) ⟨hkc, hks⟩ (by omega) (p_spent (d := 29) (by omega) hM2 hD2 hk9 hb9 (fun M3 w1 w2 => ?_)) 
        refine ⟨_, rfl, ?_⟩
        refine s_icmp_eq_t (q := 794) (r := 994) hX dL_law_791 rfl rfl rfl ?_
        exact N9 t2 _ sh2 M3 z3 z1 (CLS.sm z1.2.1 z4 w2) hM2 w1 (ok_spent hk9)
      · refine s_to (r := 796) rfl ?_
        refine s_aload_n (q := 797) hX dL_law_796 rfl rfl ?_
        refine s_aload_n (q := 798) hX dL_law_797 rfl rfl ?_
        refine s_iload_n (q := 799) hX dL_law_798 rfl rfl ?_
        refine s_iconst (q := 800) (v := 1) hX dL_law_799 rfl rfl ?_
        refine s_iadd (q := 801) (v := nI (6 * k + 1)) hX dL_law_800 rfl (nI_add (6 * k) (1)) ?_
        refine s_sald (k := 6 * k + 1) (q := 802) hX dL_law_801 rfl (by assumption) rfl (by omega) (by omega) ?_
        refine s_aload_n (q := 803) hX dL_law_802 rfl rfl ?_
        refine s_iload_n (q := 804) hX dL_law_803 rfl rfl ?_
        refine s_iconst (q := 805) (v := 2) hX dL_law_804 rfl rfl ?_
        refine s_iadd (q := 806) (v := nI (6 * k + 2)) hX dL_law_805 rfl (nI_add (6 * k) (2)) ?_
        refine s_sald (k := 6 * k + 2) (q := 807) hX dL_law_806 rfl (by assumption) rfl (by omega) (by omega) ?_
        refine s_aload_n (q := 808) hX dL_law_807 rfl rfl ?_
        refine s_iload_n (q := 809) hX dL_law_808 rfl rfl ?_
        refine s_iconst (q := 810) (v := 3) hX dL_law_809 rfl rfl ?_
        refine s_iadd (q := 811) (v := nI (6 * k + 3)) hX dL_law_810 rfl (nI_add (6 * k) (3)) ?_
        refine s_sald (k := 6 * k + 3) (q := 812) hX dL_law_811 rfl (by assumption) rfl (by omega) (by omega) ?_
        refine s_invv3_1 (q := 815) hX dL_law_812 rfl glk_8_106 (by assumption) (Nat.le_of_ble_eq_true rfl) ⟨hkc, hks⟩ (by omega) (k_saved (d := 29) (by omega) hC hS hk9 hb9 (fun t2 sh2 M2 z1 z2 z3 z4 z5 => ?_)) 
        have z3 : sh2.length = 99 := by rw [z3]; exact hl
        have hM2 := hM.sm z2
        have hD2 := hD.sm z5
        have c7 := hM2.1
        have hn62 := gn6 z3
        refine ⟨_, rfl, ?_⟩
        refine s_aload_n (q := 816) hX dL_law_815 rfl rfl ?_
        refine s_aload_n (q := 817) hX dL_law_816 rfl rfl ?_
        refine s_iload_n (q := 818) hX dL_law_817 rfl rfl ?_
        refine s_iconst (q := 819) (v := 1) hX dL_law_818 rfl rfl ?_
        refine s_iadd (q := 820) (v := nI (6 * k + 1)) hX dL_law_819 rfl (nI_add (6 * k) (1)) ?_
        refine s_sald (k := 6 * k + 1) (q := 821) hX dL_law_820 rfl (by assumption) rfl (by omega) (by omega) ?_
        refine s_aload_n (q := 822) hX dL_law_821 rfl rfl ?_
        refine s_iload_n (q := 823) hX dL_law_822 rfl rfl ?_
        refine s_iconst (q := 824) (v := 2) hX dL_law_823 rfl rfl ?_
        refine s_iadd (q := 825) (v := nI (6 * k + 2)) hX dL_law_824 rfl (nI_add (6 * k) (2)) ?_
        refine s_sald (k := 6 * k + 2) (q := 826) hX dL_law_825 rfl (by assumption) rfl (by omega) (by omega) ?_
        refine s_aload_n (q := 827) hX dL_law_826 rfl rfl ?_
        refine s_iload_n (q := 828) hX dL_law_827 rfl rfl ?_
        refine s_iconst (q := 829) (v := 3) hX dL_law_828 rfl rfl ?_
        refine s_iadd (q := 830) (v := nI (6 * k + 3)) hX dL_law_829 rfl (nI_add (6 * k) (3)) ?_
        refine s_sald (k := 6 * k + 3) (q := 831) hX dL_law_830 rfl (by assumption) rfl (by omega) (by omega) ?_
        refine s_invv3_1 (q := 834) hX dL_law_831 rfl glk_8_109 (by assumption) (Nat.le_of_ble_eq_true rfl) ⟨hkc, hks⟩ (by omega) (p_saved (d := 29) (by omega) hM2 hD2 hk9 hb9 (fun M3 w1 w2 => ?_)) 
        refine ⟨_, rfl, ?_⟩
        refine s_icmp_eq_t (q := 837) (r := 994) hX dL_law_834 rfl rfl rfl ?_
        exact N9 t2 _ sh2 M3 z3 z1 (CLS.sm z1.2.1 z4 w2) hM2 w1 (ok_saved hk9)
      · refine s_to (r := 839) rfl ?_
        refine s_aload_n (q := 840) hX dL_law_839 rfl rfl ?_
        refine s_aload_n (q := 841) hX dL_law_840 rfl rfl ?_
        refine s_iload_n (q := 842) hX dL_law_841 rfl rfl ?_
        refine s_iconst (q := 843) (v := 1) hX dL_law_842 rfl rfl ?_
        refine s_iadd (q := 844) (v := nI (6 * k + 1)) hX dL_law_843 rfl (nI_add (6 * k) (1)) ?_
        refine s_sald (k := 6 * k + 1) (q := 845) hX dL_law_844 rfl (by assumption) rfl (by omega) (by omega) ?_
        refine s_aload_n (q := 846) hX dL_law_845 rfl rfl ?_
        refine s_iload_n (q := 847) hX dL_law_846 rfl rfl ?_
        refine s_iconst (q := 848) (v := 2) hX dL_law_847 rfl rfl ?_
        refine s_iadd (q := 849) (v := nI (6 * k + 2)) hX dL_law_848 rfl (nI_add (6 * k) (2)) ?_
        refine s_sald (k := 6 * k + 2) (q := 850) hX dL_law_849 rfl (by assumption) rfl (by omega) (by omega) ?_
        refine s_aload_n (q := 851) hX dL_law_850 rfl rfl ?_
        refine s_iload_n (q := 852) hX dL_law_851 rfl rfl ?_
        refine s_iconst (q := 853) (v := 3) hX dL_law_852 rfl rfl ?_
        refine s_iadd (q := 854) (v := nI (6 * k + 3)) hX dL_law_853 rfl (nI_add (6 * k) (3)) ?_
        refine s_sald (k := 6 * k + 3) (q := 855) hX dL_law_854 rfl (by assumption) rfl (by omega) (by omega) ?_
        refine s_aload_n (q := 856) hX dL_law_855 rfl rfl ?_
        refine s_iload_n (q := 857) hX dL_law_856 rfl rfl ?_
        refine s_iconst (q := 858) (v := 4) hX dL_law_857 rfl rfl ?_
        refine s_iadd (q := 859) (v := nI (6 * k + 4)) hX dL_law_858 rfl (nI_add (6 * k) (4)) ?_
        refine s_sald (k := 6 * k + 4) (q := 860) hX dL_law_859 rfl (by assumption) rfl (by omega) (by omega) ?_
        refine s_aload_n (q := 861) hX dL_law_860 rfl rfl ?_
        refine s_iload_n (q := 862) hX dL_law_861 rfl rfl ?_
        refine s_iconst (q := 863) (v := 5) hX dL_law_862 rfl rfl ?_
        refine s_iadd (q := 864) (v := nI (6 * k + 5)) hX dL_law_863 rfl (nI_add (6 * k) (5)) ?_
        refine s_sald (k := 6 * k + 5) (q := 865) hX dL_law_864 rfl (by assumption) rfl (by omega) (by omega) ?_
        refine s_invv5_1 (q := 868) hX dL_law_865 rfl glk_8_110 (by assumption) (Nat.le_of_ble_eq_true rfl) ⟨hkc, hks⟩ (by omega) (k_lasts (d := 29) (by omega) hC hS hk9 hb9 (fun t2 sh2 M2 z1 z2 z3 z4 z5 => ?_)) 
        have z3 : sh2.length = 99 := by rw [z3]; exact hl
        have hM2 := hM.sm z2
        have hD2 := hD.sm z5
        have c7 := hM2.1
        have hn62 := gn6 z3
        refine ⟨_, rfl, ?_⟩
        refine s_aload_n (q := 869) hX dL_law_868 rfl rfl ?_
        refine s_aload_n (q := 870) hX dL_law_869 rfl rfl ?_
        refine s_iload_n (q := 871) hX dL_law_870 rfl rfl ?_
        refine s_iconst (q := 872) (v := 1) hX dL_law_871 rfl rfl ?_
        refine s_iadd (q := 873) (v := nI (6 * k + 1)) hX dL_law_872 rfl (nI_add (6 * k) (1)) ?_
        refine s_sald (k := 6 * k + 1) (q := 874) hX dL_law_873 rfl (by assumption) rfl (by omega) (by omega) ?_
        refine s_aload_n (q := 875) hX dL_law_874 rfl rfl ?_
        refine s_iload_n (q := 876) hX dL_law_875 rfl rfl ?_
        refine s_iconst (q := 877) (v := 2) hX dL_law_876 rfl rfl ?_
        refine s_iadd (q := 878) (v := nI (6 * k + 2)) hX dL_law_877 rfl (nI_add (6 * k) (2)) ?_
        refine s_sald (k := 6 * k + 2) (q := 879) hX dL_law_878 rfl (by assumption) rfl (by omega) (by omega) ?_
        refine s_aload_n (q := 880) hX dL_law_879 rfl rfl ?_
        refine s_iload_n (q := 881) hX dL_law_880 rfl rfl ?_
        refine s_iconst (q := 882) (v := 3) hX dL_law_881 rfl rfl ?_
        refine s_iadd (q := 883) (v := nI (6 * k + 3)) hX dL_law_882 rfl (nI_add (6 * k) (3)) ?_
        refine s_sald (k := 6 * k + 3) (q := 884) hX dL_law_883 rfl (by assumption) rfl (by omega) (by omega) ?_
        refine s_aload_n (q := 885) hX dL_law_884 rfl rfl ?_
        refine s_iload_n (q := 886) hX dL_law_885 rfl rfl ?_
        refine s_iconst (q := 887) (v := 4) hX dL_law_886 rfl rfl ?_
        refine s_iadd (q := 888) (v := nI (6 * k + 4)) hX dL_law_887 rfl (nI_add (6 * k) (4)) ?_
        refine s_sald (k := 6 * k + 4) (q := 889) hX dL_law_888 rfl (by assumption) rfl (by omega) (by omega) ?_
        refine s_aload_n (q := 890) hX dL_law_889 rfl rfl ?_
        refine s_iload_n (q := 891) hX dL_law_890 rfl rfl ?_
        refine s_iconst (q := 892) (v := 5) hX dL_law_891 rfl rfl ?_
        refine s_iadd (q := 893) (v := nI (6 * k + 5)) hX dL_law_892 rfl (nI_add (6 * k) (5)) ?_
        refine s_sald (k := 6 * k + 5) (q := 894) hX dL_law_893 rfl (by assumption) rfl (by omega) (by omega) ?_
        refine s_invv5_1 (q := 897) hX dL_law_894 rfl glk_8_114 (by assumption) (Nat.le_of_ble_eq_true rfl) ⟨hkc, hks⟩ (by omega) (p_lasts (d := 29) (by omega) hM2 hD2 hk9 hb9 (fun M3 w1 w2 => ?_)) 
        refine ⟨_, rfl, ?_⟩
        refine s_icmp_eq_t (q := 900) (r := 994) hX dL_law_897 rfl rfl rfl ?_
        exact N9 t2 _ sh2 M3 z3 z1 (CLS.sm z1.2.1 z4 w2) hM2 w1 (ok_lasts hk9)
      · refine s_to (r := 902) rfl ?_
        refine s_aload_n (q := 903) hX dL_law_902 rfl rfl ?_
        refine s_aload_n (q := 904) hX dL_law_903 rfl rfl ?_
        refine s_iload_n (q := 905) hX dL_law_904 rfl rfl ?_
        refine s_iconst (q := 906) (v := 1) hX dL_law_905 rfl rfl ?_
        refine s_iadd (q := 907) (v := nI (6 * k + 1)) hX dL_law_906 rfl (nI_add (6 * k) (1)) ?_
        refine s_sald (k := 6 * k + 1) (q := 908) hX dL_law_907 rfl (by assumption) rfl (by omega) (by omega) ?_
        refine s_aload_n (q := 909) hX dL_law_908 rfl rfl ?_
        refine s_iload_n (q := 910) hX dL_law_909 rfl rfl ?_
        refine s_iconst (q := 911) (v := 2) hX dL_law_910 rfl rfl ?_
        refine s_iadd (q := 912) (v := nI (6 * k + 2)) hX dL_law_911 rfl (nI_add (6 * k) (2)) ?_
        refine s_sald (k := 6 * k + 2) (q := 913) hX dL_law_912 rfl (by assumption) rfl (by omega) (by omega) ?_
        refine s_aload_n (q := 914) hX dL_law_913 rfl rfl ?_
        refine s_iload_n (q := 915) hX dL_law_914 rfl rfl ?_
        refine s_iconst (q := 916) (v := 3) hX dL_law_915 rfl rfl ?_
        refine s_iadd (q := 917) (v := nI (6 * k + 3)) hX dL_law_916 rfl (nI_add (6 * k) (3)) ?_
        refine s_sald (k := 6 * k + 3) (q := 918) hX dL_law_917 rfl (by assumption) rfl (by omega) (by omega) ?_
        refine s_invv3_1 (q := 921) hX dL_law_918 rfl glk_8_115 (by assumption) (Nat.le_of_ble_eq_true rfl) ⟨hkc, hks⟩ (by omega) (k_year (d := 29) (by omega) hC hS hk9 hb9 (fun t2 sh2 M2 z1 z2 z3 z4 z5 => ?_)) 
        have z3 : sh2.length = 99 := by rw [z3]; exact hl
        have hM2 := hM.sm z2
        have hD2 := hD.sm z5
        have c7 := hM2.1
        have hn62 := gn6 z3
        refine ⟨_, rfl, ?_⟩
        refine s_aload_n (q := 922) hX dL_law_921 rfl rfl ?_
        refine s_aload_n (q := 923) hX dL_law_922 rfl rfl ?_
        refine s_iload_n (q := 924) hX dL_law_923 rfl rfl ?_
        refine s_iconst (q := 925) (v := 1) hX dL_law_924 rfl rfl ?_
        refine s_iadd (q := 926) (v := nI (6 * k + 1)) hX dL_law_925 rfl (nI_add (6 * k) (1)) ?_
        refine s_sald (k := 6 * k + 1) (q := 927) hX dL_law_926 rfl (by assumption) rfl (by omega) (by omega) ?_
        refine s_aload_n (q := 928) hX dL_law_927 rfl rfl ?_
        refine s_iload_n (q := 929) hX dL_law_928 rfl rfl ?_
        refine s_iconst (q := 930) (v := 2) hX dL_law_929 rfl rfl ?_
        refine s_iadd (q := 931) (v := nI (6 * k + 2)) hX dL_law_930 rfl (nI_add (6 * k) (2)) ?_
        refine s_sald (k := 6 * k + 2) (q := 932) hX dL_law_931 rfl (by assumption) rfl (by omega) (by omega) ?_
        refine s_aload_n (q := 933) hX dL_law_932 rfl rfl ?_
        refine s_iload_n (q := 934) hX dL_law_933 rfl rfl ?_
        refine s_iconst (q := 935) (v := 3) hX dL_law_934 rfl rfl ?_
        refine s_iadd (q := 936) (v := nI (6 * k + 3)) hX dL_law_935 rfl (nI_add (6 * k) (3)) ?_
        refine s_sald (k := 6 * k + 3) (q := 937) hX dL_law_936 rfl (by assumption) rfl (by omega) (by omega) ?_
        refine s_invv3_1 (q := 940) hX dL_law_937 rfl glk_8_118 (by assumption) (Nat.le_of_ble_eq_true rfl) ⟨hkc, hks⟩ (by omega) (p_year (d := 29) (by omega) hM2 hD2 hk9 hb9 (fun M3 w1 w2 => ?_)) 
        refine ⟨_, rfl, ?_⟩
        refine s_icmp_eq_t (q := 943) (r := 994) hX dL_law_940 rfl rfl rfl ?_
        exact N9 t2 _ sh2 M3 z3 z1 (CLS.sm z1.2.1 z4 w2) hM2 w1 (ok_year hk9)
      · refine s_to (r := 945) rfl ?_
        refine s_aload_n (q := 946) hX dL_law_945 rfl rfl ?_
        refine s_invv0_1 (q := 949) hX dL_law_946 rfl glk_8_119 (by assumption) (Nat.le_of_ble_eq_true rfl) ⟨hkc, hks⟩ (by omega) (k_keep (d := 29) (by omega) hC hS hk9 hb9 (fun t2 sh2 M2 z1 z2 z3 z4 z5 => ?_)) 
        have z3 : sh2.length = 99 := by rw [z3]; exact hl
        have hM2 := hM.sm z2
        have hD2 := hD.sm z5
        have c7 := hM2.1
        have hn62 := gn6 z3
        refine ⟨_, rfl, ?_⟩
        refine s_aload_n (q := 950) hX dL_law_949 rfl rfl ?_
        refine s_invv0_1 (q := 953) hX dL_law_950 rfl glk_8_122 (by assumption) (Nat.le_of_ble_eq_true rfl) ⟨hkc, hks⟩ (by omega) (p_keep (d := 29) (by omega) hM2 hD2 hk9 hb9 (fun M3 w1 w2 => ?_)) 
        refine ⟨_, rfl, ?_⟩
        refine s_icmp_eq_t (q := 956) (r := 994) hX dL_law_953 rfl rfl rfl ?_
        exact N9 t2 _ sh2 M3 z3 z1 (CLS.sm z1.2.1 z4 w2) hM2 w1 (ok_keep hk9)
      · refine s_to (r := 958) rfl ?_
        refine s_aload_n (q := 959) hX dL_law_958 rfl rfl ?_
        refine s_invv0_1 (q := 962) hX dL_law_959 rfl glk_8_123 (by assumption) (Nat.le_of_ble_eq_true rfl) ⟨hkc, hks⟩ (by omega) (k_back (d := 29) (by omega) hC hS hk9 hb9 (fun t2 sh2 M2 z1 z2 z3 z4 z5 => ?_)) 
        have z3 : sh2.length = 99 := by rw [z3]; exact hl
        have hM2 := hM.sm z2
        have hD2 := hD.sm z5
        have c7 := hM2.1
        have hn62 := gn6 z3
        refine ⟨_, rfl, ?_⟩
        refine s_aload_n (q := 963) hX dL_law_962 rfl rfl ?_
        refine s_invv0_1 (q := 966) hX dL_law_963 rfl glk_8_126 (by assumption) (Nat.le_of_ble_eq_true rfl) ⟨hkc, hks⟩ (by omega) (p_back (d := 29) (by omega) hM2 hD2 hk9 hb9 (fun M3 w1 w2 => ?_)) 
        refine ⟨_, rfl, ?_⟩
        refine s_icmp_eq_t (q := 969) (r := 994) hX dL_law_966 rfl rfl rfl ?_
        exact N9 t2 _ sh2 M3 z3 z1 (CLS.sm z1.2.1 z4 w2) hM2 w1 (ok_back hk9)
      · refine s_to (r := 971) rfl ?_
        refine s_aload_n (q := 972) hX dL_law_971 rfl rfl ?_
        refine s_aload_n (q := 973) hX dL_law_972 rfl rfl ?_
        refine s_iload_n (q := 974) hX dL_law_973 rfl rfl ?_
        refine s_iconst (q := 975) (v := 1) hX dL_law_974 rfl rfl ?_
        refine s_iadd (q := 976) (v := nI (6 * k + 1)) hX dL_law_975 rfl (nI_add (6 * k) (1)) ?_
        refine s_sald (k := 6 * k + 1) (q := 977) hX dL_law_976 rfl (by assumption) rfl (by omega) (by omega) ?_
        refine s_invv1_1 (q := 980) hX dL_law_977 rfl glk_8_127 (by assumption) (Nat.le_of_ble_eq_true rfl) ⟨hkc, hks⟩ (by omega) (k_count (d := 29) (by omega) hC hS hk9 hb9 (fun t2 sh2 M2 z1 z2 z3 z4 z5 => ?_)) 
        have z3 : sh2.length = 99 := by rw [z3]; exact hl
        have hM2 := hM.sm z2
        have hD2 := hD.sm z5
        have c7 := hM2.1
        have hn62 := gn6 z3
        refine ⟨_, rfl, ?_⟩
        refine s_aload_n (q := 981) hX dL_law_980 rfl rfl ?_
        refine s_aload_n (q := 982) hX dL_law_981 rfl rfl ?_
        refine s_iload_n (q := 983) hX dL_law_982 rfl rfl ?_
        refine s_iconst (q := 984) (v := 1) hX dL_law_983 rfl rfl ?_
        refine s_iadd (q := 985) (v := nI (6 * k + 1)) hX dL_law_984 rfl (nI_add (6 * k) (1)) ?_
        refine s_sald (k := 6 * k + 1) (q := 986) hX dL_law_985 rfl (by assumption) rfl (by omega) (by omega) ?_
        refine s_invv1_1 (q := 989) hX dL_law_986 rfl glk_8_130 (by assumption) (Nat.le_of_ble_eq_true rfl) ⟨hkc, hks⟩ (by omega) (p_count (d := 29) (by omega) hM2 hD2 hk9 hb9 (fun M3 w1 w2 => ?_)) 
        refine ⟨_, rfl, ?_⟩
        refine s_icmp_eq_t (q := 992) (r := 994) hX dL_law_989 rfl rfl rfl ?_
        exact N9 t2 _ sh2 M3 z3 z1 (CLS.sm z1.2.1 z4 w2) hM2 w1 (ok_count hk9)
