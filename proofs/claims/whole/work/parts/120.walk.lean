/-! THE WALK: from what gw says to the judgement -/
theorem gp1_m {st : List Value} {F G : Int32 → List Value → Prop} (hFG : ∀ x r, F x r → G x r) (h : gp1 st F) : gp1 st G := by
  unfold gp1 at h ⊢; split at h
  · exact hFG _ _ h
  · exact h.elim
theorem gp2_m {st : List Value} {F G : Int32 → Int32 → List Value → Prop} (hFG : ∀ x y r, F x y r → G x y r) (h : gp2 st F) : gp2 st G := by
  unfold gp2 at h ⊢; split at h
  · exact hFG _ _ _ h
  · exact h.elim
theorem gq1_m {st : List Value} {F G : Int64 → List Value → Prop} (hFG : ∀ x r, F x r → G x r) (h : gq1 st F) : gq1 st G := by
  unfold gq1 at h ⊢; split at h
  · exact hFG _ _ h
  · exact h.elim
theorem gq2_m {st : List Value} {F G : Int64 → Int64 → List Value → Prop} (hFG : ∀ x y r, F x y r → G x y r) (h : gq2 st F) : gq2 st G := by
  unfold gq2 at h ⊢; split at h
  · exact hFG _ _ _ h
  · exact h.elim
theorem gpr_m {st : List Value} {F G : Nat → List Value → Prop} (hFG : ∀ a r, F a r → G a r) (h : gpr st F) : gpr st G := by
  unfold gpr at h ⊢; split at h
  · exact hFG _ _ h
  · exact h.elim
theorem gpir_m {st : List Value} {F G : Nat → Int32 → List Value → Prop} (hFG : ∀ a i r, F a i r → G a i r) (h : gpir st F) : gpir st G := by
  unfold gpir at h ⊢; split at h
  · exact hFG _ _ _ h
  · exact h.elim
theorem gpiir_m {st : List Value} {F G : Nat → Int32 → Int32 → List Value → Prop} (hFG : ∀ a i x r, F a i x r → G a i x r) (h : gpiir st F) : gpiir st G := by
  unfold gpiir at h ⊢; split at h
  · exact hFG _ _ _ _ h
  · exact h.elim
theorem gprir_m {st : List Value} {F G : Nat → Int32 → Nat → List Value → Prop} (hFG : ∀ a i v r, F a i v r → G a i v r) (h : gprir st F) : gprir st G := by
  unfold gprir at h ⊢; split at h
  · exact hFG _ _ _ _ h
  · exact h.elim
theorem gprr_m {st : List Value} {F G : Nat → Nat → List Value → Prop} (hFG : ∀ a b r, F a b r → G a b r) (h : gprr st F) : gprr st G := by
  unfold gprr at h ⊢; split at h
  · exact hFG _ _ _ h
  · exact h.elim
theorem gcpy_m {st : List Value} {F G : Nat → Int32 → Nat → Int32 → Int32 → List Value → Prop} (hFG : ∀ a0 sp a1 dp n r, F a0 sp a1 dp n r → G a0 sp a1 dp n r) (h : gcpy st F) : gcpy st G := by
  unfold gcpy at h ⊢; split at h
  · exact hFG _ _ _ _ _ _ h
  · exact h.elim
theorem glI_m {lv : List (Nat × Value)} {i : Nat} {F G : Int32 → Prop} (hFG : ∀ x, F x → G x) (h : glI lv i F) : glI lv i G := by
  unfold glI at h ⊢; split at h
  · exact hFG _ h
  · exact h.elim
theorem glL_m {lv : List (Nat × Value)} {i : Nat} {F G : Int64 → Prop} (hFG : ∀ x, F x → G x) (h : glL lv i F) : glL lv i G := by
  unfold glL at h ⊢; split at h
  · exact hFG _ h
  · exact h.elim
theorem glR_m {lv : List (Nat × Value)} {i : Nat} {F G : Nat → Prop} (hFG : ∀ x, F x → G x) (h : glR lv i F) : glR lv i G := by
  unfold glR at h ⊢; split at h
  · exact hFG _ h
  · exact h.elim
theorem ggf_m {sh : List gS} {a ci k : Nat} {F G : List (Option Value) → Option Value → Prop} (hFG : ∀ x y, F x y → G x y) (h : ggf sh a ci k F) : ggf sh a ci k G := by
  unfold ggf at h ⊢; split at h
  · refine ⟨h.1, ?_⟩
    have h2 := h.2
    split at h2
    · exact hFG _ _ h2
    · exact h2.elim
  · exact h.elim
theorem gar_m {sh : List gS} {a kd : Nat} {F G : Nat → Prop} {E E' : Prop} (hFG : ∀ n, F n → G n) (hE : E → E') (h : gar sh a kd F E) : gar sh a kd G E' := by
  unfold gar at h ⊢; split at h
  · exact ⟨h.1, hFG _ h.2⟩
  · exact hE h
  · exact h.elim
theorem gaq_m {sh : List gS} {a : Nat} {F G : List (Option Nat) → Prop} (hFG : ∀ l, F l → G l) (h : gaq sh a F) : gaq sh a G := by
  unfold gaq at h ⊢; split at h
  · exact hFG _ h
  · exact h.elim
theorem gfc_m {o i : Nat} {F G : Nat → Nat → Nat → Prop} (hFG : ∀ a b c, F a b c → G a b c) (h : gfc o i F) : gfc o i G := by
  unfold gfc at h ⊢; split at h
  · exact hFG _ _ _ h
  · exact h.elim
theorem glc_m {o i : Nat} {F G : Nat → Nat → Nat → Nat → Nat → Prop} (hFG : ∀ a b c d e, F a b c d e → G a b c d e) (h : glc o i F) : glc o i G := by
  unfold glc at h ⊢; split at h
  · exact hFG _ _ _ _ _ h
  · exact h.elim
theorem gnc_m {o i : Nat} {F G : Nat → Prop} (hFG : ∀ a, F a → G a) (h : gnc o i F) : gnc o i G := by
  unfold gnc at h ⊢; split at h
  · exact hFG _ h
  · exact h.elim
theorem gret_m {r : Nat} {v : Option Value} {F G : List Value → Prop} (hFG : ∀ w, F w → G w) (h : gret r v F) : gret r v G := by
  unfold gret at h ⊢; split at h
  · exact ⟨h.1, hFG _ h.2⟩
  · exact ⟨h.1, hFG _ h.2⟩
  · exact ⟨h.1, hFG _ h.2⟩
  · exact h.elim
theorem gswT_m {F G : Int → Prop} (hFG : ∀ x, F x → G x) {x : Int32} : ∀ {l : List Int} {lo : Int}, gswT F x lo l → gswT G x lo l
  | [], _, _ => trivial
  | _ :: _, _, h => ⟨fun z => hFG _ (h.1 z), gswT_m hFG h.2⟩
theorem gswL_m {F G : Int → Prop} (hFG : ∀ x, F x → G x) {x : Int32} {d : Int} : ∀ {l : List (Int × Int)}, gswL F x d l → gswL G x d l
  | [], h => hFG _ h
  | _ :: _, h => ⟨fun z => hFG _ (h.1 z), fun z => gswL_m hFG (h.2 z)⟩
theorem gC_mono {mi d mc ms : Nat} {avs : List Value} {sh : List gS} {M : gM} {Q Q' : Option Value → List gS → gM → Prop} (hQ : ∀ v sh' M', Q v sh' M' → Q' v sh' M') (h : gC mi d mc ms avs sh M Q) : gC mi d mc ms avs sh M Q' := by
  intro q hq l D cy ad sz p e ha hc hk s m args below hf happ hP hK
  obtain ⟨n, o, h1, h2, h3, h4, h5⟩ := h q hq l D cy ad sz p e ha hc hk s m args below hf happ hP hK
  refine ⟨n, o, h1, h2, h3, ?_, h5⟩
  obtain ⟨⟨v, sh', M', ad', k1, k2, k3⟩, k4⟩ := h4
  exact ⟨⟨v, sh', M', ad', k1, hQ _ _ _ k2, k3⟩, k4⟩
theorem gCall_m {d mi : Nat} {avs : List Value} {sh : List gS} {M : gM} {kc ks MC MS : Nat} {oth : List Value} {P P' : Option Value → List gS → gM → Nat → Nat → Prop} (hP : ∀ v sh' M' a b, P v sh' M' a b → P' v sh' M' a b) (h : gCall d mi avs sh M kc ks MC MS oth P) : gCall d mi avs sh M kc ks MC MS oth P' := by
  obtain ⟨d', mc, ms, h1, h2, h3, h4, h5⟩ := h
  exact ⟨d', mc, ms, h1, h2, h3, h4, gC_mono (fun _ _ _ z => hP _ _ _ _ _ z) h5⟩
set_option maxHeartbeats 4000000 in
theorem gx_mono {o nL d MC MS rt : Nat} {ini : Bool} {sc : Option (Nat × (Nat → Int32))} {K X : gX} {Rt : gRt} {ins : Instr} {len pc : Nat} {lv : List (Nat × Value)} {st : List Value} {sh : List gS} {M : gM} {kc ks : Nat} (hK : ∀ pc lv st sh M kc ks, K pc lv st sh M kc ks → X pc lv st sh M kc ks)
    (h : gx o nL d MC MS rt ini sc K Rt ins len pc lv st sh M kc ks) : gx o nL d MC MS rt ini sc X Rt ins len pc lv st sh M kc ks := by
  have hk : ∀ {pc : Nat} {lv : List (Nat × Value)} {st : List Value} {sh : List gS} {M : gM} {kc ks : Nat}, K pc lv st sh M kc ks → X pc lv st sh M kc ks := fun z => hK _ _ _ _ _ _ _ z
  have ht : ∀ {off : Int} {r : List Value}, gto K pc off lv r sh M kc ks → gto X pc off lv r sh M kc ks := fun z => ⟨z.1, hk z.2⟩
  cases ins with
  | iconst n => exact ⟨h.1, hk h.2⟩
  | lconst n => exact ⟨h.1, hk h.2⟩
  | bipush n => exact ⟨h.1, h.2.1, hk h.2.2⟩
  | sipush n => exact ⟨h.1, h.2.1, hk h.2.2⟩
  | ldc2_w i => obtain ⟨a, x, b, c⟩ := h; exact ⟨a, x, b, hk c⟩
  | ldc_w i => obtain ⟨a, x, b, c⟩ := h; exact ⟨a, x, b, hk c⟩
  | iload_n k => exact ⟨h.1, glI_m (fun _ z => hk z) h.2⟩
  | iload k => exact ⟨h.1, glI_m (fun _ z => hk z) h.2⟩
  | lload_n k => exact ⟨h.1, glL_m (fun _ z => hk z) h.2⟩
  | lload k => exact ⟨h.1, glL_m (fun _ z => hk z) h.2⟩
  | aload_n k => exact ⟨h.1, glR_m (fun _ z => hk z) h.2⟩
  | istore_n k => exact ⟨h.1, h.2.1, gp1_m (fun _ _ z => hk z) h.2.2⟩
  | istore k => exact ⟨h.1, h.2.1, gp1_m (fun _ _ z => hk z) h.2.2⟩
  | lstore_n k => exact ⟨h.1, h.2.1, gq1_m (fun _ _ z => hk z) h.2.2⟩
  | lstore k => exact ⟨h.1, h.2.1, gq1_m (fun _ _ z => hk z) h.2.2⟩
  | astore_n k => exact ⟨h.1, h.2.1, gpr_m (fun _ _ z => hk z) h.2.2⟩
  | iinc k n => exact ⟨h.1, h.2.1, glI_m (fun _ z => hk z) h.2.2⟩
  | iadd => exact ⟨h.1, gp2_m (fun _ _ _ z => hk z) h.2⟩
  | isub => exact ⟨h.1, gp2_m (fun _ _ _ z => hk z) h.2⟩
  | imul => exact ⟨h.1, gp2_m (fun _ _ _ z => hk z) h.2⟩
  | iand => exact ⟨h.1, gp2_m (fun _ _ _ z => hk z) h.2⟩
  | ior => exact ⟨h.1, gp2_m (fun _ _ _ z => hk z) h.2⟩
  | ishl => exact ⟨h.1, gp2_m (fun _ _ _ z => hk z) h.2⟩
  | ishr => exact ⟨h.1, gp2_m (fun _ _ _ z => hk z) h.2⟩
  | iushr => exact ⟨h.1, gp2_m (fun _ _ _ z => hk z) h.2⟩
  | idiv => exact ⟨h.1, gp2_m (fun _ _ _ z => ⟨z.1, hk z.2⟩) h.2⟩
  | irem => exact ⟨h.1, gp2_m (fun _ _ _ z => ⟨z.1, hk z.2⟩) h.2⟩
  | ladd => exact ⟨h.1, gq2_m (fun _ _ _ z => hk z) h.2⟩
  | lmul => exact ⟨h.1, gq2_m (fun _ _ _ z => hk z) h.2⟩
  | lcmp => exact ⟨h.1, gq2_m (fun _ _ _ z => hk z) h.2⟩
  | ldiv => exact ⟨h.1, gq2_m (fun _ _ _ z => ⟨z.1, hk z.2⟩) h.2⟩
  | lrem => exact ⟨h.1, gq2_m (fun _ _ _ z => ⟨z.1, hk z.2⟩) h.2⟩
  | ineg => exact ⟨h.1, gp1_m (fun _ _ z => hk z) h.2⟩
  | i2l => exact ⟨h.1, gp1_m (fun _ _ z => hk z) h.2⟩
  | i2b => exact ⟨h.1, gp1_m (fun _ _ z => hk z) h.2⟩
  | l2i => exact ⟨h.1, gq1_m (fun _ _ z => hk z) h.2⟩
  | dup =>
    refine ⟨h.1, ?_⟩
    match st, h.2 with
    | v :: r, h => exact ⟨h.1, hk h.2⟩
    | [], h => exact h.elim
  | pop =>
    refine ⟨h.1, ?_⟩
    match st, h.2 with
    | v :: r, h => exact ⟨h.1, hk h.2⟩
    | [], h => exact h.elim
  | dup2 =>
    refine ⟨h.1, ?_⟩
    match st, h.2 with
    | v :: w :: r, h => exact ⟨h.1, hk h.2⟩
    | [v], h => exact h.elim
    | [], h => exact h.elim
  | goto off => exact ⟨h.1, ht h.2⟩
  | ifCond c off => exact ⟨h.1, gp1_m (fun _ _ z => ⟨z.1, fun w => hk (z.2.1 w), fun w => hk (z.2.2 w)⟩) h.2⟩
  | if_icmp c off => exact ⟨h.1, gp2_m (fun _ _ _ z => ⟨z.1, fun w => hk (z.2.1 w), fun w => hk (z.2.2 w)⟩) h.2⟩
  | tableswitch df lo hi offs => exact gp1_m (fun _ _ z => ⟨z.1, fun w => ht (z.2.1 w), gswT_m (fun _ w => ht w) z.2.2⟩) h
  | lookupswitch df ps => exact ⟨h.1, gp1_m (fun _ _ z => gswL_m (fun _ w => ht w) z) h.2⟩
  | getfield i => exact ⟨h.1, gfc_m (fun _ _ _ z => gpr_m (fun _ _ z => ggf_m (fun _ _ z => hk z) z) z) h.2⟩
  | putfield i =>
    refine ⟨h.1, gfc_m (fun ci k t z => ?_) h.2⟩
    by_cases h2 : t < 2
    · rw [if_pos h2] at z ⊢
      exact gpir_m (fun _ _ _ z => ggf_m (fun _ _ z => ⟨z.1, z.2.1, hk z.2.2⟩) z) z
    · rw [if_neg h2] at z ⊢
      exact gprr_m (fun _ _ _ z => ⟨z.1, ggf_m (fun _ _ z => hk z) z.2⟩) z
  | iaload => exact ⟨h.1, gpir_m (fun _ _ _ z => gar_m (fun _ z => ⟨z.1, hk z.2⟩) (fun ⟨a, q, b, c, d⟩ => ⟨a, q, b, c, hk d⟩) z) h.2⟩
  | baload => exact ⟨h.1, gpir_m (fun _ _ _ z => gar_m (fun _ z => ⟨z.1, hk z.2⟩) id z) h.2⟩
  | aaload => exact ⟨h.1, gpir_m (fun _ _ _ z => gaq_m (fun _ ⟨a, q, b, c⟩ => ⟨a, q, b, hk c⟩) z) h.2⟩
  | iastore => exact ⟨h.1, gpiir_m (fun _ _ _ _ z => gar_m (fun _ z => ⟨z.1, hk z.2⟩) id z) h.2⟩
  | bastore => exact ⟨h.1, gpiir_m (fun _ _ _ _ z => gar_m (fun _ z => ⟨z.1, hk z.2⟩) id z) h.2⟩
  | aastore => exact ⟨h.1, gprir_m (fun _ _ _ _ z => gaq_m (fun _ z => ⟨z.1, z.2.1, hk z.2.2⟩) z) h.2⟩
  | arraylength =>
    refine ⟨h.1, gpr_m (fun a r z => ?_) h.2⟩
    split at z
    · exact ⟨z.1, hk z.2⟩
    · exact hk z
    · obtain ⟨a1, q, b1, c1⟩ := z; exact ⟨a1, q, b1, hk c1⟩
    · exact z.elim
  | new i => exact ⟨h.1, gnc_m (fun _ z => ⟨z.1, z.2.1, z.2.2.1, hk z.2.2.2⟩) h.2⟩
  | newarray t => exact ⟨h.1, gp1_m (fun _ _ z => ⟨z.1, z.2.1, z.2.2.1, z.2.2.2.1, z.2.2.2.2.1, z.2.2.2.2.2.1, hk z.2.2.2.2.2.2⟩) h.2⟩
  | anewarray i => exact ⟨h.1, h.2.1, gp1_m (fun _ _ z => ⟨z.1, z.2.1, z.2.2.1, z.2.2.2.1, z.2.2.2.2.1, hk z.2.2.2.2.2⟩) h.2.2⟩
  | invokevirtual i => exact ⟨h.1, glc_m (fun _ _ _ _ _ z => ⟨z.1, z.2.1, gpr_m (fun _ _ z => ⟨z.1, z.2.1, gCall_m (fun _ _ _ _ _ z => gret_m (fun _ z => hk z) z) z.2.2⟩) z.2.2⟩) h.2⟩
  | invokestatic i =>
    refine ⟨h.1, glc_m (fun kd mi n r _ z => ?_) h.2⟩
    by_cases h6 : kd = 6
    · rw [if_pos h6] at z ⊢
      exact gcpy_m (fun _ _ _ _ _ _ z => ⟨z.1, z.2.1, gar_m (fun _ z => gar_m (fun _ z => ⟨z.1, z.2.1, z.2.2.1, z.2.2.2.1, z.2.2.2.2.1, hk z.2.2.2.2.2⟩) id z) id z.2.2⟩) z
    · rw [if_neg h6] at z ⊢
      exact ⟨z.1, z.2.1, z.2.2.1, gCall_m (fun _ _ _ _ _ z => gret_m (fun _ z => hk z) z) z.2.2.2⟩
  | invokespecial i =>
    refine ⟨h.1, glc_m (fun kd mi n r _ z => ?_) h.2⟩
    by_cases h5 : kd = 5
    · rw [if_pos h5] at z ⊢
      exact gpr_m (fun _ _ z => ⟨z.1, z.2.1, hk z.2.2⟩) z
    · rw [if_neg h5] at z ⊢
      exact ⟨z.1, z.2.1, gpr_m (fun _ _ z => ⟨z.1, gCall_m (fun _ _ _ _ _ z => gret_m (fun _ z => hk z) z) z.2⟩) z.2.2⟩
  | ireturn => exact h
  | lreturn => exact h
  | return_ => exact h
  | _ => exact h.elim
theorem gw_sound {cc : ByteArray} {o nL d MC MS rt : Nat} {ini : Bool} {sc : Option (Nat × (Nat → Int32))} {Rt : gRt} {X : gX} (hX : gCl cc o nL d MC MS rt ini sc Rt X) (cuts : List Nat) : ∀ (n : Nat) {pc : Nat} {lv : List (Nat × Value)} {st : List Value} {sh : List gS} {M : gM} {kc ks : Nat}, gw cc o nL d MC MS rt ini sc Rt X cuts n pc lv st sh M kc ks → X pc lv st sh M kc ks
  | 0, _, _, _, _, _, _, _, h => h
  | n + 1, pc, lv, st, sh, M, kc, ks, h => by
    unfold gw at h
    cases hd : decode cc pc with
    | error e => rw [hd] at h; exact h.elim
    | ok q =>
      obtain ⟨ins, len⟩ := q
      rw [hd] at h
      refine hX.1 _ _ _ _ _ _ _ _ _ hd (gx_mono (fun pc' lv' st' sh' M' kc' ks' z => ?_) h)
      by_cases hc : cuts.elem pc' = true
      · rw [if_pos hc] at z; exact z
      · rw [if_neg hc] at z; exact gw_sound hX cuts n z
