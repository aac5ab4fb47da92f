/-! THE CLASS: its constructor -/
def LOC (Pr : List gS → Prop) (L : Nat) : Prop := ∀ sh sh' : List gS, (∀ c, 0 < c → c < L → sh'[c]? = sh[c]?) → Pr sh → Pr sh'
theorem LOC.and {Pr Pq : List gS → Prop} {L K : Nat} (h1 : LOC Pr L) (h2 : LOC Pq K) (h : L ≤ K) : LOC (fun s => Pr s ∧ Pq s) K := fun sh sh' hs hp => ⟨h1 sh sh' (fun c a b => hs c a (Nat.lt_of_lt_of_le b h)) hp.1, h2 sh sh' hs hp.2⟩
theorem loc_paper : LOC (fun s => isPaper s 1) 4 := by
  intro sh sh' hs hp
  unfold isPaper
  rw [hs 1 (by omega) (by omega), hs (1 + 1) (by omega) (by omega), hs (1 + 2) (by omega) (by omega)]
  exact hp
theorem loc_town {t : Nat} (h0 : 0 < t) : LOC (fun s => isTown s t) (t + 7) := by
  intro sh sh' hs hp
  unfold isTown
  rw [hs t (by omega) (by omega), hs (t + 1) (by omega) (by omega), hs (t + 2) (by omega) (by omega), hs (t + 3) (by omega) (by omega), hs (t + 4) (by omega) (by omega), hs (t + 5) (by omega) (by omega), hs (t + 6) (by omega) (by omega)]
  exact hp
theorem loc_street {t : Nat} (h0 : 0 < t) : LOC (fun s => isStreet s t) (t + 4) := fun sh sh' hs hp => hp.sm (fun c a b => hs c (by omega) (by omega))
theorem loc_shelf {t n : Nat} (h0 : 0 < t) : LOC (fun s => isShelf s t n) (t + 2 + 4 * n) := fun sh sh' hs hp => ⟨by rw [hs t (by omega) (by omega)]; exact hp.1, by rw [hs (t + 1) (by omega) (by omega)]; exact hp.2.1, fun k hk => (hp.2.2 k hk).sm (fun c a b => hs c (by omega) (by omega))⟩
theorem loc_cho {t : Nat} (h0 : 0 < t) : LOC (fun s => isCho s t) (t + 5) := by
  intro sh sh' hs hp
  unfold isCho
  rw [hs t (by omega) (by omega), hs (t + 1) (by omega) (by omega), hs (t + 2) (by omega) (by omega), hs (t + 3) (by omega) (by omega), hs (t + 4) (by omega) (by omega)]
  exact hp
theorem loc_wit {t : Nat} (h0 : 0 < t) : LOC (fun s => isWit s t) (t + 7) := by
  intro sh sh' hs hp
  unfold isWit
  rw [hs t (by omega) (by omega), hs (t + 1) (by omega) (by omega), hs (t + 2) (by omega) (by omega), hs (t + 3) (by omega) (by omega), hs (t + 4) (by omega) (by omega), hs (t + 5) (by omega) (by omega), hs (t + 6) (by omega) (by omega)]
  exact hp
def CT (L : Nat) (fs : List (Option Value)) (Acc : List gS → Prop) (sh : List gS) (M : gM) : Prop := sh.length = L ∧ gOK sh ∧ sh[0]? = some (.inl (6, fs)) ∧ Acc sh ∧ ∀ c, c < L → M c = fun _ => 0
section SPR
variable {cc : ByteArray} {o nL d MC MS rt : Nat} {ini : Bool} {sc : Option (Nat × (Nat → Int32))} {Rt : gRt} {X : gX} {pc q : Nat} {sh : List gS} {M : gM} {kc ks : Nat} {L : Nat}
theorem s_prt {i iF ci k t nf msj pcF : Nat} {Acc Pj : List gS → Prop} {fs fs' : List (Option Value)} {f : Option Value} (hX : gCl cc o nL d MC MS rt ini sc Rt X) (d0 : decode cc pc = .ok (.aload_n 0, 1)) (d1 : decode cc (pc + 1) = .ok (.new i, 3)) (d2 : decode cc (pc + 4) = .ok (.dup, 1)) (d3 : decode cc pcF = .ok (.putfield iF, 3)) (hq1 : gnw o i = some ci) (hq2 : gfl o iF = some (6, k, t)) (ht : t = 2 ∨ (t = 3 ∧ ini = true ∧ 6 = o)) (hT : CT L fs Acc sh M) (hA : LOC Acc L) (hP : LOC Pj (L + 1 + nf)) (hL : 0 < L) (hL9 : L + nf < 900000) (hf : fs[k]? = some f) (hfs : fs.set k (some (.ref L)) = fs') (hkc : kc + 1 + nf ≤ MC) (hks : ks + (gdef ci).length + msj ≤ MS)
    (hcall : ∀ sh1 M1, sh1.length = L + 1 → gOK sh1 → sh1[L]? = some (.inl (ci, gdef ci)) → (∀ sh2 M2, sh2.length = L + 1 + nf → gOK sh2 → (∀ c, c < L → sh2[c]? = sh1[c]?) → Pj sh2 → (∀ c, c < L + 1 → M2 c = M1 c) → (∀ c, L + 1 ≤ c → c < L + 1 + nf → M2 c = fun _ => 0) → X pcF [(0, .ref 0)] [.ref L, .ref 0] sh2 M2 (kc + 1 + nf) (ks + (gdef ci).length + msj)) → X (pc + 5) [(0, .ref 0)] [.ref L, .ref L, .ref 0] sh1 M1 (kc + 1) (ks + (gdef ci).length))
    (h : ∀ sh' M', CT (L + 1 + nf) fs' (fun s => Acc s ∧ Pj s) sh' M' → X (pcF + 3) [(0, .ref 0)] [] sh' M' (kc + 1 + nf) (ks + (gdef ci).length + msj)) : X pc [(0, .ref 0)] [] sh M kc ks := by
  obtain ⟨hl, hg, h0, ha, hz⟩ := hT
  refine s_aload_n (q := pc + 1) hX d0 rfl rfl ?_
  refine s_newO (q := pc + 4) (L := L) hX d1 rfl hq1 hl (by omega) (by omega) hg (gokA_i hg (by rw [hl]; exact gal_c (gov (Or.inl hL)) rfl) (by rw [hl]; exact gal_c (gov (Or.inl hL)) rfl) (by omega)) (fun s1 m1 hl1 hg1 so1 sa1 mo1 mz1 => ?_)
  refine s_dup (q := pc + 5) hX d2 rfl rfl ?_
  refine hcall s1 m1 hl1 hg1 sa1 (fun s2 m2 hl2 hg2 so2 hp2 mo2 mz2 => ?_)
  have e0 : s2[0]? = some (.inl (6, fs)) := (so2 0 hL).trans ((so1 0 hL).trans h0)
  refine s_putN (q := pcF + 3) (L := L + 1 + nf) (fs' := fs') hX d3 rfl hq2 ht hl2 hg2 e0 hf hfs (by omega) (fun s3 hl3 hg3 so3 sa3 => ?_)
  refine h s3 m2 ⟨hl3, hg3, sa3, ⟨hA sh s3 (fun c h1 h2 => (so3 c (by omega)).trans ((so2 c h2).trans (so1 c h2))) ha, hP s2 s3 (fun c h1 _ => so3 c (by omega)) hp2⟩, fun c hc => ?_⟩
  by_cases e1 : c < L
  · exact (mo2 c (by omega)).trans ((mo1 c (by omega)).trans (hz c e1))
  · by_cases e2 : c = L
    · subst e2; exact (mo2 c (by omega)).trans mz1
    · exact mz2 c (by omega) (by omega)
end SPR
/-! the first town, as the text tells it -/
def gtx : gT := match flt tx0 108 200 0 gT.e0 with
  | .inr T => T
  | .inl _ => gT.e0
set_option maxRecDepth 100000 in
theorem gtx_no : (match flt tx0 108 200 0 gT.e0 with
  | .inr _ => true
  | .inl _ => false) = true := by decide +kernel
set_option maxRecDepth 100000 in
theorem gtx_ag : (gtx.P = 4 ∧ gtx.D = 3 ∧ gtx.pr = 2) ∧ (∀ i, i < 4 → gtx.kd i = gt14.kd i) ∧ (∀ j, j < 12 → gtx.ra j = gt14.ra j) ∧ (∀ j, j < 9 → gtx.co j = gt14.co j) ∧ (∀ k, k < 3 → gtx.wo k = gt14.wo k) ∧ (∀ j, j < 28 → gtx.pl j = gt14.pl j) := by decide +kernel
theorem gt14_n : gt14.P = 4 ∧ gt14.D = 3 ∧ gt14.pr = 2 := by decide +kernel
theorem gtx_q {q : Nat} (h : flt tx0 108 200 0 gT.e0 = .inl q) : False := by
  have := gtx_no
  rw [h] at this
  cases this
theorem gtx_e {T : gT} (h : flt tx0 108 200 0 gT.e0 = .inr T) : T = gtx := by
  unfold gtx
  rw [h]
theorem gtx_tw {M : gM} (h : TWN M 4 gtx) : TWN M 4 gt14 := by
  obtain ⟨⟨p1, p2, p3⟩, a1, a2, a3, a4, a5⟩ := gtx_ag
  obtain ⟨n1, n2, n3⟩ := gt14_n
  obtain ⟨h1, h2, h3, h4, h5, h6, h7, h8⟩ := h
  rw [p1] at h1 h4 h5 h8
  rw [p2] at h2 h6 h7
  rw [p3] at h3
  unfold TWN
  rw [n1, n2, n3]
  exact ⟨h1, h2, h3, fun i hi => by rw [h4 i hi, a1 i hi], fun j hj => by rw [h5 j hj, a2 j hj], fun j hj => by rw [h6 j hj, a3 j hj], fun k hk => by rw [h7 k hk, a4 k hk], fun j hj => by rw [h8 j hj, a5 j hj]⟩
