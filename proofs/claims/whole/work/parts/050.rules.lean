/-! WHAT STANDS AT A METHOD'S ENTRY, AND THE JUDGEMENT OVER PICTURES -/
def gXt (U : State) : Prop := (∀ q ∈ gnest, va_Nw (.methodLinkNest (gown q.1) q.2.1 q.2.2 "GreyByFriday") U) ∧ va_AO "GreyByFriday$Street" U
theorem gXt_warm {s U : State} (hW : s.WarmedH U.vm) (h : gXt s) : gXt U := ⟨fun q hq => va_Nw.warmM hW (h.1 q hq), h.2.moved hW.alike⟩
def gSt (p : Program) (R : Room) (s : State) (m : MethodId) (args : Array Value) (meth : Method) (c : Code) (A : Nat → Prop) (D : va_G) (cy : Nat → ClassId) (o nL d MC MS : Nat) (cc : ByteArray) (ret : Option FieldType) (ini : Bool) : Prop :=
  p.tables.exec = Jvm.exec ∧ c.code = cc ∧ meth.sig.returnType = ret ∧ c.maxLocals = nL ∧ s.vm.findClass (gown o) = some m.cls ∧ (∀ w ∈ gwl, w.before args s = true) ∧ meth.locks = false ∧ va_K D vwCl (gtys cy) s ∧ (∀ q, s.heap.size ≤ q → A q) ∧ (d ≤ R.frames ∧ 40 * d ≤ R.locals ∧ R.cells = MC ∧ R.slots = MS) ∧ (ini = true → meth.name = "<init>") ∧ gXt s
abbrev gX : Type := Nat → List (Nat × Value) → List Value → List gS → gM → Nat → Nat → Prop
def gG (p : Program) (l : Launch) (e : Env) (R : Room) (s : State) (m : MethodId) (args : Array Value) (below : List Frame) (meth : Method) (c : Code) (A : Nat → Prop) (D : va_G) (cy : Nat → ClassId) (nL MC : Nat) (Z : State → Prop) (n0 : Nat) (ad0 : Nat → Nat) : gX := fun pc lv st sh M kc ks =>
  ∀ (ad : Nat → Nat) (H : Heap) (locs : List Loc) (ls : Array Slot), (∀ k, k < n0 ∨ 1000000 ≤ k → ad k = ad0 k) → (MC = 0 → ad = ad0) → n0 ≤ sh.length → va_P D vwCl (gW cy ad sh M) H → va_D A (gW cy ad sh M) → va_S A s.heap H locs → lv_has ls nL (lv.map (gl ad)) →
    W p l e R s m args below meth c H locs kc ks Z (F0 m pc ls (st.map (gv ad)))
theorem gbi {n : Int} (h1 : -128 ≤ n) (h2 : n ≤ 127) : (Int8.ofInt n).toInt32 = Int32.ofInt n := by
  apply Int32.toInt_inj.mp
  rw [Int8.toInt_toInt32, Int8.toInt_ofInt, Int32.toInt_ofInt]
  simp only [Int8.size, Int32.size]
  rw [Int.bmod_eq_of_le (by omega) (by omega), Int.bmod_eq_of_le (by omega) (by omega)]
theorem gsi {n : Int} (h1 : -32768 ≤ n) (h2 : n ≤ 32767) : (Int16.ofInt n).toInt32 = Int32.ofInt n := by
  apply Int32.toInt_inj.mp
  rw [Int16.toInt_toInt32, Int16.toInt_ofInt, Int32.toInt_ofInt]
  simp only [Int16.size, Int32.size]
  rw [Int.bmod_eq_of_le (by omega) (by omega), Int.bmod_eq_of_le (by omega) (by omega)]
/-- a branch's aim -/
def gto (X : gX) (pc : Nat) (off : Int) (lv : List (Nat × Value)) (st : List Value) (sh : List gS) (M : gM) (kc ks : Nat) : Prop := 0 ≤ (pc : Int) + off ∧ X ((pc : Int) + off).toNat lv st sh M kc ks
def gcmp (c : Jvm.ClassFile.Cond) (x y : Int32) : Prop := match c with
  | .eq => x = y
  | .ne => ¬ x = y
  | .lt => x < y
  | .ge => y ≤ x
  | .gt => y < x
  | .le => x ≤ y
def gswT (F : Int → Prop) (x : Int32) : Int → List Int → Prop
  | _, [] => True
  | lo, off :: r => (x.toInt = lo → F off) ∧ gswT F x (lo + 1) r
def gswL (F : Int → Prop) (x : Int32) (d : Int) : List (Int × Int) → Prop
  | [] => F d
  | q :: r => (x.toInt = q.1 → F q.2) ∧ (¬ x.toInt = q.1 → gswL F x d r)
theorem gswT_at {F : Int → Prop} {x : Int32} : ∀ {l : List Int} {lo : Int} {i : Nat} {off : Int}, gswT F x lo l → l[i]? = some off → x.toInt = lo + i → F off
  | [], lo, i, off, _, h, _ => by simp at h
  | a :: r, lo, 0, off, h, hi, hx => by
    simp at hi
    subst hi
    exact h.1 (by simpa using hx)
  | a :: r, lo, i + 1, off, h, hi, hx => by
    rw [List.getElem?_cons_succ] at hi
    exact gswT_at h.2 hi (by rw [hx]; push_cast; omega)
theorem gswL_at {F : Int → Prop} {x : Int32} {d : Int} : ∀ {l : List (Int × Int)}, gswL F x d l → F (Op.lookupswitch.offset l d x.toInt)
  | [], h => h
  | (a, b) :: r, h => by
    rw [Op.lookupswitch.offset_cons]
    by_cases hx : x.toInt = a
    · rw [if_pos hx.symm]
      exact h.1 hx
    · rw [if_neg (fun z => hx z.symm)]
      exact gswL_at (h.2 hx)
/-! stacks -/
def gp1 (st : List Value) (F : Int32 → List Value → Prop) : Prop := match st with
  | .int x :: r => F x r
  | _ => False
def gp2 (st : List Value) (F : Int32 → Int32 → List Value → Prop) : Prop := match st with
  | .int y :: .int x :: r => F x y r
  | _ => False
def gq1 (st : List Value) (F : Int64 → List Value → Prop) : Prop := match st with
  | .long x :: r => F x r
  | _ => False
def gq2 (st : List Value) (F : Int64 → Int64 → List Value → Prop) : Prop := match st with
  | .long y :: .long x :: r => F x y r
  | _ => False
def gpr (st : List Value) (F : Nat → List Value → Prop) : Prop := match st with
  | .ref a :: r => F a r
  | _ => False
def gpir (st : List Value) (F : Nat → Int32 → List Value → Prop) : Prop := match st with
  | .int i :: .ref a :: r => F a i r
  | _ => False
def gpiir (st : List Value) (F : Nat → Int32 → Int32 → List Value → Prop) : Prop := match st with
  | .int x :: .int i :: .ref a :: r => F a i x r
  | _ => False
def gprir (st : List Value) (F : Nat → Int32 → Nat → List Value → Prop) : Prop := match st with
  | .ref v :: .int i :: .ref a :: r => F a i v r
  | _ => False
def gprr (st : List Value) (F : Nat → Nat → List Value → Prop) : Prop := match st with
  | .ref b :: .ref a :: r => F a b r
  | _ => False
def glI (lv : List (Nat × Value)) (i : Nat) (F : Int32 → Prop) : Prop := match lget lv i with
  | some (.int x) => F x
  | _ => False
def glL (lv : List (Nat × Value)) (i : Nat) (F : Int64 → Prop) : Prop := match lget lv i with
  | some (.long x) => F x
  | _ => False
def glR (lv : List (Nat × Value)) (i : Nat) (F : Nat → Prop) : Prop := match lget lv i with
  | some (.ref x) => F x
  | _ => False
theorem gp1_e {st : List Value} {F : Int32 → List Value → Prop} (h : gp1 st F) : ∃ x r, st = .int x :: r ∧ F x r := by
  unfold gp1 at h; split at h
  · exact ⟨_, _, rfl, h⟩
  · exact h.elim
theorem gp2_e {st : List Value} {F : Int32 → Int32 → List Value → Prop} (h : gp2 st F) : ∃ x y r, st = .int y :: .int x :: r ∧ F x y r := by
  unfold gp2 at h; split at h
  · exact ⟨_, _, _, rfl, h⟩
  · exact h.elim
theorem gq1_e {st : List Value} {F : Int64 → List Value → Prop} (h : gq1 st F) : ∃ x r, st = .long x :: r ∧ F x r := by
  unfold gq1 at h; split at h
  · exact ⟨_, _, rfl, h⟩
  · exact h.elim
theorem gq2_e {st : List Value} {F : Int64 → Int64 → List Value → Prop} (h : gq2 st F) : ∃ x y r, st = .long y :: .long x :: r ∧ F x y r := by
  unfold gq2 at h; split at h
  · exact ⟨_, _, _, rfl, h⟩
  · exact h.elim
theorem gpr_e {st : List Value} {F : Nat → List Value → Prop} (h : gpr st F) : ∃ a r, st = .ref a :: r ∧ F a r := by
  unfold gpr at h; split at h
  · exact ⟨_, _, rfl, h⟩
  · exact h.elim
theorem gpir_e {st : List Value} {F : Nat → Int32 → List Value → Prop} (h : gpir st F) : ∃ a i r, st = .int i :: .ref a :: r ∧ F a i r := by
  unfold gpir at h; split at h
  · exact ⟨_, _, _, rfl, h⟩
  · exact h.elim
theorem gpiir_e {st : List Value} {F : Nat → Int32 → Int32 → List Value → Prop} (h : gpiir st F) : ∃ a i x r, st = .int x :: .int i :: .ref a :: r ∧ F a i x r := by
  unfold gpiir at h; split at h
  · exact ⟨_, _, _, _, rfl, h⟩
  · exact h.elim
theorem gprir_e {st : List Value} {F : Nat → Int32 → Nat → List Value → Prop} (h : gprir st F) : ∃ a i v r, st = .ref v :: .int i :: .ref a :: r ∧ F a i v r := by
  unfold gprir at h; split at h
  · exact ⟨_, _, _, _, rfl, h⟩
  · exact h.elim
theorem gprr_e {st : List Value} {F : Nat → Nat → List Value → Prop} (h : gprr st F) : ∃ a b r, st = .ref b :: .ref a :: r ∧ F a b r := by
  unfold gprr at h; split at h
  · exact ⟨_, _, _, rfl, h⟩
  · exact h.elim
theorem glI_e {lv : List (Nat × Value)} {i : Nat} {F : Int32 → Prop} (h : glI lv i F) : ∃ x, lget lv i = some (.int x) ∧ F x := by
  unfold glI at h; split at h
  · next x hx => exact ⟨_, hx, h⟩
  · exact h.elim
theorem glL_e {lv : List (Nat × Value)} {i : Nat} {F : Int64 → Prop} (h : glL lv i F) : ∃ x, lget lv i = some (.long x) ∧ F x := by
  unfold glL at h; split at h
  · next x hx => exact ⟨_, hx, h⟩
  · exact h.elim
theorem glR_e {lv : List (Nat × Value)} {i : Nat} {F : Nat → Prop} (h : glR lv i F) : ∃ x, lget lv i = some (.ref x) ∧ F x := by
  unfold glR at h; split at h
  · next x hx => exact ⟨_, hx, h⟩
  · exact h.elim
/-- a field of an object: its class' number, the list of its fields, the field -/
def ggf (sh : List gS) (a ci k : Nat) (F : List (Option Value) → Option Value → Prop) : Prop := match sh[a]? with
  | some (.inl q) => q.1 = ci ∧ (match q.2[k]? with
    | some f => F q.2 f
    | none => False)
  | _ => False
theorem ggf_e {sh : List gS} {a ci k : Nat} {F : List (Option Value) → Option Value → Prop} (h : ggf sh a ci k F) : ∃ fs f, sh[a]? = some (.inl (ci, fs)) ∧ fs[k]? = some f ∧ F fs f := by
  unfold ggf at h; split at h
  · next q hq =>
    obtain ⟨h1, h2⟩ := h
    split at h2
    · next f hf => exact ⟨q.2, f, by rw [hq, ← h1], hf, h2⟩
    · exact h2.elim
  · exact h.elim
/-- an array of ints or bytes: its length -/
def gar (sh : List gS) (a kd : Nat) (F : Nat → Prop) (E : Prop) : Prop := match sh[a]? with
  | some (.inr (.inl q)) => q.1 = kd ∧ F q.2
  | none => E
  | _ => False
theorem gar_e {sh : List gS} {a kd : Nat} {F : Nat → Prop} {E : Prop} (h : gar sh a kd F E) : (∃ n, sh[a]? = some (.inr (.inl (kd, n))) ∧ F n) ∨ E := by
  unfold gar at h; split at h
  · next q hq => exact Or.inl ⟨q.2, by rw [hq, ← h.1], h.2⟩
  · exact Or.inr h
  · exact h.elim
/-- an array of Streets -/
def gaq (sh : List gS) (a : Nat) (F : List (Option Nat) → Prop) : Prop := match sh[a]? with
  | some (.inr (.inr l)) => F l
  | _ => False
theorem gaq_e {sh : List gS} {a : Nat} {F : List (Option Nat) → Prop} (h : gaq sh a F) : ∃ l, sh[a]? = some (.inr (.inr l)) ∧ F l := by
  unfold gaq at h; split at h
  · next l hl => exact ⟨l, hl, h⟩
  · exact h.elim
def irm (x y : Int32) : Int32 := x - x / y * y
def lrm (x y : Int64) : Int64 := x - x / y * y
def iush (x y : Int32) : Int32 := (x.toUInt32 >>> (y.toUInt32 &&& Int32.toUInt32 31)).toInt32
/-- references that are of cells that are there -/
def gokV (n : Nat) (v : Value) : Bool := match v with
  | .ref k => decide (k < n) || decide (1000000 ≤ k)
  | _ => true
def gokS (n : Nat) (e : gS) : Bool := match e with
  | .inl q => q.2.all (fun o => match o with
    | some v => gokV n v
    | none => true)
  | .inr (.inl _) => true
  | .inr (.inr l) => l.all (fun o => match o with
    | some k => decide (k < n)
    | none => true)
