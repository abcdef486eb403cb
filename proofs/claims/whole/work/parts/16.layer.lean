/-! THE LAYER: a judgement over abstract states. Heap: hi i k is what the cell at place i holds at k (an int, a long, or the number of an enum constant). -/
def iI (z : Int) : Int32 := Int32.ofInt z
def iL (z : Int) : Int64 := Int64.ofInt z
abbrev AV : Type := Int ⊕ Int ⊕ Nat ⊕ Unit
abbrev AI (z : Int) : AV := Sum.inl z
abbrev AL (z : Int) : AV := Sum.inr (Sum.inl z)
abbrev AR (n : Nat) : AV := Sum.inr (Sum.inr (Sum.inl n))
abbrev AU : AV := Sum.inr (Sum.inr (Sum.inr ()))
abbrev HI : Type := Nat → Nat → Int
abbrev inR (z : Int) : Prop := -2147483648 ≤ z ∧ z < 2147483648
abbrev inL (z : Int) : Prop := -9223372036854775808 ≤ z ∧ z < 9223372036854775808
/-- the number of a reference: 0 null, p + 1 the cell at place p -/
def rc (n : Nat) : Option Nat := match n with
  | 0 => none
  | m + 1 => some m
def rv (ad : Nat → Nat) (n : Nat) : Value := va_re ad (rc n)
def cv (ad : Nat → Nat) : AV → Value
  | .inl z => .int (iI z)
  | .inr (.inl z) => .long (iL z)
  | .inr (.inr (.inl n)) => rv ad n
  | .inr (.inr (.inr _)) => .null
def isL : AV → Bool
  | .inr (.inl _) => true
  | _ => false
theorem rv_cat (ad : Nat → Nat) (n : Nat) : (rv ad n).category = 1 := by cases n <;> rfl
theorem cv_cat (ad : Nat → Nat) (v : AV) : (cv ad v).category = if isL v then 2 else 1 := by
  rcases v with z | z | n | u
  · rfl
  · rfl
  · exact rv_cat ad n
  · rfl
/-- an enum constant's number as a reference -/
def ec (z : Int) : Nat := if z < 0 then 0 else 101 + z.toNat
theorem inR_lit : inR 0 ∧ inR 1 := ⟨⟨by decide, by decide⟩, ⟨by decide, by decide⟩⟩
theorem iI_toInt {z : Int} (h : inR z) : (iI z).toInt = z := by
  unfold iI; obtain ⟨h1, h2⟩ := h
  rw [Int32.toInt_ofInt]; show z.bmod 4294967296 = z; exact Int.bmod_eq_of_le (by omega) (by omega)
theorem iL_toInt {z : Int} (h : inL z) : (iL z).toInt = z := by
  unfold iL; obtain ⟨h1, h2⟩ := h
  rw [Int64.toInt_ofInt]; show z.bmod 18446744073709551616 = z; exact Int.bmod_eq_of_le (by omega) (by omega)
theorem iI_of (x : Int32) : iI x.toInt = x := Int32.ofInt_toInt x
theorem iL_of (x : Int64) : iL x.toInt = x := Int64.ofInt_toInt x
theorem toInt_inR (x : Int32) : inR x.toInt := ⟨Int32.le_toInt x, Int32.toInt_lt x⟩
theorem toInt_inL (x : Int64) : inL x.toInt := ⟨Int64.le_toInt x, Int64.toInt_lt x⟩
theorem iI_add (x y : Int) : iI x + iI y = iI (x + y) := (Int32.ofInt_add x y).symm
theorem iI_sub (x y : Int) : iI x - iI y = iI (x - y) := (Int32.ofInt_sub x y).symm
theorem iI_mul (x y : Int) : iI x * iI y = iI (x * y) := (Int32.ofInt_mul x y).symm
theorem iI_neg (x : Int) : -iI x = iI (-x) := (Int32.ofInt_neg x).symm
theorem iL_add (x y : Int) : iL x + iL y = iL (x + y) := (Int64.ofInt_add x y).symm
theorem iL_sub (x y : Int) : iL x - iL y = iL (x - y) := (Int64.ofInt_sub x y).symm
theorem iL_mul (x y : Int) : iL x * iL y = iL (x * y) := (Int64.ofInt_mul x y).symm
theorem iI_lt {x y : Int} (hx : inR x) (hy : inR y) : iI x < iI y ↔ x < y := by rw [Int32.lt_iff_toInt_lt, iI_toInt hx, iI_toInt hy]
theorem iI_le {x y : Int} (hx : inR x) (hy : inR y) : iI x ≤ iI y ↔ x ≤ y := by rw [Int32.le_iff_toInt_le, iI_toInt hx, iI_toInt hy]
theorem iI_eq {x y : Int} (hx : inR x) (hy : inR y) : iI x = iI y ↔ x = y := by
  constructor
  · intro h
    have h2 := congrArg Int32.toInt h
    rwa [iI_toInt hx, iI_toInt hy] at h2
  · intro h; rw [h]
theorem iL_lt {x y : Int} (hx : inL x) (hy : inL y) : iL x < iL y ↔ x < y := by rw [Int64.lt_iff_toInt_lt, iL_toInt hx, iL_toInt hy]
theorem iL_eq {x y : Int} (hx : inL x) (hy : inL y) : iL x = iL y ↔ x = y := by
  constructor
  · intro h
    have h2 := congrArg Int64.toInt h
    rwa [iL_toInt hx, iL_toInt hy] at h2
  · intro h; rw [h]
theorem iI_0 : iI 0 = 0 := by decide +kernel
theorem iI_clamp {z : Int} (h : inR z) (h0 : 0 ≤ z) : (iI z).toNatClampNeg = z.toNat := by
  show (iI z).toInt.toNat = z.toNat
  rw [iI_toInt h]
theorem iI_in {z : Int} {n : Nat} (h0 : 0 ≤ z) (hn : z < n) (hb : n < 2147483648) : vp_in (iI z) n ∧ (iI z).toNatClampNeg = z.toNat := by
  have hr : inR z := ⟨by omega, by omega⟩
  refine ⟨vp_in_iff.mpr ?_, iI_clamp hr h0⟩
  rw [iI_toInt hr]; exact ⟨h0, hn⟩
/-! the cells, by their places -/
abbrev Sh : Type := (Nat × List (Nat × Nat)) ⊕ (Nat × Nat × Nat)
/-- objects: class, fields (0 int or boolean, 1 long, 2 a fixed cell, 3 an enum constant); arrays: kind (0 int, 1 boolean, 2 byte, 3 rows from a place on, 4 enum constants, 5 long), length, first row -/
def sh : Nat → Sh
  | 0 => .inl (6, [(2, 1), (2, 3), (2, 25), (2, 28), (2, 29), (2, 34), (2, 35), (2, 37), (0, 0), (0, 0), (0, 0), (0, 0), (0, 0)])
  | 1 => .inl (1, [(2, 2)])
  | 3 => .inl (3, [(2, 4), (0, 0), (0, 0)])
  | 4 => .inr (3, 20, 5)
  | 25 => .inr (3, 2, 26)
  | 28 => .inr (1, 2, 0)
  | 29 => .inl (5, [(2, 30), (0, 0), (2, 31), (2, 32), (2, 33), (0, 0), (0, 0), (0, 0), (0, 0)])
  | 30 => .inr (0, 600, 0)
  | 31 => .inr (4, 601, 0)
  | 32 => .inr (0, 601, 0)
  | 33 => .inr (0, 601, 0)
  | 34 => .inl (0, [(2, 29), (3, 0), (0, 0), (0, 0), (0, 0), (0, 0)])
  | 35 => .inl (4, [(2, 29), (2, 36), (3, 0), (0, 0), (0, 0)])
  | 36 => .inr (0, 6, 0)
  | 37 => .inl (2, [(2, 38), (0, 0)])
  | 38 => .inr (0, 1280, 0)
  | 39 => .inl (7, [(0, 0), (2, 40), (2, 41), (2, 42), (2, 43), (2, 44), (0, 0), (2, 45), (0, 0), (0, 0), (0, 0), (0, 0), (0, 0), (0, 0), (1, 0), (0, 0), (0, 0), (0, 0), (2, 46), (2, 47), (0, 0), (0, 0), (2, 48), (2, 49), (0, 0), (2, 50), (0, 0), (0, 0), (0, 0), (2, 51), (2, 52), (2, 53), (0, 0)])
  | 40 => .inr (0, 166, 0)
  | 41 => .inr (0, 166, 0)
  | 42 => .inr (0, 3320, 0)
  | 43 => .inr (0, 332, 0)
  | 44 => .inr (1, 2, 0)
  | 45 => .inr (2, 600, 0)
  | 46 => .inr (0, 200, 0)
  | 47 => .inr (0, 800, 0)
  | 48 => .inr (0, 4, 0)
  | 49 => .inr (0, 700, 0)
  | 50 => .inr (0, 700, 0)
  | 51 => .inr (0, 6, 0)
  | 52 => .inr (0, 700, 0)
  | 53 => .inr (0, 1300, 0)
  | 54 => .inr (5, 1, 0)
  | _ => .inr (0, 162, 0)
def fv (ad : Nat → Nat) (f : Nat → Int) (k : Nat) (q : Nat × Nat) : Value := match q.1 with
  | 0 => .int (iI (f k))
  | 1 => .long (iL (f k))
  | 2 => rv ad (q.2 + 1)
  | _ => rv ad (ec (f k))
def fvs (ad : Nat → Nat) (f : Nat → Int) : Nat → List (Nat × Nat) → List Value
  | _, [] => []
  | k, q :: l => fv ad f k q :: fvs ad f (k + 1) l
def acell (ad : Nat → Nat) (f : Nat → Int) (tag n b : Nat) : vp_A := match tag with
  | 3 => (n, .inr (.inr (.inr (.inr (fun j => some (ad (b + j)))))))
  | 4 => (n, .inr (.inr (.inr (.inr (fun j => (rc (ec (f j))).map ad)))))
  | 5 => (n, .inr (.inl (fun j => iL (f j))))
  | _ => (n, .inl (fun j => iI (f j)))
def cellOf (ad : Nat → Nat) (cy : Nat → ClassId) (f : Nat → Int) (s : Sh) : va_E := match s with
  | .inl (ci, fl) => .inr (ci, fvs ad f 0 fl)
  | .inr (tag, n, b) => .inl (cy tag, acell ad f tag n b)
def NW : Nat := 55
def wld (ad : Nat → Nat) (cy : Nat → ClassId) (hi : HI) : va_W := (List.range NW).map (fun i => (ad i, cellOf ad cy (hi i) (sh i)))
def tysOf (cy : Nat → ClassId) : List (ClassId × FieldType) := [(cy 0, .int), (cy 1, .boolean), (cy 2, .byte), (cy 3, .array .int), (cy 4, .object "LateSet$Sign"), (cy 5, .long)]
theorem wld_at {ad : Nat → Nat} {cy : Nat → ClassId} {hi : HI} {i : Nat} (h : i < NW) : (wld ad cy hi)[i]? = some (ad i, cellOf ad cy (hi i) (sh i)) := by
  simp [wld, h]
theorem wld_len (ad : Nat → Nat) (cy : Nat → ClassId) (hi : HI) : (wld ad cy hi).length = NW := by simp [wld]
def hput (hi : HI) (i : Nat) (f : Nat → Int) : HI := fun a => if a = i then f else hi a
def updI (f : Nat → Int) (k : Nat) (z : Int) : Nat → Int := fun b => if b = k then z else f b
theorem hput_same (hi : HI) (i : Nat) (f : Nat → Int) : hput hi i f i = f := if_pos rfl
theorem hput_ne (hi : HI) {i j : Nat} (f : Nat → Int) (h : j ≠ i) : hput hi i f j = hi j := if_neg h
theorem updI_same (f : Nat → Int) (k : Nat) (z : Int) : updI f k z k = z := if_pos rfl
theorem updI_ne (f : Nat → Int) {k j : Nat} (z : Int) (h : j ≠ k) : updI f k z j = f j := if_neg h
theorem wld_set {ad : Nat → Nat} {cy : Nat → ClassId} {hi : HI} {i : Nat} {f : Nat → Int} {e : va_E} (h : i < NW) (he : cellOf ad cy f (sh i) = e) : (wld ad cy hi).set i (ad i, e) = wld ad cy (hput hi i f) := by
  apply List.ext_getElem?
  intro j
  by_cases hj : j < NW
  · rw [wld_at hj]
    by_cases e1 : j = i
    · subst e1
      rw [List.getElem?_set_self (by rw [wld_len]; exact hj), hput_same, he]
    · rw [List.getElem?_set_ne (Ne.symm e1), wld_at hj, hput_ne _ _ e1]
  · rw [List.getElem?_eq_none (by rw [List.length_set, wld_len]; omega), List.getElem?_eq_none (by rw [wld_len]; omega)]
/-- what holds of every state: numbers are the machine's -/
def RG (hi : HI) : Prop := (∀ i k, inL (hi i k)) ∧ ∀ i k, ¬ (i = 39 ∧ k = 14) → i ≠ 54 → inR (hi i k)
theorem RG.put {hi : HI} {i k : Nat} {z : Int} (h : RG hi) (hz : inR z) : RG (hput hi i (updI (hi i) k z)) := by
  have hz2 : inL z := ⟨by have := hz.1; omega, by have := hz.2; omega⟩
  refine ⟨fun a b => ?_, fun a b h1 h2 => ?_⟩
  · by_cases ha : a = i
    · subst ha; rw [hput_same]; by_cases hb : b = k
      · subst hb; rw [updI_same]; exact hz2
      · rw [updI_ne _ _ hb]; exact h.1 a b
    · rw [hput_ne _ _ ha]; exact h.1 a b
  · by_cases ha : a = i
    · subst ha; rw [hput_same]; by_cases hb : b = k
      · subst hb; rw [updI_same]; exact hz
      · rw [updI_ne _ _ hb]; exact h.2 a b h1 h2
    · rw [hput_ne _ _ ha]; exact h.2 a b h1 h2
theorem RG.putL {hi : HI} {i k : Nat} {z : Int} (h : RG hi) (hz : inL z) (hik : (i = 39 ∧ k = 14) ∨ i = 54) : RG (hput hi i (updI (hi i) k z)) := by
  refine ⟨fun a b => ?_, fun a b h1 h2 => ?_⟩
  · by_cases ha : a = i
    · subst ha; rw [hput_same]; by_cases hb : b = k
      · subst hb; rw [updI_same]; exact hz
      · rw [updI_ne _ _ hb]; exact h.1 a b
    · rw [hput_ne _ _ ha]; exact h.1 a b
  · by_cases ha : a = i
    · subst ha; rw [hput_same]; by_cases hb : b = k
      · subst hb; rcases hik with q | q
        · exact absurd q h1
        · exact absurd q h2
      · rw [updI_ne _ _ hb]; exact h.2 a b h1 h2
    · rw [hput_ne _ _ ha]; exact h.2 a b h1 h2
theorem RG.putA {hi : HI} {i : Nat} {f : Nat → Int} (h : RG hi) (hf : ∀ k, inR (f k)) : RG (hput hi i f) := by
  refine ⟨fun a b => ?_, fun a b h1 h2 => ?_⟩
  · by_cases ha : a = i
    · subst ha; rw [hput_same]; have := hf b; exact ⟨by have := this.1; omega, by have := this.2; omega⟩
    · rw [hput_ne _ _ ha]; exact h.1 a b
  · by_cases ha : a = i
    · subst ha; rw [hput_same]; exact hf b
    · rw [hput_ne _ _ ha]; exact h.2 a b h1 h2
/-! what never changes: the enum constants (places 100 + i), their words (200 + i), texts of a report (241 ..), the bytes of these (300 + ..), the table of constants (400) -/
def sgN : List String := ["END", "NO_TOKEN", "WHOLE", "OTHER_WORD", "PLUS", "MINUS", "LESS", "EQUAL", "MORE", "OPEN", "CLOSE", "SEMICOLON", "BORN", "FROM", "TO", "DIES", "UNBORN", "REVIVES", "SHIFTS", "BY", "AT", "LOCK", "UNDO", "LIVES", "HOURS", "RUN", "WHERE", "OR", "AND", "NOT", "NUMBER", "BIRTH", "DEATH", "LONG", "WORTH", "PIECES", "HOUR", "COUNT", "SUM", "LEAST", "MOST"]
def sgL : List Int := [-1, -1, -1, -1, -1, -1, -1, -1, -1, -1, -1, -1, -1, -1, -1, -1, -1, -1, -1, -1, -1, -1, -1, -1, -1, -1, -1, -1, -1, -1, 0, 1, 2, 3, 4, 5, -1, -1, -1, -1, -1]
def sgH : List Int := [-1, -1, -1, -1, -1, -1, -1, -1, -1, -1, -1, -1, -1, -1, -1, -1, -1, -1, -1, -1, -1, -1, -1, -1, -1, -1, -1, -1, -1, -1, -1, -1, -1, -1, -1, -1, 0, 1, 2, 3, 4]
def sgB : List (List Int) := [[], [], [], [], [43], [45], [60], [61], [62], [40], [41], [59], [98, 111, 114, 110], [102, 114, 111, 109], [116, 111], [100, 105, 101, 115], [117, 110, 98, 111, 114, 110], [114, 101, 118, 105, 118, 101, 115], [115, 104, 105, 102, 116, 115], [98, 121], [97, 116], [108, 111, 99, 107], [117, 110, 100, 111], [108, 105, 118, 101, 115], [104, 111, 117, 114, 115], [114, 117, 110], [119, 104, 101, 114, 101], [111, 114], [97, 110, 100], [110, 111, 116], [110, 117, 109, 98, 101, 114], [98, 105, 114, 116, 104], [100, 101, 97, 116, 104], [108, 111, 110, 103], [119, 111, 114, 116, 104], [112, 105, 101, 99, 101, 115], [104, 111, 117, 114], [99, 111, 117, 110, 116], [115, 117, 109], [108, 101, 97, 115, 116], [109, 111, 115, 116], [32, 102, 114, 111, 109, 32], [32, 111, 110], [32, 116, 111, 32], [32, 119, 111, 114, 116, 104, 32], [32, 59, 32]]
/-- the static facts: of state s, whose cells outside A nobody writes -/
def Stc (ad : Nat → Nat) (A : Nat → Prop) (s : State) (H : Heap) : Prop :=
  (∀ i, i < 41 → va_Z "LateSet$Sign" (sgN.getD i "") "LLateSet$Sign;" (.ref (ad (100 + i))) A s H ∧ va_O "LateSet$Sign" (ad (100 + i)) A s H ∧ va_OF "LateSet$Sign" "word" "Ljava/lang/String;" (.ref (ad (200 + i))) (ad (100 + i)) A s H ∧ va_OF "LateSet$Sign" "lifeField" "I" (.int (iI (sgL.getD i 0))) (ad (100 + i)) A s H ∧ va_OF "LateSet$Sign" "hourField" "I" (.int (iI (sgH.getD i 0))) (ad (100 + i)) A s H) ∧
  (∀ i j, i < 41 → j < 41 → ad (100 + i) = ad (100 + j) → i = j) ∧
  (∀ i, i < 46 → va_O "java/lang/String" (ad (200 + i)) A s H ∧ va_OF "java/lang/String" "coder" "B" (.int 0) (ad (200 + i)) A s H ∧ va_OF "java/lang/String" "value" "[B" (.ref (ad (300 + i))) (ad (200 + i)) A s H ∧ va_T .byte (ad (300 + i)) (sgB.getD i []).length (fun j => .int (iI ((sgB.getD i []).getD j 0))) A s H) ∧
  va_Z "LateSet" "SIGNS" "[LLateSet$Sign;" (.ref (ad 400)) A s H ∧ va_T (.object "LateSet$Sign") (ad 400) 41 (fun j => .ref (ad (100 + j))) A s H ∧
  va_Z "java/lang/String" "COMPACT_STRINGS" "Z" (.int 1) A s H ∧
  (va_Z "jdk/internal/util/Preconditions" "SIOOBE_FORMATTER" "Ljava/util/function/BiFunction;" .null A s H ∨ va_Z "jdk/internal/util/Preconditions" "SIOOBE_FORMATTER" "Ljava/util/function/BiFunction;" (.ref (ad 402)) A s H)
/-- links to private members of the nest -/
def nestM : List (String × Nat × MethodName) := [("LateSet", 301, yX4_condHolds), (RX1, 35, yX7_isWithin), (RX1, 46, yX7_piecesOf), (RX1, 50, yX7_hoursFrom), (RX4, 91, yX7_piecesOf)]
def Ldc (ad : Nat → Nat) (s : State) : Prop := (vk_R "LateSet" 315 " from " (ad 241) s ∧ vk_R "LateSet" 321 " on" (ad 242) s ∧ vk_R "LateSet" 323 " to " (ad 243) s ∧ vk_R "LateSet" 325 " worth " (ad 244) s ∧ vk_R "LateSet" 327 " ; " (ad 245) s) ∧ (∀ q ∈ nestM, va_Nw (.methodLinkNest q.1 q.2.1 q.2.2 "LateSet") s) ∧ va_Nw (.fieldLinkNest "LateSet$Tape" 94 "LateSet" "SIGNS" "[LLateSet$Sign;" "LateSet") s
theorem Stc.moved {ad : Nat → Nat} {A : Nat → Prop} {u U : State} {H : Heap} (hvm : u.vm.Alike U.vm) (h : Stc ad A u H) : Stc ad A U H := by
  obtain ⟨h1, h2, h3, h4, h5, h6, h7⟩ := h
  exact ⟨fun i hi => ⟨va_Z.moved hvm (h1 i hi).1, va_O.moved hvm (h1 i hi).2.1, va_OF.moved hvm (h1 i hi).2.2.1, va_OF.moved hvm (h1 i hi).2.2.2.1, va_OF.moved hvm (h1 i hi).2.2.2.2⟩, h2, fun i hi => ⟨va_O.moved hvm (h3 i hi).1, va_OF.moved hvm (h3 i hi).2.1, va_OF.moved hvm (h3 i hi).2.2.1, va_T.moved hvm (h3 i hi).2.2.2⟩, va_Z.moved hvm h4, va_T.moved hvm h5, va_Z.moved hvm h6, h7.imp (va_Z.moved hvm) (va_Z.moved hvm)⟩
theorem Stc.kept {ad : Nat → Nat} {A : Nat → Prop} {U : State} {H H1 : Heap} (h : Stc ad A U H) (hq : ∀ a : Nat, a < H.size → ¬ A a → H1[a]? = H[a]?) : Stc ad A U H1 := by
  obtain ⟨h1, h2, h3, h4, h5, h6, h7⟩ := h
  exact ⟨fun i hi => ⟨(h1 i hi).1.kept hq, (h1 i hi).2.1.kept hq, (h1 i hi).2.2.1.kept hq, (h1 i hi).2.2.2.1.kept hq, (h1 i hi).2.2.2.2.kept hq⟩, h2, fun i hi => ⟨(h3 i hi).1.kept hq, (h3 i hi).2.1.kept hq, (h3 i hi).2.2.1.kept hq, (h3 i hi).2.2.2.kept hq⟩, h4.kept hq, h5.kept hq, h6.kept hq, h7.imp (fun h => h.kept hq) (fun h => h.kept hq)⟩
theorem Ldc.warm {ad : Nat → Nat} {s U : State} (hW : s.WarmedH U.vm) (h : Ldc ad s) : Ldc ad U := ⟨⟨h.1.1.warm hW, h.1.2.1.warm hW, h.1.2.2.1.warm hW, h.1.2.2.2.1.warm hW, h.1.2.2.2.2.warm hW⟩, fun q hq => va_Nw.warmM hW (h.2.1 q hq), va_Nw.warmF hW h.2.2⟩
theorem Ldc.same {ad : Nat → Nat} {u U : State} (hv : U.vm = u.vm) (h : Ldc ad u) : Ldc ad U := ⟨⟨h.1.1.same hv, h.1.2.1.same hv, h.1.2.2.1.same hv, h.1.2.2.2.1.same hv, h.1.2.2.2.2.same hv⟩, fun q hq => va_Nw.same rfl hv.symm (h.2.1 q hq), va_Nw.same rfl hv.symm h.2.2⟩
/-- a method: its code, its words, its room, its class, what it returns, its locals -/
abbrev Kd : Type := ByteArray × List Cond × Room × String × Option FieldType × Nat
def rvO (ad : Nat → Nat) : AV → Option Value
  | .inr (.inr (.inr _)) => none
  | .inl z => some (.int (iI z))
  | .inr (.inl z) => some (.long (iL z))
  | .inr (.inr (.inl n)) => some (rv ad n)
/-- a method's end: an answer and a heap that are as post says, nothing else changed -/
def PQ (post : AV → HI → Prop) (D : va_G) (ad : Nat → Nat) (cy : Nat → ClassId) (A : Nat → Prop) : Array Value → State → Outcome → State → Prop := fun _ st oc t =>
  (∃ (r : AV) (hi : HI), oc = .returned (rvO ad r) ∧ post r hi ∧ RG hi ∧ va_P D vwCl (wld ad cy hi) t.heap) ∧ va_F A st t
/-- a method's start -/
def PC (D : va_G) (ad : Nat → Nat) (cy : Nat → ClassId) (A : Nat → Prop) (a : List AV) (hi : HI) : Array Value → State → Prop := fun v U =>
  v = (a.map (cv ad)).toArray ∧ (∀ q, U.heap.size ≤ q → A q) ∧ Stc ad A U U.heap ∧ Ldc ad U ∧ va_K D vwCl (tysOf cy) U ∧ va_P D vwCl (wld ad cy hi) U.heap ∧ va_D A (wld ad cy hi) ∧ RG hi
theorem PC.blind {D : va_G} {ad : Nat → Nat} {cy : Nat → ClassId} {A : Nat → Prop} {a : List AV} {hi : HI} : FrameBlind (PC D ad cy A a hi) := by
  intro v U g mk h
  obtain ⟨h1, h2, h3, h4, h5, h6, h7, h8⟩ := h
  exact ⟨h1, h2, Stc.moved (u := U) (U := U.calling g mk v) (Vm.Alike.refl U.vm) h3, Ldc.same (u := U) (U := U.calling g mk v) rfl h4, va_K.moved (u := U) (U := U.calling g mk v) (Vm.Alike.refl U.vm) h5, h6, h7, h8⟩
/-- what holds in the midst of a method -/
def ZC (k : Kd) (p : Program) (s : State) (m : MethodId) (args : Array Value) (meth : Method) (c : Code) (D : va_G) (ad : Nat → Nat) (cy : Nat → ClassId) (A : Nat → Prop) (H : Heap) (locs : List Loc) (ls : Array Slot) (lv : List (Nat × AV)) (hi : HI) : Prop :=
  p.tables.exec = Jvm.exec ∧ c.code = k.1 ∧ meth.sig.returnType = k.2.2.2.2.1 ∧ c.maxLocals = k.2.2.2.2.2 ∧ s.vm.findClass k.2.2.2.1 = some m.cls ∧ meth.locks = false ∧ (∀ w ∈ k.2.1, w.before args s = true) ∧ (∀ q, s.heap.size ≤ q → A q) ∧ Stc ad A s s.heap ∧ Ldc ad s ∧ va_K D vwCl (tysOf cy) s ∧ va_P D vwCl (wld ad cy hi) H ∧ va_D A (wld ad cy hi) ∧ va_S A s.heap H locs ∧ RG hi ∧ lv_has ls k.2.2.2.2.2 (lv.map (fun q => (q.1, cv ad q.2)))
def Z (k : Kd) (post : AV → HI → Prop) (pc : Nat) (lv : List (Nat × AV)) (stk : List AV) (hi : HI) : Prop :=
  ∀ (l : Launch) (p : Program) (e : Env) (s : State) (m : MethodId) (args : Array Value) (below : List Frame) (meth : Method) (c : Code) (D : va_G) (ad : Nat → Nat) (cy : Nat → ClassId) (A : Nat → Prop) (H : Heap) (locs : List Loc) (ls : Array Slot), ZC k p s m args meth c D ad cy A H locs ls lv hi →
    W p l e k.2.2.1 s m args below meth c H locs 0 0 (MQ below (PQ post D ad cy A) args s 0 0 A) (F0 m pc ls (stk.map (cv ad)))
/-- a contract: T a hi Q says that from arguments a and heap hi every end of the method is one of Q -/
def Ct (k : Kd) (y : MethodName) (T : List AV → HI → (AV → HI → Prop) → Prop) : Prop :=
  ∀ (l : Launch) (D : va_G) (ad : Nat → Nat) (cy : Nat → ClassId) (A : Nat → Prop) (a : List AV) (hi : HI) (post : AV → HI → Prop), T a hi post → Met l y k.2.1 k.2.2.1 (PC D ad cy A a hi) (PQ post D ad cy A) 0 0 A
def lva : Nat → List AV → List (Nat × AV)
  | _, [] => []
  | i, v :: vs => (i, v) :: lva (if isL v then i + 2 else i + 1) vs
theorem lva_map (ad : Nat → Nat) : ∀ (a : List AV) (i : Nat), (lva i a).map (fun q => (q.1, cv ad q.2)) = lv_args i (a.map (cv ad))
  | [], _ => rfl
  | v :: vs, i => by
    have e : (if (cv ad v).category = 2 then i + 2 else i + 1) = (if isL v then i + 2 else i + 1) := by
      rw [cv_cat]; cases isL v <;> simp
    simp only [lva, List.map_cons, lv_args, e, lva_map ad vs]
def szA : List AV → Nat
  | [] => 0
  | v :: vs => (if isL v then 2 else 1) + szA vs
theorem szA_len (ad : Nat → Nat) : ∀ a : List AV, (lg_sl (a.map (cv ad))).length = szA a
  | [] => rfl
  | v :: vs => by
    have ih := szA_len ad vs
    unfold lg_sl at ih ⊢
    rw [List.map_cons, List.flatMap_cons, List.length_append, ih, cv_cat]
    cases hv : isL v <;> simp [szA, hv]
theorem Ct.of {k : Kd} {y : MethodName} {ws' : List Cond} {T : List AV → HI → (AV → HI → Prop) → Prop} (hy : plainName y.cls = true) (hw : k.2.1 = Cond.code y k.1 k.2.2.2.2.2 k.2.2.2.2.1 :: ws') (hown : k.2.2.2.1 = y.cls)
    (h : ∀ a hi post, T a hi post → szA a ≤ k.2.2.2.2.2 ∧ Z k post 0 (lva 0 a) [] hi) : Ct k y T := by
  intro l D ad cy A a hi post hT
  refine Met.ofW (cc := k.1) (maxL := k.2.2.2.2.2) (ret := k.2.2.2.2.1) hy hw ?_
  intro p e s m args below meth c s₁ B hml hv
  obtain ⟨rfl, hA, hSt, hLd, hK, hP, hD, hR⟩ := hv
  obtain ⟨hsz, hZ⟩ := h a hi post hT
  have hts := atoms_spec (ws := k.2.1) B.pre
  have hown2 : s.vm.findClass k.2.2.2.1 = some m.cls := by rw [hown]; exact findClass_of_methodNamed B.named
  have hl := lv_entry (a.map (cv ad)) (n := k.2.2.2.2.2) (by rw [szA_len]; exact hsz)
  rw [lg_entry_eq]
  generalize (lg_sl (a.map (cv ad)) ++ List.replicate (k.2.2.2.2.2 - (lg_sl (a.map (cv ad))).length) Slot.unset).toArray = ls at hl ⊢
  rw [← lva_map] at hl
  exact hZ l p e s m _ below meth c D ad cy A s.heap [] ls ⟨B.exec, B.bytes, B.returns, hml, hown2, B.notSynchronized, hts, hA, hSt, hLd, hK, hP, hD, va_S.rf, hR, hl⟩
section ZR
variable {k : Kd} {post : AV → HI → Prop} {pc : Nat} {lv : List (Nat × AV)} {stk : List AV} {hi : HI}
/-- the range of what the heap holds, whenever it is wanted -/
theorem z_rg (h : RG hi → Z k post pc lv stk hi) : Z k post pc lv stk hi := fun l p e s m args below meth c D ad cy A H locs ls hc => h hc.2.2.2.2.2.2.2.2.2.2.2.2.2.2.1 l p e s m args below meth c D ad cy A H locs ls hc
theorem z_iconst {n : Int} {v : Int} (hd : decode k.1 pc = .ok (.iconst n, 1)) (hv : n = v) (kk : Z k post (pc + 1) lv (AI v :: stk) hi) : Z k post pc lv stk hi := by
  subst hv
  intro l p e s m args below meth c D ad cy A H locs ls hc
  exact lv_iconst (v := iI n) hc.1 hc.2.1 hd rfl (kk l p e s m args below meth c D ad cy A H locs ls hc)
theorem z_bipush {n : Int} {v : Int} (hd : decode k.1 pc = .ok (.bipush n, 2)) (hv : (Int8.ofInt n).toInt32 = iI v) (kk : Z k post (pc + 2) lv (AI v :: stk) hi) : Z k post pc lv stk hi := by
  intro l p e s m args below meth c D ad cy A H locs ls hc
  exact lv_bipush (v := iI v) hc.1 hc.2.1 hd hv (kk l p e s m args below meth c D ad cy A H locs ls hc)
theorem z_sipush {n : Int} {v : Int} (hd : decode k.1 pc = .ok (.sipush n, 3)) (hv : (Int16.ofInt n).toInt32 = iI v) (kk : Z k post (pc + 3) lv (AI v :: stk) hi) : Z k post pc lv stk hi := by
  intro l p e s m args below meth c D ad cy A H locs ls hc
  exact lv_sipush (v := iI v) hc.1 hc.2.1 hd hv (kk l p e s m args below meth c D ad cy A H locs ls hc)
theorem z_lconst {n : Fin 2} {v : Int} (hd : decode k.1 pc = .ok (.lconst n, 1)) (hv : Int64.ofNat (n : Nat) = iL v) (kk : Z k post (pc + 1) lv (AL v :: stk) hi) : Z k post pc lv stk hi := by
  intro l p e s m args below meth c D ad cy A H locs ls hc
  exact lv_lconst (v := iL v) hc.1 hc.2.1 hd hv (kk l p e s m args below meth c D ad cy A H locs ls hc)
theorem z_ldc2 {index : Nat} {v : Int} {x : Int64} (hw : Cond.constantLong k.2.2.2.1 index x ∈ k.2.1) (hx : x = iL v) (hd : decode k.1 pc = .ok (.ldc2_w index, 3)) (kk : Z k post (pc + 3) lv (AL v :: stk) hi) : Z k post pc lv stk hi := by
  subst hx
  intro l p e s m args below meth c D ad cy A H locs ls hc
  exact lv_ldc2 (v := iL v) hc.1 hc.2.1 hc.2.2.2.2.1 (hc.2.2.2.2.2.2.1 _ hw) hd (kk l p e s m args below meth c D ad cy A H locs ls hc)
theorem z_at {ad : Nat → Nat} {ls : Array Slot} {n : Nat} {lv : List (Nat × AV)} (h : lv_has ls n (lv.map (fun q => (q.1, cv ad q.2)))) (j : Nat) {i : Nat} {v : AV} (hj : lv[j]? = some (i, v)) : ls[i]? = some (.val (cv ad v)) := lv_at h j (by rw [List.getElem?_map, hj]; rfl)
theorem z_iload_n {q : Fin 4} {i : Nat} {x : Int} (hd : decode k.1 pc = .ok (.iload_n q, 1)) (hq : (q : Nat) = i) (j : Nat) (hj : lv[j]? = some (i, AI x)) (kk : Z k post (pc + 1) lv (AI x :: stk) hi) : Z k post pc lv stk hi := by
  intro l p e s m args below meth c D ad cy A H locs ls hc
  exact lv_iload_n (x := iI x) hc.1 hc.2.1 hd hq (z_at hc.2.2.2.2.2.2.2.2.2.2.2.2.2.2.2 j hj) (kk l p e s m args below meth c D ad cy A H locs ls hc)
theorem z_iload {i : Nat} {x : Int} (hd : decode k.1 pc = .ok (.iload i, 2)) (j : Nat) (hj : lv[j]? = some (i, AI x)) (kk : Z k post (pc + 2) lv (AI x :: stk) hi) : Z k post pc lv stk hi := by
  intro l p e s m args below meth c D ad cy A H locs ls hc
  exact lv_iload (x := iI x) hc.1 hc.2.1 hd (z_at hc.2.2.2.2.2.2.2.2.2.2.2.2.2.2.2 j hj) (kk l p e s m args below meth c D ad cy A H locs ls hc)
theorem z_lload_n {q : Fin 4} {i : Nat} {x : Int} (hd : decode k.1 pc = .ok (.lload_n q, 1)) (hq : (q : Nat) = i) (j : Nat) (hj : lv[j]? = some (i, AL x)) (kk : Z k post (pc + 1) lv (AL x :: stk) hi) : Z k post pc lv stk hi := by
  intro l p e s m args below meth c D ad cy A H locs ls hc
  exact lv_lload_n (x := iL x) hc.1 hc.2.1 hd hq (z_at hc.2.2.2.2.2.2.2.2.2.2.2.2.2.2.2 j hj) (kk l p e s m args below meth c D ad cy A H locs ls hc)
theorem z_lload {i : Nat} {x : Int} (hd : decode k.1 pc = .ok (.lload i, 2)) (j : Nat) (hj : lv[j]? = some (i, AL x)) (kk : Z k post (pc + 2) lv (AL x :: stk) hi) : Z k post pc lv stk hi := by
  intro l p e s m args below meth c D ad cy A H locs ls hc
  exact lv_lload (x := iL x) hc.1 hc.2.1 hd (z_at hc.2.2.2.2.2.2.2.2.2.2.2.2.2.2.2 j hj) (kk l p e s m args below meth c D ad cy A H locs ls hc)
theorem lv_aloadv {p : Program} {l : Launch} {e : Env} {R : Room} {s : State} {m : MethodId} {args : Array Value} {below : List Frame} {meth : Method} {c : Code} {H : Heap} {locs : List Loc} {cells slots : Nat} {Q : State → Prop} {cc : ByteArray} {pc : Nat} {ls : Array Slot} {rest : List Value} (hexec : p.tables.exec = Jvm.exec) (hb : c.code = cc) {i : Nat} {x : Option Nat} (hdg : decode cc pc = .ok (.aload i, 2)) (hl : ls[i]? = some (.val (va_rf x))) (kk : W p l e R s m args below meth c H locs cells slots Q (F0 m (pc + 2) ls (va_rf x :: rest))) : W p l e R s m args below meth c H locs cells slots Q (F0 m pc ls rest) := by
  cases x with
  | some y => exact lv_aload hexec hb hdg hl kk
  | none =>
    intro T hT X
    obtain ⟨t, a1, b1⟩ := kk T hT X
    refine ⟨t, ?_, b1⟩
    jvm_step X.here [X.here.top, hexec, hb, hdg, hl]
    first | exact a1 | exact ⟨rfl, a1⟩
theorem lv_aloadv_n {p : Program} {l : Launch} {e : Env} {R : Room} {s : State} {m : MethodId} {args : Array Value} {below : List Frame} {meth : Method} {c : Code} {H : Heap} {locs : List Loc} {cells slots : Nat} {Q : State → Prop} {cc : ByteArray} {pc : Nat} {ls : Array Slot} {rest : List Value} (hexec : p.tables.exec = Jvm.exec) (hb : c.code = cc) {q : Fin 4} {i : Nat} {x : Option Nat} (hdg : decode cc pc = .ok (.aload_n q, 1)) (hq : (q : Nat) = i) (hl : ls[i]? = some (.val (va_rf x))) (kk : W p l e R s m args below meth c H locs cells slots Q (F0 m (pc + 1) ls (va_rf x :: rest))) : W p l e R s m args below meth c H locs cells slots Q (F0 m pc ls rest) := by
  cases x with
  | some y => exact lv_aload_n hexec hb hdg hq hl kk
  | none =>
    subst hq
    intro T hT X
    obtain ⟨t, a1, b1⟩ := kk T hT X
    refine ⟨t, ?_, b1⟩
    jvm_step X.here [X.here.top, hexec, hb, hdg, hl]
    first | exact a1 | exact ⟨rfl, a1⟩
theorem z_aload_n {q : Fin 4} {i : Nat} {x : Nat} (hd : decode k.1 pc = .ok (.aload_n q, 1)) (hq : (q : Nat) = i) (j : Nat) (hj : lv[j]? = some (i, AR x)) (kk : Z k post (pc + 1) lv (AR x :: stk) hi) : Z k post pc lv stk hi := by
  intro l p e s m args below meth c D ad cy A H locs ls hc
  exact lv_aloadv_n (x := (rc x).map ad) hc.1 hc.2.1 hd hq (z_at hc.2.2.2.2.2.2.2.2.2.2.2.2.2.2.2 j hj) (kk l p e s m args below meth c D ad cy A H locs ls hc)
theorem z_aload {i : Nat} {x : Nat} (hd : decode k.1 pc = .ok (.aload i, 2)) (j : Nat) (hj : lv[j]? = some (i, AR x)) (kk : Z k post (pc + 2) lv (AR x :: stk) hi) : Z k post pc lv stk hi := by
  intro l p e s m args below meth c D ad cy A H locs ls hc
  exact lv_aloadv (x := (rc x).map ad) hc.1 hc.2.1 hd (z_at hc.2.2.2.2.2.2.2.2.2.2.2.2.2.2.2 j hj) (kk l p e s m args below meth c D ad cy A H locs ls hc)
theorem z_filt {ad : Nat → Nat} {i : Nat} {v : AV} {lv lv' : List (Nat × AV)} (hl : (i, v) :: lv.filter (fun q => !(q.1 == i) && !(q.1 + 1 == i && isL q.2)) = lv') : (i, cv ad v) :: (lv.map (fun q => (q.1, cv ad q.2))).filter (fun q => !(q.1 == i) && !(q.1 + 1 == i && q.2.category == 2)) = lv'.map (fun q => (q.1, cv ad q.2)) := by
  subst hl
  rw [List.map_cons, List.filter_map]
  congr 2
  apply List.filter_congr
  intro q _
  have e : ((cv ad q.2).category == 2) = isL q.2 := by rw [cv_cat]; cases isL q.2 <;> rfl
  simp only [Function.comp, e]
theorem z_filt2 {ad : Nat → Nat} {i : Nat} {v : AV} {lv lv' : List (Nat × AV)} (hl : (i, v) :: lv.filter (fun q => !(q.1 == i) && (!(q.1 == i + 1) && !(q.1 + 1 == i && isL q.2))) = lv') : (i, cv ad v) :: (lv.map (fun q => (q.1, cv ad q.2))).filter (fun q => !(q.1 == i) && (!(q.1 == i + 1) && !(q.1 + 1 == i && q.2.category == 2))) = lv'.map (fun q => (q.1, cv ad q.2)) := by
  subst hl
  rw [List.map_cons, List.filter_map]
  congr 2
  apply List.filter_congr
  intro q _
  have e : ((cv ad q.2).category == 2) = isL q.2 := by rw [cv_cat]; cases isL q.2 <;> rfl
  simp only [Function.comp, e]
/-- the locals are others -/
theorem ZC.loc {p : Program} {s : State} {m : MethodId} {args : Array Value} {meth : Method} {c : Code} {D : va_G} {ad : Nat → Nat} {cy : Nat → ClassId} {A : Nat → Prop} {H : Heap} {locs : List Loc} {ls ls' : Array Slot} {lv lv' : List (Nat × AV)} (h : ZC k p s m args meth c D ad cy A H locs ls lv hi) (h' : lv_has ls' k.2.2.2.2.2 (lv'.map (fun q => (q.1, cv ad q.2)))) : ZC k p s m args meth c D ad cy A H locs ls' lv' hi :=
  ⟨h.1, h.2.1, h.2.2.1, h.2.2.2.1, h.2.2.2.2.1, h.2.2.2.2.2.1, h.2.2.2.2.2.2.1, h.2.2.2.2.2.2.2.1, h.2.2.2.2.2.2.2.2.1, h.2.2.2.2.2.2.2.2.2.1, h.2.2.2.2.2.2.2.2.2.2.1, h.2.2.2.2.2.2.2.2.2.2.2.1, h.2.2.2.2.2.2.2.2.2.2.2.2.1, h.2.2.2.2.2.2.2.2.2.2.2.2.2.1, h.2.2.2.2.2.2.2.2.2.2.2.2.2.2.1, h'⟩
/-- the heap is another -/
theorem ZC.heap {hi' : HI} {p : Program} {s : State} {m : MethodId} {args : Array Value} {meth : Method} {c : Code} {D : va_G} {ad : Nat → Nat} {cy : Nat → ClassId} {A : Nat → Prop} {H H' : Heap} {locs locs' : List Loc} {ls : Array Slot} {lv : List (Nat × AV)} (h : ZC k p s m args meth c D ad cy A H locs ls lv hi) (hP : va_P D vwCl (wld ad cy hi') H') (hD : va_D A (wld ad cy hi')) (hS : va_S A s.heap H' locs') (hR : RG hi') : ZC k p s m args meth c D ad cy A H' locs' ls lv hi' :=
  ⟨h.1, h.2.1, h.2.2.1, h.2.2.2.1, h.2.2.2.2.1, h.2.2.2.2.2.1, h.2.2.2.2.2.2.1, h.2.2.2.2.2.2.2.1, h.2.2.2.2.2.2.2.2.1, h.2.2.2.2.2.2.2.2.2.1, h.2.2.2.2.2.2.2.2.2.2.1, hP, hD, hS, hR, h.2.2.2.2.2.2.2.2.2.2.2.2.2.2.2⟩
theorem z_sub {lv' : List (Nat × AV)} (js : List Nat) (hl : js.filterMap (fun j => lv[j]?) = lv') (kk : Z k post pc lv' stk hi) : Z k post pc lv stk hi := by
  intro l p e s m args below meth c D ad cy A H locs ls hc
  refine kk l p e s m args below meth c D ad cy A H locs ls (hc.loc (lv_sub hc.2.2.2.2.2.2.2.2.2.2.2.2.2.2.2 js ?_))
  subst hl
  unfold lv_pick
  rw [List.map_filterMap]
  congr 1
  funext j
  rw [List.getElem?_map]
theorem z_istore_n {q : Fin 4} {i : Nat} {x : Int} {lv' : List (Nat × AV)} (hd : decode k.1 pc = .ok (.istore_n q, 1)) (hq : (q : Nat) = i) (hn : i < k.2.2.2.2.2) (hl : (i, AI x) :: lv.filter (fun q => !(q.1 == i) && !(q.1 + 1 == i && isL q.2)) = lv') (kk : Z k post (pc + 1) lv' stk hi) : Z k post pc lv (AI x :: stk) hi := by
  intro l p e s m args below meth c D ad cy A H locs ls hc
  exact lv_istore_n (x := iI x) hc.1 hc.2.1 hd hq hc.2.2.2.2.2.2.2.2.2.2.2.2.2.2.2 hn (z_filt hl) (fun ls' hl' => kk l p e s m args below meth c D ad cy A H locs ls' (hc.loc hl'))
theorem z_istore {i : Nat} {x : Int} {lv' : List (Nat × AV)} (hd : decode k.1 pc = .ok (.istore i, 2)) (hn : i < k.2.2.2.2.2) (hl : (i, AI x) :: lv.filter (fun q => !(q.1 == i) && !(q.1 + 1 == i && isL q.2)) = lv') (kk : Z k post (pc + 2) lv' stk hi) : Z k post pc lv (AI x :: stk) hi := by
  intro l p e s m args below meth c D ad cy A H locs ls hc
  exact lv_istore (x := iI x) hc.1 hc.2.1 hd hc.2.2.2.2.2.2.2.2.2.2.2.2.2.2.2 hn (z_filt hl) (fun ls' hl' => kk l p e s m args below meth c D ad cy A H locs ls' (hc.loc hl'))
theorem z_lstore_n {q : Fin 4} {i : Nat} {x : Int} {lv' : List (Nat × AV)} (hd : decode k.1 pc = .ok (.lstore_n q, 1)) (hq : (q : Nat) = i) (hn : i + 1 < k.2.2.2.2.2) (hl : (i, AL x) :: lv.filter (fun q => !(q.1 == i) && (!(q.1 == i + 1) && !(q.1 + 1 == i && isL q.2))) = lv') (kk : Z k post (pc + 1) lv' stk hi) : Z k post pc lv (AL x :: stk) hi := by
  intro l p e s m args below meth c D ad cy A H locs ls hc
  exact lv_lstore_n (x := iL x) hc.1 hc.2.1 hd hq hc.2.2.2.2.2.2.2.2.2.2.2.2.2.2.2 hn (z_filt2 hl) (fun ls' hl' => kk l p e s m args below meth c D ad cy A H locs ls' (hc.loc hl'))
theorem z_lstore {i : Nat} {x : Int} {lv' : List (Nat × AV)} (hd : decode k.1 pc = .ok (.lstore i, 2)) (hn : i + 1 < k.2.2.2.2.2) (hl : (i, AL x) :: lv.filter (fun q => !(q.1 == i) && (!(q.1 == i + 1) && !(q.1 + 1 == i && isL q.2))) = lv') (kk : Z k post (pc + 2) lv' stk hi) : Z k post pc lv (AL x :: stk) hi := by
  intro l p e s m args below meth c D ad cy A H locs ls hc
  exact lv_lstore (x := iL x) hc.1 hc.2.1 hd hc.2.2.2.2.2.2.2.2.2.2.2.2.2.2.2 hn (z_filt2 hl) (fun ls' hl' => kk l p e s m args below meth c D ad cy A H locs ls' (hc.loc hl'))
theorem z_astore_n {q : Fin 4} {i : Nat} {x : Nat} {lv' : List (Nat × AV)} (hd : decode k.1 pc = .ok (.astore_n q, 1)) (hq : (q : Nat) = i) (hn : i < k.2.2.2.2.2) (hx : 0 < x) (hl : (i, AR x) :: lv.filter (fun q => !(q.1 == i) && !(q.1 + 1 == i && isL q.2)) = lv') (kk : Z k post (pc + 1) lv' stk hi) : Z k post pc lv (AR x :: stk) hi := by
  intro l p e s m args below meth c D ad cy A H locs ls hc
  cases x with
  | zero => omega
  | succ x => exact lv_astore_n (x := ad x) hc.1 hc.2.1 hd hq hc.2.2.2.2.2.2.2.2.2.2.2.2.2.2.2 hn (z_filt hl) (fun ls' hl' => kk l p e s m args below meth c D ad cy A H locs ls' (hc.loc hl'))
theorem z_astore {i : Nat} {x : Nat} {lv' : List (Nat × AV)} (hd : decode k.1 pc = .ok (.astore i, 2)) (hn : i < k.2.2.2.2.2) (hx : 0 < x) (hl : (i, AR x) :: lv.filter (fun q => !(q.1 == i) && !(q.1 + 1 == i && isL q.2)) = lv') (kk : Z k post (pc + 2) lv' stk hi) : Z k post pc lv (AR x :: stk) hi := by
  intro l p e s m args below meth c D ad cy A H locs ls hc
  cases x with
  | zero => omega
  | succ x => exact lv_astore (x := ad x) hc.1 hc.2.1 hd hc.2.2.2.2.2.2.2.2.2.2.2.2.2.2.2 hn (z_filt hl) (fun ls' hl' => kk l p e s m args below meth c D ad cy A H locs ls' (hc.loc hl'))
theorem z_iinc {i j : Nat} {n : Int} {x : Int} (hd : decode k.1 pc = .ok (.iinc i n, 3)) (hj : lv[j]? = some (i, AI x)) (hn : i < k.2.2.2.2.2) {w : Int → List (Nat × AV)} (hl : ∀ v : Int, (i, AI v) :: lv.filter (fun q => !(q.1 == i) && !(q.1 + 1 == i && isL q.2)) = w v) (kk : ∀ v : Int, v = x + n → Z k post (pc + 3) (w v) stk hi) : Z k post pc lv stk hi := by
  intro l p e s m args below meth c D ad cy A H locs ls hc
  exact lv_iinc (x := iI x) (v := iI (x + n)) (k := j) hc.1 hc.2.1 hd hc.2.2.2.2.2.2.2.2.2.2.2.2.2.2.2 (by rw [List.getElem?_map, hj]; rfl) (iI_add x n) hn (z_filt (hl (x + n))) (fun ls' hl' => kk (x + n) rfl l p e s m args below meth c D ad cy A H locs ls' (hc.loc hl'))
theorem z_iadd {x y : Int} (hd : decode k.1 pc = .ok (.iadd, 1)) (kk : ∀ v : Int, v = x + y → Z k post (pc + 1) lv (AI v :: stk) hi) : Z k post pc lv (AI y :: AI x :: stk) hi := by
  intro l p e s m args below meth c D ad cy A H locs ls hc
  refine lv_iadd (x := iI x) (y := iI y) hc.1 hc.2.1 hd ?_
  rw [iI_add]
  exact kk _ rfl l p e s m args below meth c D ad cy A H locs ls hc
theorem z_isub {x y : Int} (hd : decode k.1 pc = .ok (.isub, 1)) (kk : ∀ v : Int, v = x - y → Z k post (pc + 1) lv (AI v :: stk) hi) : Z k post pc lv (AI y :: AI x :: stk) hi := by
  intro l p e s m args below meth c D ad cy A H locs ls hc
  refine lv_isub (x := iI x) (y := iI y) hc.1 hc.2.1 hd ?_
  rw [iI_sub]
  exact kk _ rfl l p e s m args below meth c D ad cy A H locs ls hc
theorem z_imul {x y : Int} (hd : decode k.1 pc = .ok (.imul, 1)) (kk : ∀ v : Int, v = x * y → Z k post (pc + 1) lv (AI v :: stk) hi) : Z k post pc lv (AI y :: AI x :: stk) hi := by
  intro l p e s m args below meth c D ad cy A H locs ls hc
  refine lv_imul (x := iI x) (y := iI y) hc.1 hc.2.1 hd ?_
  rw [iI_mul]
  exact kk _ rfl l p e s m args below meth c D ad cy A H locs ls hc
theorem z_ineg {x : Int} (hd : decode k.1 pc = .ok (.ineg, 1)) (kk : ∀ v : Int, v = -x → Z k post (pc + 1) lv (AI v :: stk) hi) : Z k post pc lv (AI x :: stk) hi := by
  intro l p e s m args below meth c D ad cy A H locs ls hc
  refine lv_ineg (x := iI x) hc.1 hc.2.1 hd ?_
  rw [iI_neg]
  exact kk _ rfl l p e s m args below meth c D ad cy A H locs ls hc
theorem z_pop {v : AV} (hd : decode k.1 pc = .ok (.pop, 1)) (hv : isL v = false) (kk : Z k post (pc + 1) lv stk hi) : Z k post pc lv (v :: stk) hi := by
  intro l p e s m args below meth c D ad cy A H locs ls hc
  exact lv_pop (va := cv ad v) hc.1 hc.2.1 hd (by rw [cv_cat, hv]; rfl) (kk l p e s m args below meth c D ad cy A H locs ls hc)
theorem z_dup {v : AV} (hd : decode k.1 pc = .ok (.dup, 1)) (hv : isL v = false) (kk : Z k post (pc + 1) lv (v :: v :: stk) hi) : Z k post pc lv (v :: stk) hi := by
  intro l p e s m args below meth c D ad cy A H locs ls hc
  exact lv_dup (va := cv ad v) hc.1 hc.2.1 hd (by rw [cv_cat, hv]; rfl) (kk l p e s m args below meth c D ad cy A H locs ls hc)
theorem z_dup2 {v w : AV} (hd : decode k.1 pc = .ok (.dup2, 1)) (hv : isL v = false) (hw : isL w = false) (kk : Z k post (pc + 1) lv (v :: w :: v :: w :: stk) hi) : Z k post pc lv (v :: w :: stk) hi := by
  intro l p e s m args below meth c D ad cy A H locs ls hc
  exact lv_dup2_11 (va := cv ad v) (vb := cv ad w) hc.1 hc.2.1 hd (by rw [cv_cat, hv]; rfl) (by rw [cv_cat, hw]; rfl) (kk l p e s m args below meth c D ad cy A H locs ls hc)
theorem z_goto {off : Int} {tgt : Nat} (hd : decode k.1 pc = .ok (.goto off, 3)) (ht : (pc : Int) + off = (tgt : Int)) (kk : Z k post tgt lv stk hi) : Z k post pc lv stk hi := by
  intro l p e s m args below meth c D ad cy A H locs ls hc
  exact lv_goto hc.1 hc.2.1 hd ht (kk l p e s m args below meth c D ad cy A H locs ls hc)
theorem z_if_eq {x : Int} {off : Int} {tgt : Nat} (hd : decode k.1 pc = .ok (.ifCond .eq off, 3)) (ht : (pc : Int) + off = (tgt : Int)) (hx : inR x) (kt : x = 0 → Z k post tgt lv stk hi) (kf : x ≠ 0 → Z k post (pc + 3) lv stk hi) : Z k post pc lv (AI x :: stk) hi := by
  intro l p e s m args below meth c D ad cy A H locs ls hc
  have h0 : (0 : Int32) = iI 0 := by decide +kernel
  refine lv_if_eq (x := iI x) hc.1 hc.2.1 hd ht (fun q => kt ?_ l p e s m args below meth c D ad cy A H locs ls hc) (fun q => kf ?_ l p e s m args below meth c D ad cy A H locs ls hc)
  · simp only [h0, iI_eq hx inR_lit.1, iI_lt hx inR_lit.1, iI_lt inR_lit.1 hx, iI_le hx inR_lit.1, iI_le inR_lit.1 hx, GE.ge, GT.gt, ne_eq] at q ⊢
    omega
  · simp only [h0, iI_eq hx inR_lit.1, iI_lt hx inR_lit.1, iI_lt inR_lit.1 hx, iI_le hx inR_lit.1, iI_le inR_lit.1 hx, GE.ge, GT.gt, ne_eq] at q ⊢
    omega
theorem z_icmp_eq {x y : Int} {off : Int} {tgt : Nat} (hd : decode k.1 pc = .ok (.if_icmp .eq off, 3)) (ht : (pc : Int) + off = (tgt : Int)) (hx : inR x) (hy : inR y) (kt : x = y → Z k post tgt lv stk hi) (kf : x ≠ y → Z k post (pc + 3) lv stk hi) : Z k post pc lv (AI y :: AI x :: stk) hi := by
  intro l p e s m args below meth c D ad cy A H locs ls hc
  refine lv_icmp_eq (x := iI x) (y := iI y) hc.1 hc.2.1 hd ht (fun q => kt ?_ l p e s m args below meth c D ad cy A H locs ls hc) (fun q => kf ?_ l p e s m args below meth c D ad cy A H locs ls hc)
  · simp only [iI_eq hx hy, iI_lt hx hy, iI_lt hy hx, iI_le hx hy, iI_le hy hx, GE.ge, GT.gt, ne_eq] at q ⊢
    omega
  · simp only [iI_eq hx hy, iI_lt hx hy, iI_lt hy hx, iI_le hx hy, iI_le hy hx, GE.ge, GT.gt, ne_eq] at q ⊢
    omega
theorem z_if_ne {x : Int} {off : Int} {tgt : Nat} (hd : decode k.1 pc = .ok (.ifCond .ne off, 3)) (ht : (pc : Int) + off = (tgt : Int)) (hx : inR x) (kt : x ≠ 0 → Z k post tgt lv stk hi) (kf : x = 0 → Z k post (pc + 3) lv stk hi) : Z k post pc lv (AI x :: stk) hi := by
  intro l p e s m args below meth c D ad cy A H locs ls hc
  have h0 : (0 : Int32) = iI 0 := by decide +kernel
  refine lv_if_ne (x := iI x) hc.1 hc.2.1 hd ht (fun q => kt ?_ l p e s m args below meth c D ad cy A H locs ls hc) (fun q => kf ?_ l p e s m args below meth c D ad cy A H locs ls hc)
  · simp only [h0, iI_eq hx inR_lit.1, iI_lt hx inR_lit.1, iI_lt inR_lit.1 hx, iI_le hx inR_lit.1, iI_le inR_lit.1 hx, GE.ge, GT.gt, ne_eq] at q ⊢
    omega
  · simp only [h0, iI_eq hx inR_lit.1, iI_lt hx inR_lit.1, iI_lt inR_lit.1 hx, iI_le hx inR_lit.1, iI_le inR_lit.1 hx, GE.ge, GT.gt, ne_eq] at q ⊢
    omega
theorem z_icmp_ne {x y : Int} {off : Int} {tgt : Nat} (hd : decode k.1 pc = .ok (.if_icmp .ne off, 3)) (ht : (pc : Int) + off = (tgt : Int)) (hx : inR x) (hy : inR y) (kt : x ≠ y → Z k post tgt lv stk hi) (kf : x = y → Z k post (pc + 3) lv stk hi) : Z k post pc lv (AI y :: AI x :: stk) hi := by
  intro l p e s m args below meth c D ad cy A H locs ls hc
  refine lv_icmp_ne (x := iI x) (y := iI y) hc.1 hc.2.1 hd ht (fun q => kt ?_ l p e s m args below meth c D ad cy A H locs ls hc) (fun q => kf ?_ l p e s m args below meth c D ad cy A H locs ls hc)
  · simp only [iI_eq hx hy, iI_lt hx hy, iI_lt hy hx, iI_le hx hy, iI_le hy hx, GE.ge, GT.gt, ne_eq] at q ⊢
    omega
  · simp only [iI_eq hx hy, iI_lt hx hy, iI_lt hy hx, iI_le hx hy, iI_le hy hx, GE.ge, GT.gt, ne_eq] at q ⊢
    omega
theorem z_if_lt {x : Int} {off : Int} {tgt : Nat} (hd : decode k.1 pc = .ok (.ifCond .lt off, 3)) (ht : (pc : Int) + off = (tgt : Int)) (hx : inR x) (kt : x < 0 → Z k post tgt lv stk hi) (kf : 0 ≤ x → Z k post (pc + 3) lv stk hi) : Z k post pc lv (AI x :: stk) hi := by
  intro l p e s m args below meth c D ad cy A H locs ls hc
  have h0 : (0 : Int32) = iI 0 := by decide +kernel
  refine lv_if_lt (x := iI x) hc.1 hc.2.1 hd ht (fun q => kt ?_ l p e s m args below meth c D ad cy A H locs ls hc) (fun q => kf ?_ l p e s m args below meth c D ad cy A H locs ls hc)
  · simp only [h0, iI_eq hx inR_lit.1, iI_lt hx inR_lit.1, iI_lt inR_lit.1 hx, iI_le hx inR_lit.1, iI_le inR_lit.1 hx, GE.ge, GT.gt, ne_eq] at q ⊢
    omega
  · simp only [h0, iI_eq hx inR_lit.1, iI_lt hx inR_lit.1, iI_lt inR_lit.1 hx, iI_le hx inR_lit.1, iI_le inR_lit.1 hx, GE.ge, GT.gt, ne_eq] at q ⊢
    omega
theorem z_icmp_lt {x y : Int} {off : Int} {tgt : Nat} (hd : decode k.1 pc = .ok (.if_icmp .lt off, 3)) (ht : (pc : Int) + off = (tgt : Int)) (hx : inR x) (hy : inR y) (kt : x < y → Z k post tgt lv stk hi) (kf : y ≤ x → Z k post (pc + 3) lv stk hi) : Z k post pc lv (AI y :: AI x :: stk) hi := by
  intro l p e s m args below meth c D ad cy A H locs ls hc
  refine lv_icmp_lt (x := iI x) (y := iI y) hc.1 hc.2.1 hd ht (fun q => kt ?_ l p e s m args below meth c D ad cy A H locs ls hc) (fun q => kf ?_ l p e s m args below meth c D ad cy A H locs ls hc)
  · simp only [iI_eq hx hy, iI_lt hx hy, iI_lt hy hx, iI_le hx hy, iI_le hy hx, GE.ge, GT.gt, ne_eq] at q ⊢
    omega
  · simp only [iI_eq hx hy, iI_lt hx hy, iI_lt hy hx, iI_le hx hy, iI_le hy hx, GE.ge, GT.gt, ne_eq] at q ⊢
    omega
theorem z_if_ge {x : Int} {off : Int} {tgt : Nat} (hd : decode k.1 pc = .ok (.ifCond .ge off, 3)) (ht : (pc : Int) + off = (tgt : Int)) (hx : inR x) (kt : 0 ≤ x → Z k post tgt lv stk hi) (kf : x < 0 → Z k post (pc + 3) lv stk hi) : Z k post pc lv (AI x :: stk) hi := by
  intro l p e s m args below meth c D ad cy A H locs ls hc
  have h0 : (0 : Int32) = iI 0 := by decide +kernel
  refine lv_if_ge (x := iI x) hc.1 hc.2.1 hd ht (fun q => kt ?_ l p e s m args below meth c D ad cy A H locs ls hc) (fun q => kf ?_ l p e s m args below meth c D ad cy A H locs ls hc)
  · simp only [h0, iI_eq hx inR_lit.1, iI_lt hx inR_lit.1, iI_lt inR_lit.1 hx, iI_le hx inR_lit.1, iI_le inR_lit.1 hx, GE.ge, GT.gt, ne_eq] at q ⊢
    omega
  · simp only [h0, iI_eq hx inR_lit.1, iI_lt hx inR_lit.1, iI_lt inR_lit.1 hx, iI_le hx inR_lit.1, iI_le inR_lit.1 hx, GE.ge, GT.gt, ne_eq] at q ⊢
    omega
theorem z_icmp_ge {x y : Int} {off : Int} {tgt : Nat} (hd : decode k.1 pc = .ok (.if_icmp .ge off, 3)) (ht : (pc : Int) + off = (tgt : Int)) (hx : inR x) (hy : inR y) (kt : y ≤ x → Z k post tgt lv stk hi) (kf : x < y → Z k post (pc + 3) lv stk hi) : Z k post pc lv (AI y :: AI x :: stk) hi := by
  intro l p e s m args below meth c D ad cy A H locs ls hc
  refine lv_icmp_ge (x := iI x) (y := iI y) hc.1 hc.2.1 hd ht (fun q => kt ?_ l p e s m args below meth c D ad cy A H locs ls hc) (fun q => kf ?_ l p e s m args below meth c D ad cy A H locs ls hc)
  · simp only [iI_eq hx hy, iI_lt hx hy, iI_lt hy hx, iI_le hx hy, iI_le hy hx, GE.ge, GT.gt, ne_eq] at q ⊢
    omega
  · simp only [iI_eq hx hy, iI_lt hx hy, iI_lt hy hx, iI_le hx hy, iI_le hy hx, GE.ge, GT.gt, ne_eq] at q ⊢
    omega
theorem z_if_gt {x : Int} {off : Int} {tgt : Nat} (hd : decode k.1 pc = .ok (.ifCond .gt off, 3)) (ht : (pc : Int) + off = (tgt : Int)) (hx : inR x) (kt : 0 < x → Z k post tgt lv stk hi) (kf : x ≤ 0 → Z k post (pc + 3) lv stk hi) : Z k post pc lv (AI x :: stk) hi := by
  intro l p e s m args below meth c D ad cy A H locs ls hc
  have h0 : (0 : Int32) = iI 0 := by decide +kernel
  refine lv_if_gt (x := iI x) hc.1 hc.2.1 hd ht (fun q => kt ?_ l p e s m args below meth c D ad cy A H locs ls hc) (fun q => kf ?_ l p e s m args below meth c D ad cy A H locs ls hc)
  · simp only [h0, iI_eq hx inR_lit.1, iI_lt hx inR_lit.1, iI_lt inR_lit.1 hx, iI_le hx inR_lit.1, iI_le inR_lit.1 hx, GE.ge, GT.gt, ne_eq] at q ⊢
    omega
  · simp only [h0, iI_eq hx inR_lit.1, iI_lt hx inR_lit.1, iI_lt inR_lit.1 hx, iI_le hx inR_lit.1, iI_le inR_lit.1 hx, GE.ge, GT.gt, ne_eq] at q ⊢
    omega
theorem z_icmp_gt {x y : Int} {off : Int} {tgt : Nat} (hd : decode k.1 pc = .ok (.if_icmp .gt off, 3)) (ht : (pc : Int) + off = (tgt : Int)) (hx : inR x) (hy : inR y) (kt : y < x → Z k post tgt lv stk hi) (kf : x ≤ y → Z k post (pc + 3) lv stk hi) : Z k post pc lv (AI y :: AI x :: stk) hi := by
  intro l p e s m args below meth c D ad cy A H locs ls hc
  refine lv_icmp_gt (x := iI x) (y := iI y) hc.1 hc.2.1 hd ht (fun q => kt ?_ l p e s m args below meth c D ad cy A H locs ls hc) (fun q => kf ?_ l p e s m args below meth c D ad cy A H locs ls hc)
  · simp only [iI_eq hx hy, iI_lt hx hy, iI_lt hy hx, iI_le hx hy, iI_le hy hx, GE.ge, GT.gt, ne_eq] at q ⊢
    omega
  · simp only [iI_eq hx hy, iI_lt hx hy, iI_lt hy hx, iI_le hx hy, iI_le hy hx, GE.ge, GT.gt, ne_eq] at q ⊢
    omega
theorem z_if_le {x : Int} {off : Int} {tgt : Nat} (hd : decode k.1 pc = .ok (.ifCond .le off, 3)) (ht : (pc : Int) + off = (tgt : Int)) (hx : inR x) (kt : x ≤ 0 → Z k post tgt lv stk hi) (kf : 0 < x → Z k post (pc + 3) lv stk hi) : Z k post pc lv (AI x :: stk) hi := by
  intro l p e s m args below meth c D ad cy A H locs ls hc
  have h0 : (0 : Int32) = iI 0 := by decide +kernel
  refine lv_if_le (x := iI x) hc.1 hc.2.1 hd ht (fun q => kt ?_ l p e s m args below meth c D ad cy A H locs ls hc) (fun q => kf ?_ l p e s m args below meth c D ad cy A H locs ls hc)
  · simp only [h0, iI_eq hx inR_lit.1, iI_lt hx inR_lit.1, iI_lt inR_lit.1 hx, iI_le hx inR_lit.1, iI_le inR_lit.1 hx, GE.ge, GT.gt, ne_eq] at q ⊢
    omega
  · simp only [h0, iI_eq hx inR_lit.1, iI_lt hx inR_lit.1, iI_lt inR_lit.1 hx, iI_le hx inR_lit.1, iI_le inR_lit.1 hx, GE.ge, GT.gt, ne_eq] at q ⊢
    omega
theorem z_icmp_le {x y : Int} {off : Int} {tgt : Nat} (hd : decode k.1 pc = .ok (.if_icmp .le off, 3)) (ht : (pc : Int) + off = (tgt : Int)) (hx : inR x) (hy : inR y) (kt : x ≤ y → Z k post tgt lv stk hi) (kf : y < x → Z k post (pc + 3) lv stk hi) : Z k post pc lv (AI y :: AI x :: stk) hi := by
  intro l p e s m args below meth c D ad cy A H locs ls hc
  refine lv_icmp_le (x := iI x) (y := iI y) hc.1 hc.2.1 hd ht (fun q => kt ?_ l p e s m args below meth c D ad cy A H locs ls hc) (fun q => kf ?_ l p e s m args below meth c D ad cy A H locs ls hc)
  · simp only [iI_eq hx hy, iI_lt hx hy, iI_lt hy hx, iI_le hx hy, iI_le hy hx, GE.ge, GT.gt, ne_eq] at q ⊢
    omega
  · simp only [iI_eq hx hy, iI_lt hx hy, iI_lt hy hx, iI_le hx hy, iI_le hy hx, GE.ge, GT.gt, ne_eq] at q ⊢
    omega
theorem fvs_at {ad : Nat → Nat} {g : Nat → Int} : ∀ {fl : List (Nat × Nat)} {k0 f : Nat} {q : Nat × Nat}, fl[f]? = some q → (fvs ad g k0 fl)[f]? = some (fv ad g (k0 + f) q)
  | [], _, _, _, h => by simp at h
  | x :: l, k0, 0, q, h => by
    simp at h; subst h; rfl
  | x :: l, k0, f + 1, q, h => by
    have h2 : l[f]? = some q := by simpa using h
    have ih := fvs_at (ad := ad) (g := g) (k0 := k0 + 1) h2
    show (fvs ad g (k0 + 1) l)[f]? = _
    rw [ih, Nat.add_right_comm, Nat.add_assoc]
theorem fvs_len {ad : Nat → Nat} {g : Nat → Int} : ∀ {fl : List (Nat × Nat)} {k0 : Nat}, (fvs ad g k0 fl).length = fl.length
  | [], _ => rfl
  | x :: l, k0 => by simp [fvs, fvs_len]
/-- a field is written: the others' values stay -/
theorem fvs_set {ad : Nat → Nat} {g : Nat → Int} {z : Int} {q : Nat × Nat} {v : Value} (hv : ∀ g2 : Nat → Int, ∀ j, g2 j = z → fv ad g2 j q = v) : ∀ {fl : List (Nat × Nat)} {k0 f : Nat}, fl[f]? = some q → (fvs ad g k0 fl).set f v = fvs ad (updI g (k0 + f) z) k0 fl
  | [], _, _, h => by simp at h
  | x :: l, k0, 0, h => by
    simp at h; subst h
    have e : ∀ (l : List (Nat × Nat)) (k1 : Nat), k0 < k1 → fvs ad g k1 l = fvs ad (updI g k0 z) k1 l := by
      intro l
      induction l with
      | nil => intro k1 _; rfl
      | cons y l ih =>
        intro k1 hk
        have hn : updI g k0 z k1 = g k1 := updI_ne _ _ (by omega)
        simp only [fvs]
        rw [ih (k1 + 1) (by omega)]
        congr 1
        unfold fv; rw [hn]
    show v :: fvs ad g (k0 + 1) l = fv ad (updI g k0 z) k0 x :: fvs ad (updI g k0 z) (k0 + 1) l
    rw [hv (updI g k0 z) k0 (updI_same _ _ _), e l (k0 + 1) (by omega)]
  | x :: l, k0, f + 1, h => by
    have h2 : l[f]? = some q := by simpa using h
    have ih := fvs_set (ad := ad) (g := g) (z := z) hv (k0 := k0 + 1) h2
    show fv ad g k0 x :: (fvs ad g (k0 + 1) l).set f v = fv ad (updI g (k0 + (f + 1)) z) k0 x :: fvs ad (updI g (k0 + (f + 1)) z) (k0 + 1) l
    have e1 : k0 + 1 + f = k0 + (f + 1) := by omega
    rw [ih, e1]
    have hn : updI g (k0 + (f + 1)) z k0 = g k0 := updI_ne _ _ (by omega)
    congr 1
    unfold fv; rw [hn]
theorem wld_obj {ad : Nat → Nat} {cy : Nat → ClassId} {pl ci : Nat} {fl : List (Nat × Nat)} (hpl : pl < NW) (hsh : sh pl = .inl (ci, fl)) : (wld ad cy hi)[pl]? = some (ad pl, .inr (ci, fvs ad (hi pl) 0 fl)) := by
  rw [wld_at hpl, hsh]; rfl
theorem wld_arr {ad : Nat → Nat} {cy : Nat → ClassId} {pl tag n b : Nat} (hpl : pl < NW) (hsh : sh pl = .inr (tag, n, b)) : (wld ad cy hi)[pl]? = some (ad pl, .inl (cy tag, acell ad (hi pl) tag n b)) := by
  rw [wld_at hpl, hsh]; rfl
theorem z_getI {ref C : String} {T : u_T} {N ci idx pl f b : Nat} {fl : List (Nat × Nat)} (hin : ∀ w ∈ u_ws C T N, w ∈ k.2.1) (hpl : pl < NW) (hsh : sh pl = .inl (ci, fl)) (hc0 : vwCl[ci]? = some (C, T, N)) (hf : f < N) (hq : fl[f]? = some (0, b)) (hlink : Cond.fieldLink k.2.2.2.1 idx ref (T f).2.1 (T f).2.2.1 ∈ k.2.1) (href : (T f).1 = ref) (hn : ¬ (pl = 39 ∧ f = 14) ∧ pl ≠ 54) (hd : decode k.1 pc = .ok (.getfield idx, 3)) (kk : ∀ v : Int, v = hi pl f → inR v → Z k post (pc + 3) lv (AI v :: stk) hi) : Z k post pc lv (AR (pl + 1) :: stk) hi := by
  subst href
  intro l p e s m args below meth c D ad cy A H locs ls hc
  obtain ⟨hx, hb, hr, hml, hown, hlk, hts, hA, hst, hld, hK, hP, hD, hS, hR, hl⟩ := id hc
  exact va_get (D := D) (cl := vwCl) (a := ad pl) (v := .int (iI (hi pl f))) (C := C) (T := T) (N := N) hx hb hts hin hown hK hP pl (wld_obj hpl hsh) hc0 f hf (hts _ hlink) (fun _ h9 => h9) (by rw [fvs_at hq]; simp [fv]) hd (kk _ rfl (hR.2 _ _ hn.1 hn.2) l p e s m args below meth c D ad cy A H locs ls hc)
theorem z_getL {ref C : String} {T : u_T} {N ci idx pl f b : Nat} {fl : List (Nat × Nat)} (hin : ∀ w ∈ u_ws C T N, w ∈ k.2.1) (hpl : pl < NW) (hsh : sh pl = .inl (ci, fl)) (hc0 : vwCl[ci]? = some (C, T, N)) (hf : f < N) (hq : fl[f]? = some (1, b)) (hlink : Cond.fieldLink k.2.2.2.1 idx ref (T f).2.1 (T f).2.2.1 ∈ k.2.1) (href : (T f).1 = ref) (hd : decode k.1 pc = .ok (.getfield idx, 3)) (kk : ∀ v : Int, v = hi pl f → inL v → Z k post (pc + 3) lv (AL v :: stk) hi) : Z k post pc lv (AR (pl + 1) :: stk) hi := by
  subst href
  intro l p e s m args below meth c D ad cy A H locs ls hc
  obtain ⟨hx, hb, hr, hml, hown, hlk, hts, hA, hst, hld, hK, hP, hD, hS, hR, hl⟩ := id hc
  exact va_get (D := D) (cl := vwCl) (a := ad pl) (v := .long (iL (hi pl f))) (C := C) (T := T) (N := N) hx hb hts hin hown hK hP pl (wld_obj hpl hsh) hc0 f hf (hts _ hlink) (fun _ h9 => h9) (by rw [fvs_at hq]; simp [fv]) hd (kk _ rfl (hR.1 _ _) l p e s m args below meth c D ad cy A H locs ls hc)
theorem z_getR {ref C : String} {T : u_T} {N ci idx pl f b : Nat} {fl : List (Nat × Nat)} (hin : ∀ w ∈ u_ws C T N, w ∈ k.2.1) (hpl : pl < NW) (hsh : sh pl = .inl (ci, fl)) (hc0 : vwCl[ci]? = some (C, T, N)) (hf : f < N) (hq : fl[f]? = some (2, b)) (hlink : Cond.fieldLink k.2.2.2.1 idx ref (T f).2.1 (T f).2.2.1 ∈ k.2.1) (href : (T f).1 = ref) (hd : decode k.1 pc = .ok (.getfield idx, 3)) (kk : Z k post (pc + 3) lv (AR (b + 1) :: stk) hi) : Z k post pc lv (AR (pl + 1) :: stk) hi := by
  subst href
  intro l p e s m args below meth c D ad cy A H locs ls hc
  obtain ⟨hx, hb, hr, hml, hown, hlk, hts, hA, hst, hld, hK, hP, hD, hS, hR, hl⟩ := id hc
  exact va_get (D := D) (cl := vwCl) (a := ad pl) (v := rv ad (b + 1)) (C := C) (T := T) (N := N) hx hb hts hin hown hK hP pl (wld_obj hpl hsh) hc0 f hf (hts _ hlink) (fun _ h9 => h9) (by rw [fvs_at hq]; simp [fv]) hd (kk l p e s m args below meth c D ad cy A H locs ls hc)
theorem z_getE {ref C : String} {T : u_T} {N ci idx pl f b : Nat} {fl : List (Nat × Nat)} (hin : ∀ w ∈ u_ws C T N, w ∈ k.2.1) (hpl : pl < NW) (hsh : sh pl = .inl (ci, fl)) (hc0 : vwCl[ci]? = some (C, T, N)) (hf : f < N) (hq : fl[f]? = some (3, b)) (hlink : Cond.fieldLink k.2.2.2.1 idx ref (T f).2.1 (T f).2.2.1 ∈ k.2.1) (href : (T f).1 = ref) (hd : decode k.1 pc = .ok (.getfield idx, 3)) (kk : ∀ v : Int, v = hi pl f → Z k post (pc + 3) lv (AR (ec v) :: stk) hi) : Z k post pc lv (AR (pl + 1) :: stk) hi := by
  subst href
  intro l p e s m args below meth c D ad cy A H locs ls hc
  obtain ⟨hx, hb, hr, hml, hown, hlk, hts, hA, hst, hld, hK, hP, hD, hS, hR, hl⟩ := id hc
  exact va_get (D := D) (cl := vwCl) (a := ad pl) (v := rv ad (ec (hi pl f))) (C := C) (T := T) (N := N) hx hb hts hin hown hK hP pl (wld_obj hpl hsh) hc0 f hf (hts _ hlink) (fun _ h9 => h9) (by rw [fvs_at hq]; simp [fv]) hd (kk _ rfl l p e s m args below meth c D ad cy A H locs ls hc)
/-- int fields of type int -/
theorem z_putI {ref C : String} {T : u_T} {ty0 : Nat → FieldType} {N ci idx pl f b : Nat} {fl : List (Nat × Nat)} {x : Int} {ty : FieldType} (hin : ∀ w ∈ u_ws C T N, w ∈ k.2.1) (hty : ∀ j, j < N → parseFieldDescriptor (T j).2.2.1 = some (ty0 j)) (hnm : ∀ a, a < N → ∀ b, b < N → a ≠ b → (T a).2.1 ≠ (T b).2.1) (hpl : pl < NW) (hsh : sh pl = .inl (ci, fl)) (hc0 : vwCl[ci]? = some (C, T, N)) (hf : f < N) (hq : fl[f]? = some (0, b)) (hlink : Cond.fieldLink k.2.2.2.1 idx ref (T f).2.1 (T f).2.2.1 ∈ k.2.1) (href : (T f).1 = ref) (hfin : (T f).2.2.2 = false) (htd : parseFieldDescriptor (T f).2.2.1 = some ty) (hn : narrow ty (.int (iI x)) = .int (iI x)) (hfit : fits ty (.int (iI x)) = true) (hx0 : inR x) (hd : decode k.1 pc = .ok (.putfield idx, 3)) (kk : ∀ h2 : HI, h2 = hput hi pl (updI (hi pl) f x) → Z k post (pc + 3) lv stk h2) : Z k post pc lv (AI x :: AR (pl + 1) :: stk) hi := by
  subst href
  intro l p e s m args below meth c D ad cy A H locs ls hc
  obtain ⟨hx, hb, hr, hml, hown, hlk, hts, hA, hst, hld, hK, hP, hD, hS, hR, hl⟩ := id hc
  refine va_put (D := D) (cl := vwCl) (a := ad pl) (v := .int (iI x)) (C := C) (T := T) (N := N) hx hb hts hin ty0 hty hnm hown hK hP hD hS pl (wld_obj hpl hsh) hc0 f hf (hts _ hlink) (fun _ h9 => h9) hfin htd hn hfit (by rw [fvs_len]; exact (List.getElem?_eq_some_iff.mp hq).1) hd (fun H1 locs1 hP1 hD1 hS1 => ?_)
  have e0 : (fvs ad (hi pl) 0 fl).set f (.int (iI x)) = fvs ad (updI (hi pl) f x) 0 fl := by
    have h9 := fvs_set (ad := ad) (g := hi pl) (z := x) (q := (0, b)) (v := .int (iI x)) (fun g2 j hj => by simp [fv, hj]) (k0 := 0) hq
    rwa [Nat.zero_add] at h9
  rw [e0] at hP1 hD1
  have e1 : (wld ad cy hi).set pl (ad pl, .inr (ci, fvs ad (updI (hi pl) f x) 0 fl)) = wld ad cy (hput hi pl (updI (hi pl) f x)) := wld_set hpl (by rw [hsh]; rfl)
  rw [e1] at hP1 hD1
  exact kk _ rfl l p e s m args below meth c D ad cy A H1 locs1 ls (hc.heap hP1 hD1 hS1 (hR.put hx0))
theorem z_putL {ref C : String} {T : u_T} {ty0 : Nat → FieldType} {N ci idx pl f b : Nat} {fl : List (Nat × Nat)} {x : Int} (hin : ∀ w ∈ u_ws C T N, w ∈ k.2.1) (hty : ∀ j, j < N → parseFieldDescriptor (T j).2.2.1 = some (ty0 j)) (hnm : ∀ a, a < N → ∀ b, b < N → a ≠ b → (T a).2.1 ≠ (T b).2.1) (hpl : pl < NW) (hsh : sh pl = .inl (ci, fl)) (hc0 : vwCl[ci]? = some (C, T, N)) (hf : f < N) (hq : fl[f]? = some (1, b)) (hlink : Cond.fieldLink k.2.2.2.1 idx ref (T f).2.1 (T f).2.2.1 ∈ k.2.1) (href : (T f).1 = ref) (hfin : (T f).2.2.2 = false) (htd : parseFieldDescriptor (T f).2.2.1 = some .long) (hx0 : inL x) (hn : (pl = 39 ∧ f = 14) ∨ pl = 54) (hd : decode k.1 pc = .ok (.putfield idx, 3)) (kk : ∀ h2 : HI, h2 = hput hi pl (updI (hi pl) f x) → Z k post (pc + 3) lv stk h2) : Z k post pc lv (AL x :: AR (pl + 1) :: stk) hi := by
  subst href
  intro l p e s m args below meth c D ad cy A H locs ls hc
  obtain ⟨hx, hb, hr, hml, hown, hlk, hts, hA, hst, hld, hK, hP, hD, hS, hR, hl⟩ := id hc
  refine va_put (D := D) (cl := vwCl) (a := ad pl) (v := .long (iL x)) (C := C) (T := T) (N := N) hx hb hts hin ty0 hty hnm hown hK hP hD hS pl (wld_obj hpl hsh) hc0 f hf (hts _ hlink) (fun _ h9 => h9) hfin htd rfl rfl (by rw [fvs_len]; exact (List.getElem?_eq_some_iff.mp hq).1) hd (fun H1 locs1 hP1 hD1 hS1 => ?_)
  have e0 : (fvs ad (hi pl) 0 fl).set f (.long (iL x)) = fvs ad (updI (hi pl) f x) 0 fl := by
    have h9 := fvs_set (ad := ad) (g := hi pl) (z := x) (q := (1, b)) (v := .long (iL x)) (fun g2 j hj => by simp [fv, hj]) (k0 := 0) hq
    rwa [Nat.zero_add] at h9
  rw [e0] at hP1 hD1
  have e1 : (wld ad cy hi).set pl (ad pl, .inr (ci, fvs ad (updI (hi pl) f x) 0 fl)) = wld ad cy (hput hi pl (updI (hi pl) f x)) := wld_set hpl (by rw [hsh]; rfl)
  rw [e1] at hP1 hD1
  exact kk _ rfl l p e s m args below meth c D ad cy A H1 locs1 ls (hc.heap hP1 hD1 hS1 (hR.putL hx0 hn))
theorem ec_pos {x : Int} (h : 0 ≤ x) : ec x = 101 + x.toNat := if_neg (by omega)
theorem rv_ec {ad : Nat → Nat} {x : Int} (h : 0 ≤ x) : rv ad (ec x) = .ref (ad (100 + x.toNat)) := by
  rw [ec_pos h, show 101 + x.toNat = 100 + x.toNat + 1 by omega]; rfl
theorem z_putE {ref C : String} {T : u_T} {ty0 : Nat → FieldType} {N ci idx pl f b : Nat} {fl : List (Nat × Nat)} {x : Int} (hin : ∀ w ∈ u_ws C T N, w ∈ k.2.1) (hty : ∀ j, j < N → parseFieldDescriptor (T j).2.2.1 = some (ty0 j)) (hnm : ∀ a, a < N → ∀ b, b < N → a ≠ b → (T a).2.1 ≠ (T b).2.1) (hpl : pl < NW) (hsh : sh pl = .inl (ci, fl)) (hc0 : vwCl[ci]? = some (C, T, N)) (hf : f < N) (hq : fl[f]? = some (3, b)) (hlink : Cond.fieldLink k.2.2.2.1 idx ref (T f).2.1 (T f).2.2.1 ∈ k.2.1) (href : (T f).1 = ref) (hfin : (T f).2.2.2 = false) (htd : parseFieldDescriptor (T f).2.2.1 = some (.object "LateSet$Sign")) (hx0 : 0 ≤ x ∧ x < 41) (hd : decode k.1 pc = .ok (.putfield idx, 3)) (kk : ∀ h2 : HI, h2 = hput hi pl (updI (hi pl) f x) → Z k post (pc + 3) lv stk h2) : Z k post pc lv (AR (ec x) :: AR (pl + 1) :: stk) hi := by
  subst href
  intro l p e s m args below meth c D ad cy A H locs ls hc
  obtain ⟨hx, hb, hr, hml, hown, hlk, hts, hA, hst, hld, hK, hP, hD, hS, hR, hl⟩ := id hc
  show W p l e k.2.2.1 s m args below meth c H locs 0 0 _ (F0 m pc ls (rv ad (ec x) :: .ref (ad pl) :: stk.map (cv ad)))
  refine va_put (D := D) (cl := vwCl) (a := ad pl) (v := rv ad (ec x)) (C := C) (T := T) (N := N) hx hb hts hin ty0 hty hnm hown hK hP hD hS pl (wld_obj hpl hsh) hc0 f hf (hts _ hlink) (fun _ h9 => h9) hfin htd (by rw [rv_ec hx0.1]; rfl) (by rw [rv_ec hx0.1]; rfl) (by rw [fvs_len]; exact (List.getElem?_eq_some_iff.mp hq).1) hd (fun H1 locs1 hP1 hD1 hS1 => ?_)
  have e0 : (fvs ad (hi pl) 0 fl).set f (rv ad (ec x)) = fvs ad (updI (hi pl) f x) 0 fl := by
    have h9 := fvs_set (ad := ad) (g := hi pl) (z := x) (q := (3, b)) (v := rv ad (ec x)) (fun g2 j hj => by simp [fv, hj]) (k0 := 0) hq
    rwa [Nat.zero_add] at h9
  rw [e0] at hP1 hD1
  have e1 : (wld ad cy hi).set pl (ad pl, .inr (ci, fvs ad (updI (hi pl) f x) 0 fl)) = wld ad cy (hput hi pl (updI (hi pl) f x)) := wld_set hpl (by rw [hsh]; rfl)
  rw [e1] at hP1 hD1
  exact kk _ rfl l p e s m args below meth c D ad cy A H1 locs1 ls (hc.heap hP1 hD1 hS1 (hR.put ⟨by omega, by omega⟩))
theorem z_iald {pl n b : Nat} {i : Int} (hpl : pl < NW) (hsh : sh pl = .inr (0, n, b)) (hn : n < 2147483648) (hne : pl ≠ 39 ∧ pl ≠ 54) (h0 : 0 ≤ i) (h1 : i < n) (hd : decode k.1 pc = .ok (.iaload, 1)) (kk : ∀ v : Int, v = hi pl i.toNat → inR v → Z k post (pc + 1) lv (AI v :: stk) hi) : Z k post pc lv (AI i :: AR (pl + 1) :: stk) hi := by
  intro l p e s m args below meth c D ad cy A H locs ls hc
  obtain ⟨hx, hb, hr, hml, hown, hlk, hts, hA, hst, hld, hK, hP, hD, hS, hR, hl⟩ := id hc
  obtain ⟨g1, g2⟩ := iI_in h0 h1 hn
  refine va_iald (D := D) (cl := vwCl) (a := ad pl) (cA := cy 0) (n := n) (f := fun j => iI (hi pl j)) hx hb hK hP pl 0 (wld_arr hpl hsh) rfl g1 hd ?_
  rw [g2]
  exact kk _ rfl (hR.2 _ _ (fun q => hne.1 q.1) hne.2) l p e s m args below meth c D ad cy A H locs ls hc
theorem z_zald {pl n b : Nat} {i : Int} (hpl : pl < NW) (hsh : sh pl = .inr (1, n, b)) (hn : n < 2147483648) (hne : pl ≠ 39 ∧ pl ≠ 54) (h0 : 0 ≤ i) (h1 : i < n) (hd : decode k.1 pc = .ok (.baload, 1)) (kk : ∀ v : Int, v = hi pl i.toNat → inR v → Z k post (pc + 1) lv (AI v :: stk) hi) : Z k post pc lv (AI i :: AR (pl + 1) :: stk) hi := by
  intro l p e s m args below meth c D ad cy A H locs ls hc
  obtain ⟨hx, hb, hr, hml, hown, hlk, hts, hA, hst, hld, hK, hP, hD, hS, hR, hl⟩ := id hc
  obtain ⟨g1, g2⟩ := iI_in h0 h1 hn
  refine va_zald (D := D) (cl := vwCl) (a := ad pl) (cA := cy 1) (n := n) (f := fun j => iI (hi pl j)) hx hb hK hP pl 1 (wld_arr hpl hsh) rfl g1 hd ?_
  rw [g2]
  exact kk _ rfl (hR.2 _ _ (fun q => hne.1 q.1) hne.2) l p e s m args below meth c D ad cy A H locs ls hc
theorem z_bald {pl n b : Nat} {i : Int} (hpl : pl < NW) (hsh : sh pl = .inr (2, n, b)) (hn : n < 2147483648) (hne : pl ≠ 39 ∧ pl ≠ 54) (h0 : 0 ≤ i) (h1 : i < n) (hd : decode k.1 pc = .ok (.baload, 1)) (kk : ∀ v : Int, v = hi pl i.toNat → inR v → Z k post (pc + 1) lv (AI v :: stk) hi) : Z k post pc lv (AI i :: AR (pl + 1) :: stk) hi := by
  intro l p e s m args below meth c D ad cy A H locs ls hc
  obtain ⟨hx, hb, hr, hml, hown, hlk, hts, hA, hst, hld, hK, hP, hD, hS, hR, hl⟩ := id hc
  obtain ⟨g1, g2⟩ := iI_in h0 h1 hn
  refine va_bald (D := D) (cl := vwCl) (a := ad pl) (cA := cy 2) (n := n) (f := fun j => iI (hi pl j)) hx hb hK hP pl 2 (wld_arr hpl hsh) rfl g1 hd ?_
  rw [g2]
  exact kk _ rfl (hR.2 _ _ (fun q => hne.1 q.1) hne.2) l p e s m args below meth c D ad cy A H locs ls hc
theorem upd_iI {f : Nat → Int} {j : Nat} {x : Int} : upd (fun q => iI (f q)) j (iI x) = (fun q => iI (updI f j x q)) := by
  funext q
  unfold upd updI
  by_cases h : q = j
  · rw [if_pos h, if_pos h]
  · rw [if_neg h, if_neg h]
theorem z_iast {pl n b : Nat} {i x : Int} (hpl : pl < NW) (hsh : sh pl = .inr (0, n, b)) (hn : n < 2147483648) (h0 : 0 ≤ i) (h1 : i < n) (hx0 : inR x) (hd : decode k.1 pc = .ok (.iastore, 1)) (kk : ∀ h2 : HI, h2 = hput hi pl (updI (hi pl) i.toNat x) → Z k post (pc + 1) lv stk h2) : Z k post pc lv (AI x :: AI i :: AR (pl + 1) :: stk) hi := by
  intro l p e s m args below meth c D ad cy A H locs ls hc
  obtain ⟨hx, hb, hr, hml, hown, hlk, hts, hA, hst, hld, hK, hP, hD, hS, hR, hl⟩ := id hc
  obtain ⟨g1, g2⟩ := iI_in h0 h1 hn
  refine va_iast (D := D) (cl := vwCl) (a := ad pl) (cA := cy 0) (n := n) (f := fun j => iI (hi pl j)) hx hb hK hP hD hS pl 0 (wld_arr hpl hsh) rfl g1 hd (fun H1 locs1 hP1 hD1 hS1 => ?_)
  rw [g2, upd_iI] at hP1 hD1
  have e1 : (wld ad cy hi).set pl (ad pl, .inl (cy 0, n, .inl (fun q => iI (updI (hi pl) i.toNat x q)))) = wld ad cy (hput hi pl (updI (hi pl) i.toNat x)) := wld_set hpl (by rw [hsh]; rfl)
  rw [e1] at hP1 hD1
  exact kk _ rfl l p e s m args below meth c D ad cy A H1 locs1 ls (hc.heap hP1 hD1 hS1 (hR.put hx0))
theorem z_bast {pl n b : Nat} {i x : Int} (hpl : pl < NW) (hsh : sh pl = .inr (2, n, b)) (hn : n < 2147483648) (h0 : 0 ≤ i) (h1 : i < n) (hx0 : -128 ≤ x ∧ x < 128) (hd : decode k.1 pc = .ok (.bastore, 1)) (kk : ∀ h2 : HI, h2 = hput hi pl (updI (hi pl) i.toNat x) → Z k post (pc + 1) lv stk h2) : Z k post pc lv (AI x :: AI i :: AR (pl + 1) :: stk) hi := by
  intro l p e s m args below meth c D ad cy A H locs ls hc
  obtain ⟨hx, hb, hr, hml, hown, hlk, hts, hA, hst, hld, hK, hP, hD, hS, hR, hl⟩ := id hc
  obtain ⟨g1, g2⟩ := iI_in h0 h1 hn
  have hr2 : inR x := ⟨by omega, by omega⟩
  have en : vp_nar .byte (iI x) = iI x := by
    rw [vp_nar_byte]
    apply Int32.toInt_inj.mp
    rw [Int8.toInt_toInt32, Int32.toInt_toInt8, iI_toInt hr2]
    exact Int.bmod_eq_of_le (by omega) (by omega)
  refine va_bast (D := D) (cl := vwCl) (a := ad pl) (cA := cy 2) (n := n) (f := fun j => iI (hi pl j)) hx hb hK hP hD hS pl 2 (wld_arr hpl hsh) rfl g1 hd (fun H1 locs1 hP1 hD1 hS1 => ?_)
  rw [g2, en, upd_iI] at hP1 hD1
  have e1 : (wld ad cy hi).set pl (ad pl, .inl (cy 2, n, .inl (fun q => iI (updI (hi pl) i.toNat x q)))) = wld ad cy (hput hi pl (updI (hi pl) i.toNat x)) := wld_set hpl (by rw [hsh]; rfl)
  rw [e1] at hP1 hD1
  exact kk _ rfl l p e s m args below meth c D ad cy A H1 locs1 ls (hc.heap hP1 hD1 hS1 (hR.put hr2))
theorem z_zast {pl n b : Nat} {i x : Int} (hpl : pl < NW) (hsh : sh pl = .inr (1, n, b)) (hn : n < 2147483648) (h0 : 0 ≤ i) (h1 : i < n) (hx0 : x = 0 ∨ x = 1) (hd : decode k.1 pc = .ok (.bastore, 1)) (kk : ∀ h2 : HI, h2 = hput hi pl (updI (hi pl) i.toNat x) → Z k post (pc + 1) lv stk h2) : Z k post pc lv (AI x :: AI i :: AR (pl + 1) :: stk) hi := by
  intro l p e s m args below meth c D ad cy A H locs ls hc
  obtain ⟨hx, hb, hr, hml, hown, hlk, hts, hA, hst, hld, hK, hP, hD, hS, hR, hl⟩ := id hc
  obtain ⟨g1, g2⟩ := iI_in h0 h1 hn
  have en : vp_nar .boolean (iI x) = iI x := by rcases hx0 with rfl | rfl <;> rfl
  refine va_zast (D := D) (cl := vwCl) (a := ad pl) (cA := cy 1) (n := n) (f := fun j => iI (hi pl j)) hx hb hK hP hD hS pl 1 (wld_arr hpl hsh) rfl g1 hd (fun H1 locs1 hP1 hD1 hS1 => ?_)
  rw [g2, en, upd_iI] at hP1 hD1
  have e1 : (wld ad cy hi).set pl (ad pl, .inl (cy 1, n, .inl (fun q => iI (updI (hi pl) i.toNat x q)))) = wld ad cy (hput hi pl (updI (hi pl) i.toNat x)) := wld_set hpl (by rw [hsh]; rfl)
  rw [e1] at hP1 hD1
  exact kk _ rfl l p e s m args below meth c D ad cy A H1 locs1 ls (hc.heap hP1 hD1 hS1 (hR.put ⟨by omega, by omega⟩))
/-- an end with an int -/
theorem z_iret {x : Int} (hr0 : k.2.2.2.2.1 = some .int) (hd : decode k.1 pc = .ok (.ireturn, 1)) (hp : post (AI x) hi) : Z k post pc lv [AI x] hi := by
  intro l p e s m args below meth c D ad cy A H locs ls hc
  obtain ⟨hx, hb, hr, hml, hown, hlk, hts, hA, hst, hld, hK, hP, hD, hS, hR, hl⟩ := id hc
  exact W.iret (v := iI x) hx hb (hr.trans hr0) (fun t ht hW => ⟨⟨AI x, hi, rfl, hp, hR, by rw [ht]; exact hP⟩, hS.F ht⟩) hS.2.2 hd hlk
theorem z_zret {x : Int} (hr0 : k.2.2.2.2.1 = some .boolean) (hx0 : x = 0 ∨ x = 1) (hd : decode k.1 pc = .ok (.ireturn, 1)) (hp : post (AI x) hi) : Z k post pc lv [AI x] hi := by
  intro l p e s m args below meth c D ad cy A H locs ls hc
  obtain ⟨hx, hb, hr, hml, hown, hlk, hts, hA, hst, hld, hK, hP, hD, hS, hR, hl⟩ := id hc
  exact W.zret (v := iI x) (ty := .boolean) hx hb (hr.trans hr0) (by rcases hx0 with rfl | rfl <;> rfl) (fun t ht hW => ⟨⟨AI x, hi, rfl, hp, hR, by rw [ht]; exact hP⟩, hS.F ht⟩) hS.2.2 hd hlk
theorem z_vret (hr0 : k.2.2.2.2.1 = none) (hd : decode k.1 pc = .ok (.return_, 1)) (hp : post AU hi) : Z k post pc lv [] hi := by
  intro l p e s m args below meth c D ad cy A H locs ls hc
  obtain ⟨hx, hb, hr, hml, hown, hlk, hts, hA, hst, hld, hK, hP, hD, hS, hR, hl⟩ := id hc
  exact W.vret hx hb (hr.trans hr0) (fun t ht hW => ⟨⟨AU, hi, rfl, hp, hR, by rw [ht]; exact hP⟩, hS.F ht⟩) hS.2.2 hd hlk
theorem z_lret {x : Int} (hr0 : k.2.2.2.2.1 = some .long) (hd : decode k.1 pc = .ok (.lreturn, 1)) (hp : post (AL x) hi) : Z k post pc lv [AL x] hi := by
  intro l p e s m args below meth c D ad cy A H locs ls hc
  obtain ⟨hx, hb, hr, hml, hown, hlk, hts, hA, hst, hld, hK, hP, hD, hS, hR, hl⟩ := id hc
  exact W.lret (v := iL x) hx hb (hr.trans hr0) (fun t ht hW => ⟨⟨AL x, hi, rfl, hp, hR, by rw [ht]; exact hP⟩, hS.F ht⟩) hS.2.2 hd hlk
theorem z_aret {x : Nat} {C : String} (hr0 : k.2.2.2.2.1 = some (.object C)) (hd : decode k.1 pc = .ok (.areturn, 1)) (hp : post (AR x) hi) : Z k post pc lv [AR x] hi := by
  intro l p e s m args below meth c D ad cy A H locs ls hc
  obtain ⟨hx, hb, hr, hml, hown, hlk, hts, hA, hst, hld, hK, hP, hD, hS, hR, hl⟩ := id hc
  exact W.aret (v := rv ad x) (rt := .object C) hx hb (hr.trans hr0) (Or.inl ⟨C, rfl⟩) (va_re_or ad (rc x)) (fun t ht hW => ⟨⟨AR x, hi, rfl, hp, hR, by rw [ht]; exact hP⟩, hS.F ht⟩) hS.2.2 hd hlk
/-! calls -/
def pu (r : AV) (stk : List AV) : List AV := match r with
  | .inr (.inr (.inr _)) => stk
  | r => r :: stk
theorem pu_map (ad : Nat → Nat) (r : AV) (stk : List AV) : (rvO ad r).toList ++ stk.map (cv ad) = (pu r stk).map (cv ad) := by
  rcases r with z | z | n | u <;> rfl
def szS : List AV → Nat
  | [] => 0
  | v :: vs => (if isL v then 2 else 1) + szS vs
theorem szS_sum (ad : Nat → Nat) : ∀ st : List AV, ((st.map (cv ad)).map fun v => v.category).sum = szS st
  | [] => rfl
  | v :: vs => by
    have ih := szS_sum ad vs
    simp only [List.map_cons, List.sum_cons, szS, ih, cv_cat]
theorem z_behind {kc : Kd} {T : List AV → HI → (AV → HI → Prop) → Prop} {a : List AV} {stk0 stk' : List AV}
    (hT : T a hi (fun r h2 => Z k post (pc + 3) lv (pu r stk) h2))
    (hrun : ∀ (l : Launch) (p : Program) (e : Env) (s : State) (m : MethodId) (args : Array Value) (below : List Frame) (meth : Method) (c : Code) (D : va_G) (ad : Nat → Nat) (cy : Nat → ClassId) (A : Nat → Prop) (H : Heap) (locs : List Loc) (ls : Array Slot), ZC k p s m args meth c D ad cy A H locs ls lv hi →
      va_Run p l e k.2.2.1 s m args below meth c H locs 0 0 0 0 (F0 m pc ls (stk'.map (cv ad))) (stk.map (cv ad)) (PQ (fun r h2 => Z k post (pc + 3) lv (pu r stk) h2) D ad cy A ((a.map (cv ad)).toArray)) A) : Z k post pc lv stk' hi := by
  intro l p e s m args below meth c D ad cy A H locs ls hc
  have hr := hrun l p e s m args below meth c D ad cy A H locs ls hc
  obtain ⟨hx, hb, hr0, hml, hown, hlk, hts, hA, hst, hld, hK, hP, hD, hS, hR, hl⟩ := id hc
  intro T0 hT0 X
  obtain ⟨v, st₀, t, T', L, h0, X', hL, e1, e2, ⟨⟨r, h2, hv, hp, hR2, hP2⟩, hz, hk⟩, st⟩ := hr T0 hT0 X
  cases hv
  rw [h0] at hz hk
  have hD2 : va_D A (wld ad cy h2) := by
    have key : ∀ (i : Nat) (x : Nat × va_E), (wld ad cy h2)[i]? = some x → ∃ y : Nat × va_E, (wld ad cy hi)[i]? = some y ∧ y.1 = x.1 := by
      intro i x hx9
      by_cases hi9 : i < NW
      · rw [wld_at hi9] at hx9; cases hx9
        exact ⟨_, wld_at hi9, rfl⟩
      · rw [List.getElem?_eq_none (by rw [wld_len]; omega)] at hx9; cases hx9
    refine ⟨fun i j x y hi9 hj9 hxy => ?_, fun i x hx9 => ?_⟩
    · obtain ⟨x0, g1, g2⟩ := key i x hi9
      obtain ⟨y0, g3, g4⟩ := key j y hj9
      exact hD.1 i j x0 y0 g1 g3 (g2.trans (hxy.trans g4.symm))
    · obtain ⟨x0, g1, g2⟩ := key i x hx9
      rw [← g2]; exact hD.2 i x0 g1
  have hS2 : va_S A s.heap T'.heap (locs ++ L) := ⟨Nat.le_trans hS.1 (by rw [e1]; exact hz), fun q h1 h3 => by rw [e1, hk q (Nat.lt_of_lt_of_le h1 hS.1) h3]; exact hS.2.1 q h1 h3, fun q hq => by
      rcases List.mem_append.mp hq with h | h
      · exact hS.2.2 q h
      · exact hL q h⟩
  have hk2 := hp l p e s m args below meth c D ad cy A T'.heap (locs ++ L) ls (hc.heap (by rw [e1]; exact hP2) hD2 hS2 hR2)
  rw [← pu_map] at hk2
  obtain ⟨t2, a1, b1⟩ := hk2 T' rfl X'
  exact ⟨t2, st t2 a1, b1⟩
theorem PC.use {D : va_G} {ad : Nat → Nat} {cy : Nat → ClassId} {A : Nat → Prop} {p : Program} {s : State} {m : MethodId} {args : Array Value} {meth : Method} {c : Code} {H : Heap} {locs : List Loc} {ls : Array Slot} {a : List AV} (hc : ZC k p s m args meth c D ad cy A H locs ls lv hi) {U : State} (hU : U.heap = H) (hW : s.WarmedH U.vm) : PC D ad cy A a hi ((a.map (cv ad)).toArray) U := by
  obtain ⟨hx, hb, hr, hml, hown, hlk, hts, hA, hst, hld, hK, hP, hD, hS, hR, hl⟩ := id hc
  subst hU
  exact ⟨rfl, fun q hq => hA q (Nat.le_trans hS.1 hq), Stc.moved hW.alike (hst.kept hS.2.1), hld.warm hW, va_K.moved hW.alike hK, hP, hD, hR⟩
theorem z_callV {kc : Kd} {y : MethodName} {T : List AV → HI → (AV → HI → Prop) → Prop} {ws' : List Cond} {idx n pl ci N0 : Nat} {C : String} {T0 : u_T} {fl : List (Nat × Nat)} {As stk' : List AV} (hC : Ct kc y T) (hg : GoodIn k.2.1 (wsV k.2.2.2.1 idx C y kc.2.1)) (hw : kc.2.1 = Cond.code y kc.1 kc.2.2.2.2.2 kc.2.2.2.2.1 :: ws') (hrm : kc.2.2.1.cells = 0 ∧ kc.2.2.1.slots = 0)
    (hy : y.cls = C ∧ y.cls ≠ "java/lang/invoke/MethodHandle" ∧ y.cls ≠ "java/lang/invoke/VarHandle" ∧ (parseMethodDescriptor y.desc).map (fun d => d.parameters.length) = some n) (hR : kc.2.2.1.frames + 1 ≤ k.2.2.1.frames ∧ 8 + (kc.2.2.2.2.2 + 11) + kc.2.2.1.locals ≤ k.2.2.1.locals)
    (hpl : pl < NW) (hsh : sh pl = .inl (ci, fl)) (hc0 : vwCl[ci]? = some (C, T0, N0)) (hd : decode k.1 pc = .ok (.invokevirtual idx, 3)) (hn : As.length = n) (hstk : stk' = As.reverse ++ AR (pl + 1) :: stk) (hsz : szS stk ≤ 8) (hT : T (AR (pl + 1) :: As) hi (fun r h2 => Z k post (pc + 3) lv (pu r stk) h2)) : Z k post pc lv stk' hi := by
  refine z_behind (kc := kc) (stk0 := stk) hT (fun l p e s m args below meth c D ad cy A H locs ls hc => ?_)
  obtain ⟨hx, hb, hr, hml, hown, hlk, hts, hA, hst, hld, hK, hP, hD, hS, hRG, hl⟩ := id hc
  have hM := hC l D ad cy A (AR (pl + 1) :: As) hi _ hT
  have hcw : CallW k.2.2.1 s args k.2.2.2.1 C idx y kc.1 kc.2.2.2.2.2 kc.2.2.2.2.1 kc.2.1 kc.2.2.1 0 0 n := cwV n hts hg hw hrm.1 hrm.2 hy hR
  exact va_runV (b := ad pl) (As := As.map (cv ad)) (rest := stk.map (cv ad)) (g := F0 m pc ls (stk'.map (cv ad))) (R := k.2.2.1) (cells := 0) (slots := 0) ⟨hx, hb, hml, hown, hts⟩ hM hcw ⟨PC.blind, va_recv hK hP hc0 (wld_obj hpl hsh), fun U hU hW => PC.use (k := k) (lv := lv) hc hU hW⟩ rfl (by rw [List.length_map]; exact hn) hl.1 (by rw [hstk]; simp [cv, rv, rc, va_re, va_rf]) (by rw [szS_sum]; show 2 * 0 + szS stk ≤ 8; omega) hd ⟨Nat.zero_le _, Nat.zero_le _⟩
theorem z_callS {kc : Kd} {y : MethodName} {T : List AV → HI → (AV → HI → Prop) → Prop} {ws' : List Cond} {idx n : Nat} {As stk' : List AV} (hC : Ct kc y T) (hg : GoodIn k.2.1 (va_wsS k.2.2.2.1 idx y kc.2.1)) (hw : kc.2.1 = Cond.code y kc.1 kc.2.2.2.2.2 kc.2.2.2.2.1 :: ws') (hrm : kc.2.2.1.cells = 0 ∧ kc.2.2.1.slots = 0)
    (hy : y.cls ≠ "java/lang/invoke/MethodHandle" ∧ y.cls ≠ "java/lang/invoke/VarHandle" ∧ (parseMethodDescriptor y.desc).map (fun d => d.parameters.length) = some n) (hR : kc.2.2.1.frames + 1 ≤ k.2.2.1.frames ∧ 8 + (kc.2.2.2.2.2 + 11) + kc.2.2.1.locals ≤ k.2.2.1.locals)
    (hd : decode k.1 pc = .ok (.invokestatic idx, 3)) (hn : As.length = n) (hstk : stk' = As.reverse ++ stk) (hsz : szS stk ≤ 8) (hT : T As hi (fun r h2 => Z k post (pc + 3) lv (pu r stk) h2)) : Z k post pc lv stk' hi := by
  refine z_behind (kc := kc) (stk0 := stk) hT (fun l p e s m args below meth c D ad cy A H locs ls hc => ?_)
  obtain ⟨hx, hb, hr, hml, hown, hlk, hts, hA, hst, hld, hK, hP, hD, hS, hRG, hl⟩ := id hc
  have hM := hC l D ad cy A As hi _ hT
  have hcw := va_cwS (R := k.2.2.1) (args := args) (s := s) n hts hg hw hrm.1 hrm.2 hy hR
  exact va_runS (As := As.map (cv ad)) (rest := stk.map (cv ad)) (g := F0 m pc ls (stk'.map (cv ad))) (R := k.2.2.1) (cells := 0) (slots := 0) ⟨hx, hb, hml, hown, hts⟩ hM hcw ⟨PC.blind, fun U hU hW => PC.use (k := k) (lv := lv) hc hU hW⟩ rfl (by rw [List.length_map]; exact hn) hl.1 (by rw [hstk]; simp) (by rw [szS_sum]; show 2 * 0 + szS stk ≤ 8; omega) hd ⟨Nat.zero_le _, Nat.zero_le _⟩
theorem tdiv_nn {x y : Int} (hx : 0 ≤ x) : x.tdiv y = x / y := Int.tdiv_eq_ediv_of_nonneg hx
theorem iI_div {x y : Int} (hx : inR x) (hy : inR y) (h0 : 0 ≤ x) (h1 : 0 < y) : iI x / iI y = iI (x / y) := by
  have hq : 0 ≤ x / y ∧ x / y ≤ x := ⟨Int.ediv_nonneg h0 (by omega), Int.ediv_le_self y h0⟩
  apply Int32.toInt_inj.mp
  rw [Int32.toInt_div, iI_toInt hx, iI_toInt hy, iI_toInt ⟨by omega, by have := hx.2; omega⟩, tdiv_nn h0]
  show (x / y).bmod 4294967296 = _
  exact Int.bmod_eq_of_le (by omega) (by have := hx.2; omega)
theorem z_idiv {x y : Int} (hd : decode k.1 pc = .ok (.idiv, 1)) (hx0 : inR x) (hy0 : inR y) (h0 : 0 ≤ x ∧ 0 < y) (kk : ∀ v : Int, v = x / y → Z k post (pc + 1) lv (AI v :: stk) hi) : Z k post pc lv (AI y :: AI x :: stk) hi := by
  intro l p e s m args below meth c D ad cy A H locs ls hc
  refine lv_idiv (x := iI x) (y := iI y) hc.1 hc.2.1 hd (fun q => ?_) ?_
  · rw [← iI_0, iI_eq hy0 inR_lit.1] at q; omega
  · rw [iI_div hx0 hy0 h0.1 h0.2]
    exact kk _ rfl l p e s m args below meth c D ad cy A H locs ls hc
theorem z_irem {x y : Int} (hd : decode k.1 pc = .ok (.irem, 1)) (hx0 : inR x) (hy0 : inR y) (h0 : 0 ≤ x ∧ 0 < y) (kk : ∀ v : Int, v = x % y → Z k post (pc + 1) lv (AI v :: stk) hi) : Z k post pc lv (AI y :: AI x :: stk) hi := by
  intro l p e s m args below meth c D ad cy A H locs ls hc
  refine lv_irem (x := iI x) (y := iI y) hc.1 hc.2.1 hd (fun q => ?_) ?_
  · rw [← iI_0, iI_eq hy0 inR_lit.1] at q; omega
  · rw [iI_div hx0 hy0 h0.1 h0.2, iI_mul, iI_sub]
    refine kk _ ?_ l p e s m args below meth c D ad cy A H locs ls hc
    have := Int.emod_add_mul_ediv x y
    rw [Int.mul_comm] at this; omega
theorem z_iand {x y : Int} (hd : decode k.1 pc = .ok (.iand, 1)) (kk : ∀ v : Int, v = (iI x &&& iI y).toInt → Z k post (pc + 1) lv (AI v :: stk) hi) : Z k post pc lv (AI y :: AI x :: stk) hi := by
  intro l p e s m args below meth c D ad cy A H locs ls hc
  refine lv_iand (x := iI x) (y := iI y) hc.1 hc.2.1 hd ?_
  have h := kk _ rfl l p e s m args below meth c D ad cy A H locs ls hc
  simp only [List.map_cons, cv, iI_of] at h; exact h
theorem z_ior {x y : Int} (hd : decode k.1 pc = .ok (.ior, 1)) (kk : ∀ v : Int, v = (iI x ||| iI y).toInt → Z k post (pc + 1) lv (AI v :: stk) hi) : Z k post pc lv (AI y :: AI x :: stk) hi := by
  intro l p e s m args below meth c D ad cy A H locs ls hc
  refine lv_ior (x := iI x) (y := iI y) hc.1 hc.2.1 hd ?_
  have h := kk _ rfl l p e s m args below meth c D ad cy A H locs ls hc
  simp only [List.map_cons, cv, iI_of] at h; exact h
theorem z_ishr {x y : Int} (hd : decode k.1 pc = .ok (.ishr, 1)) (kk : ∀ v : Int, v = (iI x >>> (iI y &&& 31)).toInt → Z k post (pc + 1) lv (AI v :: stk) hi) : Z k post pc lv (AI y :: AI x :: stk) hi := by
  intro l p e s m args below meth c D ad cy A H locs ls hc
  refine lv_ishr (x := iI x) (y := iI y) hc.1 hc.2.1 hd ?_
  have h := kk _ rfl l p e s m args below meth c D ad cy A H locs ls hc
  simp only [List.map_cons, cv, iI_of] at h; exact h
theorem z_iushr {x y : Int} (hd : decode k.1 pc = .ok (.iushr, 1)) (kk : ∀ v : Int, v = ((iI x).toUInt32 >>> ((iI y).toUInt32 &&& Int32.toUInt32 31)).toInt32.toInt → Z k post (pc + 1) lv (AI v :: stk) hi) : Z k post pc lv (AI y :: AI x :: stk) hi := by
  intro l p e s m args below meth c D ad cy A H locs ls hc
  refine lv_iushr (x := iI x) (y := iI y) hc.1 hc.2.1 hd rfl ?_
  have h := kk _ rfl l p e s m args below meth c D ad cy A H locs ls hc
  simp only [List.map_cons, cv, iI_of] at h; exact h
theorem z_i2b {x : Int} (hd : decode k.1 pc = .ok (.i2b, 1)) (kk : ∀ v : Int, v = (iI x).toInt8.toInt → Z k post (pc + 1) lv (AI v :: stk) hi) : Z k post pc lv (AI x :: stk) hi := by
  intro l p e s m args below meth c D ad cy A H locs ls hc
  refine lv_i2b (x := iI x) hc.1 hc.2.1 hd rfl ?_
  have h := kk _ rfl l p e s m args below meth c D ad cy A H locs ls hc
  have e0 : iI (iI x).toInt8.toInt = (iI x).toInt8.toInt32 := by
    apply Int32.toInt_inj.mp
    have := Int8.le_toInt (iI x).toInt8; have := Int8.toInt_lt (iI x).toInt8
    rw [Int8.toInt_toInt32, iI_toInt ⟨by omega, by omega⟩]
  simp only [List.map_cons, cv, e0] at h; exact h
theorem z_i2l {x : Int} (hd : decode k.1 pc = .ok (.i2l, 1)) (hx0 : inR x) (kk : Z k post (pc + 1) lv (AL x :: stk) hi) : Z k post pc lv (AI x :: stk) hi := by
  intro l p e s m args below meth c D ad cy A H locs ls hc
  refine lv_i2l (x := iI x) (v := iL x) hc.1 hc.2.1 hd ?_ (kk l p e s m args below meth c D ad cy A H locs ls hc)
  apply Int64.toInt_inj.mp
  rw [Int32.toInt_toInt64, iI_toInt hx0, iL_toInt ⟨by have := hx0.1; omega, by have := hx0.2; omega⟩]
theorem z_l2i {x : Int} (hd : decode k.1 pc = .ok (.l2i, 1)) (kk : ∀ v : Int, v = (iL x).toInt32.toInt → Z k post (pc + 1) lv (AI v :: stk) hi) : Z k post pc lv (AL x :: stk) hi := by
  intro l p e s m args below meth c D ad cy A H locs ls hc
  refine lv_l2i (x := iL x) hc.1 hc.2.1 hd rfl ?_
  have h := kk _ rfl l p e s m args below meth c D ad cy A H locs ls hc
  simp only [List.map_cons, cv, iI_of] at h; exact h
theorem z_ladd {x y : Int} (hd : decode k.1 pc = .ok (.ladd, 1)) (kk : ∀ v : Int, v = x + y → Z k post (pc + 1) lv (AL v :: stk) hi) : Z k post pc lv (AL y :: AL x :: stk) hi := by
  intro l p e s m args below meth c D ad cy A H locs ls hc
  refine lv_ladd (x := iL x) (y := iL y) hc.1 hc.2.1 hd ?_
  rw [iL_add]
  exact kk _ rfl l p e s m args below meth c D ad cy A H locs ls hc
theorem z_lsub {x y : Int} (hd : decode k.1 pc = .ok (.lsub, 1)) (kk : ∀ v : Int, v = x - y → Z k post (pc + 1) lv (AL v :: stk) hi) : Z k post pc lv (AL y :: AL x :: stk) hi := by
  intro l p e s m args below meth c D ad cy A H locs ls hc
  refine lv_lsub (x := iL x) (y := iL y) hc.1 hc.2.1 hd ?_
  rw [iL_sub]
  exact kk _ rfl l p e s m args below meth c D ad cy A H locs ls hc
theorem z_lmul {x y : Int} (hd : decode k.1 pc = .ok (.lmul, 1)) (kk : ∀ v : Int, v = x * y → Z k post (pc + 1) lv (AL v :: stk) hi) : Z k post pc lv (AL y :: AL x :: stk) hi := by
  intro l p e s m args below meth c D ad cy A H locs ls hc
  refine lv_lmul (x := iL x) (y := iL y) hc.1 hc.2.1 hd ?_
  rw [iL_mul]
  exact kk _ rfl l p e s m args below meth c D ad cy A H locs ls hc
theorem z_land {x y : Int} (hd : decode k.1 pc = .ok (.land, 1)) (kk : ∀ v : Int, v = (iL x &&& iL y).toInt → Z k post (pc + 1) lv (AL v :: stk) hi) : Z k post pc lv (AL y :: AL x :: stk) hi := by
  intro l p e s m args below meth c D ad cy A H locs ls hc
  refine lv_land (x := iL x) (y := iL y) hc.1 hc.2.1 hd ?_
  have h := kk _ rfl l p e s m args below meth c D ad cy A H locs ls hc
  simp only [List.map_cons, cv, iL_of] at h; exact h
theorem z_lor {x y : Int} (hd : decode k.1 pc = .ok (.lor, 1)) (kk : ∀ v : Int, v = (iL x ||| iL y).toInt → Z k post (pc + 1) lv (AL v :: stk) hi) : Z k post pc lv (AL y :: AL x :: stk) hi := by
  intro l p e s m args below meth c D ad cy A H locs ls hc
  refine lv_lor (x := iL x) (y := iL y) hc.1 hc.2.1 hd ?_
  have h := kk _ rfl l p e s m args below meth c D ad cy A H locs ls hc
  simp only [List.map_cons, cv, iL_of] at h; exact h
theorem z_lxor {x y : Int} (hd : decode k.1 pc = .ok (.lxor, 1)) (kk : ∀ v : Int, v = (iL x ^^^ iL y).toInt → Z k post (pc + 1) lv (AL v :: stk) hi) : Z k post pc lv (AL y :: AL x :: stk) hi := by
  intro l p e s m args below meth c D ad cy A H locs ls hc
  refine lv_lxor (x := iL x) (y := iL y) hc.1 hc.2.1 hd ?_
  have h := kk _ rfl l p e s m args below meth c D ad cy A H locs ls hc
  simp only [List.map_cons, cv, iL_of] at h; exact h
theorem z_lushr {x y : Int} (hd : decode k.1 pc = .ok (.lushr, 1)) (kk : ∀ v : Int, v = ((iL x).toUInt64 >>> ((iI y).toInt64.toUInt64 &&& Int64.toUInt64 63)).toInt64.toInt → Z k post (pc + 1) lv (AL v :: stk) hi) : Z k post pc lv (AI y :: AL x :: stk) hi := by
  intro l p e s m args below meth c D ad cy A H locs ls hc
  refine lv_lushr (x := iL x) (y := iI y) hc.1 hc.2.1 hd rfl ?_
  have h := kk _ rfl l p e s m args below meth c D ad cy A H locs ls hc
  simp only [List.map_cons, cv, iL_of] at h; exact h
theorem z_lshl {x y : Int} (hd : decode k.1 pc = .ok (.lshl, 1)) (kk : ∀ v : Int, v = (iL x <<< ((iI y).toInt64 &&& 63)).toInt → Z k post (pc + 1) lv (AL v :: stk) hi) : Z k post pc lv (AI y :: AL x :: stk) hi := by
  intro l p e s m args below meth c D ad cy A H locs ls hc
  refine lv_lshl (x := iL x) (y := iI y) hc.1 hc.2.1 hd rfl ?_
  have h := kk _ rfl l p e s m args below meth c D ad cy A H locs ls hc
  simp only [List.map_cons, cv, iL_of] at h; exact h
theorem z_lshr {x y : Int} (hd : decode k.1 pc = .ok (.lshr, 1)) (kk : ∀ v : Int, v = (iL x >>> ((iI y).toInt64 &&& 63)).toInt → Z k post (pc + 1) lv (AL v :: stk) hi) : Z k post pc lv (AI y :: AL x :: stk) hi := by
  intro l p e s m args below meth c D ad cy A H locs ls hc
  refine lv_lshr (x := iL x) (y := iI y) hc.1 hc.2.1 hd rfl ?_
  have h := kk _ rfl l p e s m args below meth c D ad cy A H locs ls hc
  simp only [List.map_cons, cv, iL_of] at h; exact h
theorem z_lcmp {x y : Int} (hd : decode k.1 pc = .ok (.lcmp, 1)) (hx0 : inL x) (hy0 : inL y) (kk : ∀ v : Int, (v = 1 ∧ y < x) ∨ (v = 0 ∧ x = y) ∨ (v = -1 ∧ x < y) → Z k post (pc + 1) lv (AI v :: stk) hi) : Z k post pc lv (AL y :: AL x :: stk) hi := by
  intro l p e s m args below meth c D ad cy A H locs ls hc
  refine W.lcmp (x := iL x) (y := iL y) hc.1 hc.2.1 hd ?_
  unfold lg_cmp
  simp only [iL_lt hx0 hy0, iL_lt hy0 hx0, iL_eq hx0 hy0, GT.gt]
  have fin : ∀ v : Int, ((v = 1 ∧ y < x) ∨ (v = 0 ∧ x = y) ∨ (v = -1 ∧ x < y)) → ∀ z : Int32, z = iI v → W p l e k.2.2.1 s m args below meth c H locs 0 0 (MQ below (PQ post D ad cy A) args s 0 0 A) (F0 m (pc + 1) ls (.int z :: stk.map (cv ad))) := fun v hv z hz => by
    rw [hz]; exact kk v hv l p e s m args below meth c D ad cy A H locs ls hc
  rcases Int.lt_trichotomy x y with h | h | h
  · refine fin (-1) (Or.inr (Or.inr ⟨rfl, h⟩)) _ ?_
    have h2 : ¬ y < x := by omega
    have h3 : ¬ x = y := by omega
    simp only [if_neg h2, if_neg h3, if_pos h]; decide
  · refine fin 0 (Or.inr (Or.inl ⟨rfl, h⟩)) _ ?_
    have h2 : ¬ y < x := by omega
    have h3 : ¬ x < y := by omega
    simp only [if_neg h2, if_pos h, if_neg h3]; decide
  · refine fin 1 (Or.inl ⟨rfl, h⟩) _ ?_
    have h2 : ¬ x < y := by omega
    simp only [if_pos h, if_neg h2]; decide
def tgs (k : Kd) (post : AV → HI → Prop) (lv : List (Nat × AV)) (stk : List AV) (hi : HI) (x : Int) : Int → List Nat → Prop
  | _, [] => True
  | lo, t :: r => (x = lo → Z k post t lv stk hi) ∧ tgs k post lv stk hi x (lo + 1) r
theorem tgs_at {x : Int} : ∀ {tg : List Nat} {lo : Int} {j t : Nat}, tgs k post lv stk hi x lo tg → tg[j]? = some t → x = lo + j → Z k post t lv stk hi
  | [], _, _, _, _, h, _ => by simp at h
  | t0 :: r, lo, 0, t, h, h2, h3 => by simp at h2; subst h2; exact h.1 (by omega)
  | t0 :: r, lo, j + 1, t, h, h2, h3 => tgs_at h.2 (by simpa using h2) (by omega)
theorem z_tsw {x : Int} {df lo0 hi0 : Int} {offs : Array Int} {len dtgt : Nat} {tg : List Nat} (hd : decode k.1 pc = .ok (.tableswitch df lo0 hi0 offs, len)) (hx0 : inR x) (ht : (pc : Int) + df = (dtgt : Int)) (hg : hi0 - lo0 + 1 = (tg.length : Int) ∧ offs.size = tg.length ∧ (offs.toList.zip tg).all (fun q => (pc : Int) + q.1 == (q.2 : Int)) = true) (kd : x < lo0 ∨ hi0 < x → Z k post dtgt lv stk hi) (kk : tgs k post lv stk hi x lo0 tg) : Z k post pc lv (AI x :: stk) hi := by
  intro l p e s m args below meth c D ad cy A H locs ls hc
  by_cases h : x < lo0 ∨ hi0 < x
  · exact lv_tableOut (x := iI x) hc.1 hc.2.1 hd (by rw [iI_toInt hx0]; exact h) ht (kd h l p e s m args below meth c D ad cy A H locs ls hc)
  · have h1 : ¬ x < lo0 := fun q => h (Or.inl q)
    have h2 : ¬ hi0 < x := fun q => h (Or.inr q)
    obtain ⟨g1, g2, g3⟩ := hg
    have hj : (x - lo0).toNat < tg.length := by omega
    obtain ⟨t, ht2⟩ : ∃ t, tg[(x - lo0).toNat]? = some t := ⟨_, List.getElem?_eq_getElem hj⟩
    obtain ⟨o, ho⟩ : ∃ o, offs[(x - lo0).toNat]? = some o := ⟨_, Array.getElem?_eq_getElem (by omega)⟩
    have ho2 : offs.toList[(x - lo0).toNat]? = some o := by rw [Array.getElem?_toList]; exact ho
    have hz : (offs.toList.zip tg)[(x - lo0).toNat]? = some (o, t) := by rw [List.getElem?_zip_eq_some]; exact ⟨ho2, ht2⟩
    have hz2 := List.all_eq_true.mp g3 _ (List.mem_of_getElem? hz)
    exact lv_tableIn (x := iI x) (off := o) (tgt := t) hc.1 hc.2.1 hd (by rw [iI_toInt hx0]; exact h1) (by rw [iI_toInt hx0]; exact h2) (by rw [iI_toInt hx0]; exact ho) (by simpa using hz2) (tgs_at kk ht2 (by omega) l p e s m args below meth c D ad cy A H locs ls hc)
theorem z_ifnonnull {r : Nat} {off : Int} {tgt : Nat} (hd : decode k.1 pc = .ok (.ifnonnull off, 3)) (ht : (pc : Int) + off = (tgt : Int)) (h0 : 0 < r) (kk : Z k post tgt lv stk hi) : Z k post pc lv (AR r :: stk) hi := by
  intro l p e s m args below meth c D ad cy A H locs ls hc
  cases r with
  | zero => omega
  | succ r => exact lv_ifnonnull (x := ad r) hc.1 hc.2.1 hd ht (kk l p e s m args below meth c D ad cy A H locs ls hc)
theorem z_ifnull {r : Nat} {off : Int} {tgt : Nat} (hd : decode k.1 pc = .ok (.ifnull off, 3)) (ht : (pc : Int) + off = (tgt : Int)) (h0 : 0 < r) (kk : Z k post (pc + 3) lv stk hi) : Z k post pc lv (AR r :: stk) hi := by
  intro l p e s m args below meth c D ad cy A H locs ls hc
  cases r with
  | zero => omega
  | succ r => exact lv_ifnull (x := ad r) hc.1 hc.2.1 hd (kk l p e s m args below meth c D ad cy A H locs ls hc)
theorem z_ifnonnullE {x : Int} {off : Int} {tgt : Nat} (hd : decode k.1 pc = .ok (.ifnonnull off, 3)) (ht : (pc : Int) + off = (tgt : Int)) (h0 : 0 ≤ x) (kk : Z k post tgt lv stk hi) : Z k post pc lv (AR (ec x) :: stk) hi := z_ifnonnull hd ht (by rw [ec_pos h0]; omega) kk
theorem z_ifnullE {x : Int} {off : Int} {tgt : Nat} (hd : decode k.1 pc = .ok (.ifnull off, 3)) (ht : (pc : Int) + off = (tgt : Int)) (h0 : 0 ≤ x) (kk : Z k post (pc + 3) lv stk hi) : Z k post pc lv (AR (ec x) :: stk) hi := z_ifnull hd ht (by rw [ec_pos h0]; omega) kk
theorem ec_inj {ad : Nat → Nat} (hj : ∀ i j, i < 41 → j < 41 → ad (100 + i) = ad (100 + j) → i = j) {x y : Int} (hx : -1 ≤ x ∧ x < 41) (hy : -1 ≤ y ∧ y < 41) : (rc (ec x)).map ad = (rc (ec y)).map ad ↔ x = y := by
  constructor
  · intro h
    unfold ec at h
    by_cases h1 : x < 0 <;> by_cases h2 : y < 0
    · omega
    · rw [if_pos h1, if_neg h2, show 101 + y.toNat = (100 + y.toNat) + 1 by omega] at h; cases h
    · rw [if_neg h1, if_pos h2, show 101 + x.toNat = (100 + x.toNat) + 1 by omega] at h; cases h
    · rw [if_neg h1, if_neg h2, show 101 + x.toNat = (100 + x.toNat) + 1 by omega, show 101 + y.toNat = (100 + y.toNat) + 1 by omega] at h
      have h3 := hj _ _ (by omega) (by omega) (Option.some.inj h)
      omega
  · intro h; rw [h]
theorem z_acmp_eq {x y : Int} {off : Int} {tgt : Nat} (hd : decode k.1 pc = .ok (.if_acmp .eq off, 3)) (ht : (pc : Int) + off = (tgt : Int)) (hx0 : -1 ≤ x ∧ x < 41) (hy0 : -1 ≤ y ∧ y < 41) (kt : x = y → Z k post tgt lv stk hi) (kf : x ≠ y → Z k post (pc + 3) lv stk hi) : Z k post pc lv (AR (ec y) :: AR (ec x) :: stk) hi := by
  intro l p e s m args below meth c D ad cy A H locs ls hc
  obtain ⟨hx, hb, hr, hml, hown, hlk, hts, hA, hst, hld, hK, hP, hD, hS, hRG, hl⟩ := id hc
  exact lv_acmp_eq (rx := (rc (ec x)).map ad) (ry := (rc (ec y)).map ad) hx hb hd ht (fun q => kt ((ec_inj hst.2.1 hx0 hy0).mp q) l p e s m args below meth c D ad cy A H locs ls hc) (fun q => kf (fun z => q ((ec_inj hst.2.1 hx0 hy0).mpr z)) l p e s m args below meth c D ad cy A H locs ls hc)
theorem z_acmp_ne {x y : Int} {off : Int} {tgt : Nat} (hd : decode k.1 pc = .ok (.if_acmp .ne off, 3)) (ht : (pc : Int) + off = (tgt : Int)) (hx0 : -1 ≤ x ∧ x < 41) (hy0 : -1 ≤ y ∧ y < 41) (kt : x ≠ y → Z k post tgt lv stk hi) (kf : x = y → Z k post (pc + 3) lv stk hi) : Z k post pc lv (AR (ec y) :: AR (ec x) :: stk) hi := by
  intro l p e s m args below meth c D ad cy A H locs ls hc
  obtain ⟨hx, hb, hr, hml, hown, hlk, hts, hA, hst, hld, hK, hP, hD, hS, hRG, hl⟩ := id hc
  refine lv_acmp_ne (rx := (rc (ec x)).map ad) (ry := (rc (ec y)).map ad) hx hb hd ht (fun q => kt (fun z => q ((ec_inj hst.2.1 hx0 hy0).mpr z)) l p e s m args below meth c D ad cy A H locs ls hc) (fun q => kf ?_ l p e s m args below meth c D ad cy A H locs ls hc)
  exact (ec_inj hst.2.1 hx0 hy0).mp q
theorem z_getstE {i idx : Nat} {z : Int} (hi0 : i < 41) (hz : z = (i : Int)) (hlink : Cond.fieldLink k.2.2.2.1 idx "LateSet$Sign" (sgN.getD i "") "LLateSet$Sign;" ∈ k.2.1) (hd : decode k.1 pc = .ok (.getstatic idx, 3)) (kk : Z k post (pc + 3) lv (AR (ec z) :: stk) hi) : Z k post pc lv stk hi := by
  subst hz
  intro l p e s m args below meth c D ad cy A H locs ls hc
  obtain ⟨hx, hb, hr, hml, hown, hlk, hts, hA, hst, hld, hK, hP, hD, hS, hRG, hl⟩ := id hc
  refine va_gets hx hb (hst.1 i hi0).1 hS hown (hts _ hlink) (fun _ h => h) hd ?_
  have h := kk l p e s m args below meth c D ad cy A H locs ls hc
  simp only [List.map_cons, cv, rv_ec (ad := ad) (Int.natCast_nonneg i), Int.toNat_natCast] at h
  exact h
theorem z_getstS {idx : Nat} (hlink : Cond.fieldLink k.2.2.2.1 idx "LateSet" "SIGNS" "[LLateSet$Sign;" ∈ k.2.1) (hd : decode k.1 pc = .ok (.getstatic idx, 3)) (kk : Z k post (pc + 3) lv (AR 401 :: stk) hi) : Z k post pc lv stk hi := by
  intro l p e s m args below meth c D ad cy A H locs ls hc
  obtain ⟨hx, hb, hr, hml, hown, hlk, hts, hA, hst, hld, hK, hP, hD, hS, hRG, hl⟩ := id hc
  exact va_gets hx hb hst.2.2.2.1 hS hown (hts _ hlink) (fun _ h => h) hd (kk l p e s m args below meth c D ad cy A H locs ls hc)
theorem z_lenS (hd : decode k.1 pc = .ok (.arraylength, 1)) (kk : Z k post (pc + 1) lv (AI 41 :: stk) hi) : Z k post pc lv (AR 401 :: stk) hi := by
  intro l p e s m args below meth c D ad cy A H locs ls hc
  obtain ⟨hx, hb, hr, hml, hown, hlk, hts, hA, hst, hld, hK, hP, hD, hS, hRG, hl⟩ := id hc
  exact va_tlen (v := iI 41) hx hb hst.2.2.2.2.1 hS rfl hd (kk l p e s m args below meth c D ad cy A H locs ls hc)
theorem z_aldS {i : Int} (h0 : 0 ≤ i ∧ i < 41) (hd : decode k.1 pc = .ok (.aaload, 1)) (kk : Z k post (pc + 1) lv (AR (ec i) :: stk) hi) : Z k post pc lv (AI i :: AR 401 :: stk) hi := by
  intro l p e s m args below meth c D ad cy A H locs ls hc
  obtain ⟨hx, hb, hr, hml, hown, hlk, hts, hA, hst, hld, hK, hP, hD, hS, hRG, hl⟩ := id hc
  obtain ⟨g1, g2⟩ := iI_in (n := 41) h0.1 h0.2 (by decide)
  refine vb_tq (v := .ref (ad (100 + i.toNat))) hx hb hst.2.2.2.2.1 hS g1 (by rw [g2]) hd ?_
  have h := kk l p e s m args below meth c D ad cy A H locs ls hc
  simp only [List.map_cons, cv, rv_ec (ad := ad) h0.1] at h
  exact h
theorem z_getw {x : Int} {idx : Nat} (h0 : 0 ≤ x ∧ x < 41) (hlink : Cond.fieldLink k.2.2.2.1 idx "LateSet$Sign" "word" "Ljava/lang/String;" ∈ k.2.1) (hd : decode k.1 pc = .ok (.getfield idx, 3)) (kk : Z k post (pc + 3) lv (AR (201 + x.toNat) :: stk) hi) : Z k post pc lv (AR (ec x) :: stk) hi := by
  intro l p e s m args below meth c D ad cy A H locs ls hc
  obtain ⟨hx, hb, hr, hml, hown, hlk, hts, hA, hst, hld, hK, hP, hD, hS, hRG, hl⟩ := id hc
  show W p l e k.2.2.1 s m args below meth c H locs 0 0 _ (F0 m pc ls (rv ad (ec x) :: stk.map (cv ad)))
  rw [rv_ec h0.1]
  have h := kk l p e s m args below meth c D ad cy A H locs ls hc
  rw [show 201 + x.toNat = (200 + x.toNat) + 1 by omega] at h
  exact vk_getf hx hb (hst.1 x.toNat (by omega)).2.2.1 hS hown (hts _ hlink) (fun _ h => h) hd h
theorem z_getLF {x : Int} {idx : Nat} (h0 : 0 ≤ x ∧ x < 41) (hlink : Cond.fieldLink k.2.2.2.1 idx "LateSet$Sign" "lifeField" "I" ∈ k.2.1) (hd : decode k.1 pc = .ok (.getfield idx, 3)) (kk : ∀ v : Int, v = sgL.getD x.toNat 0 → Z k post (pc + 3) lv (AI v :: stk) hi) : Z k post pc lv (AR (ec x) :: stk) hi := by
  intro l p e s m args below meth c D ad cy A H locs ls hc
  obtain ⟨hx, hb, hr, hml, hown, hlk, hts, hA, hst, hld, hK, hP, hD, hS, hRG, hl⟩ := id hc
  show W p l e k.2.2.1 s m args below meth c H locs 0 0 _ (F0 m pc ls (rv ad (ec x) :: stk.map (cv ad)))
  rw [rv_ec h0.1]
  exact vk_getf hx hb (hst.1 x.toNat (by omega)).2.2.2.1 hS hown (hts _ hlink) (fun _ h => h) hd (kk _ rfl l p e s m args below meth c D ad cy A H locs ls hc)
theorem z_getHF {x : Int} {idx : Nat} (h0 : 0 ≤ x ∧ x < 41) (hlink : Cond.fieldLink k.2.2.2.1 idx "LateSet$Sign" "hourField" "I" ∈ k.2.1) (hd : decode k.1 pc = .ok (.getfield idx, 3)) (kk : ∀ v : Int, v = sgH.getD x.toNat 0 → Z k post (pc + 3) lv (AI v :: stk) hi) : Z k post pc lv (AR (ec x) :: stk) hi := by
  intro l p e s m args below meth c D ad cy A H locs ls hc
  obtain ⟨hx, hb, hr, hml, hown, hlk, hts, hA, hst, hld, hK, hP, hD, hS, hRG, hl⟩ := id hc
  show W p l e k.2.2.1 s m args below meth c H locs 0 0 _ (F0 m pc ls (rv ad (ec x) :: stk.map (cv ad)))
  rw [rv_ec h0.1]
  exact vk_getf hx hb (hst.1 x.toNat (by omega)).2.2.2.2 hS hown (hts _ hlink) (fun _ h => h) hd (kk _ rfl l p e s m args below meth c D ad cy A H locs ls hc)
/-- a row out of rows -/
theorem z_aldR {pl n b : Nat} {i : Int} (hpl : pl < NW) (hsh : sh pl = .inr (3, n, b)) (hn : n < 2147483648) (h0 : 0 ≤ i) (h1 : i < n) (hd : decode k.1 pc = .ok (.aaload, 1)) (kk : Z k post (pc + 1) lv (AR (b + i.toNat + 1) :: stk) hi) : Z k post pc lv (AI i :: AR (pl + 1) :: stk) hi := by
  intro l p e s m args below meth c D ad cy A H locs ls hc
  obtain ⟨hx, hb, hr, hml, hown, hlk, hts, hA, hst, hld, hK, hP, hD, hS, hR, hl⟩ := id hc
  obtain ⟨g1, g2⟩ := iI_in h0 h1 hn
  have hlt : (iI i).toNatClampNeg < n := by rw [g2]; omega
  exact W.aald (v := .ref (ad (b + i.toNat))) (ty := .array .int) hx hb (hP pl _ (wld_arr hpl hsh)) ((hK.2 3 _ rfl).1 n (fun j => va_rf (some (ad (b + j))))) rfl (fun q => by cases q) (by show ¬ (iI i < 0 ∨ (arrV _ _ _).slots.size ≤ _); rw [arrV_size]; exact g1) (by show (arrV (cy 3) n (fun j => va_rf (some (ad (b + j))))).slots[(iI i).toNatClampNeg]? = _; rw [arrV_read _ _ hlt, g2]; rfl) rfl rfl hd (kk l p e s m args below meth c D ad cy A H locs ls hc)
/-- an enum constant out of an array of them -/
theorem z_aldE {pl n b : Nat} {i : Int} (hpl : pl < NW) (hsh : sh pl = .inr (4, n, b)) (hn : n < 2147483648) (h0 : 0 ≤ i) (h1 : i < n) (hd : decode k.1 pc = .ok (.aaload, 1)) (kk : ∀ v : Int, v = hi pl i.toNat → Z k post (pc + 1) lv (AR (ec v) :: stk) hi) : Z k post pc lv (AI i :: AR (pl + 1) :: stk) hi := by
  intro l p e s m args below meth c D ad cy A H locs ls hc
  obtain ⟨hx, hb, hr, hml, hown, hlk, hts, hA, hst, hld, hK, hP, hD, hS, hR, hl⟩ := id hc
  obtain ⟨g1, g2⟩ := iI_in h0 h1 hn
  refine va_aldq (C := "LateSet$Sign") (f := fun j => (rc (ec (hi pl j))).map ad) hx hb hK hP pl 4 (wld_arr hpl hsh) rfl g1 hd ?_
  rw [g2]
  exact kk _ rfl l p e s m args below meth c D ad cy A H locs ls hc
theorem z_astE {pl n b : Nat} {i x : Int} (hpl : pl < NW) (hsh : sh pl = .inr (4, n, b)) (hn : n < 2147483648) (h0 : 0 ≤ i) (h1 : i < n) (hx0 : 0 ≤ x ∧ x < 41) (hd : decode k.1 pc = .ok (.aastore, 1)) (kk : ∀ h2 : HI, h2 = hput hi pl (updI (hi pl) i.toNat x) → Z k post (pc + 1) lv stk h2) : Z k post pc lv (AR (ec x) :: AI i :: AR (pl + 1) :: stk) hi := by
  intro l p e s m args below meth c D ad cy A H locs ls hc
  obtain ⟨hx, hb, hr, hml, hown, hlk, hts, hA, hst, hld, hK, hP, hD, hS, hR, hl⟩ := id hc
  obtain ⟨g1, g2⟩ := iI_in h0 h1 hn
  have hAny : va_Any "LateSet$Sign" s H (ad (100 + x.toNat)) := by
    obtain ⟨cell, q1, q2, q3, q4⟩ := ((hst.1 x.toNat (by omega)).2.1).kept hS.2.1
    have q5 : cell.cls < s.vm.classes.size := by
      have q6 := q3
      unfold Vm.findClass at q6
      exact (Array.findIdx?_eq_some_iff_getElem.mp q6).1
    refine ⟨cell, q1, q2, ⟨_, Array.getElem?_eq_getElem q5⟩, fun comp hcomp => ?_⟩
    rw [q3] at hcomp; cases hcomp
    exact va_asg _ _
  show W p l e k.2.2.1 s m args below meth c H locs 0 0 _ (F0 m pc ls (rv ad (ec x) :: .int (iI i) :: .ref (ad pl) :: stk.map (cv ad)))
  rw [rv_ec hx0.1]
  refine va_astqM (E := "LateSet$Sign") (f := fun j => (rc (ec (hi pl j))).map ad) hx hb hK hP hD hS pl 4 (wld_arr hpl hsh) rfl hAny g1 hd (fun H1 locs1 hP1 hD1 hS1 => ?_)
  have ef : va_up (fun j => (rc (ec (hi pl j))).map ad) i.toNat (some (ad (100 + x.toNat))) = (fun j => (rc (ec (updI (hi pl) i.toNat x j))).map ad) := by
    funext j
    unfold va_up updI
    by_cases hj : j = i.toNat
    · rw [if_pos hj, if_pos hj, ec_pos hx0.1, show 101 + x.toNat = (100 + x.toNat) + 1 by omega]; rfl
    · rw [if_neg hj, if_neg hj]
  rw [g2, ef] at hP1 hD1
  have e1 : (wld ad cy hi).set pl (ad pl, .inl (cy 4, n, .inr (.inr (.inr (.inr (fun j => (rc (ec (updI (hi pl) i.toNat x j))).map ad)))))) = wld ad cy (hput hi pl (updI (hi pl) i.toNat x)) := wld_set hpl (by rw [hsh]; rfl)
  rw [e1] at hP1 hD1
  exact kk _ rfl l p e s m args below meth c D ad cy A H1 locs1 ls (hc.heap hP1 hD1 hS1 (hR.put ⟨by omega, by omega⟩))
theorem z_len {pl tag n b : Nat} {z : Int} (hpl : pl < NW) (hsh : sh pl = .inr (tag, n, b)) (htag : tag < 6) (hz : z = (n : Int)) (hn : n < 2147483648) (hd : decode k.1 pc = .ok (.arraylength, 1)) (kk : Z k post (pc + 1) lv (AI z :: stk) hi) : Z k post pc lv (AR (pl + 1) :: stk) hi := by
  subst hz
  intro l p e s m args below meth c D ad cy A H locs ls hc
  obtain ⟨hx, hb, hr, hml, hown, hlk, hts, hA, hst, hld, hK, hP, hD, hS, hR, hl⟩ := id hc
  obtain ⟨ty, hty⟩ : ∃ ty, (tysOf cy)[tag]? = some (cy tag, ty) := by
    match tag, htag with
    | 0, _ => exact ⟨_, rfl⟩
    | 1, _ => exact ⟨_, rfl⟩
    | 2, _ => exact ⟨_, rfl⟩
    | 3, _ => exact ⟨_, rfl⟩
    | 4, _ => exact ⟨_, rfl⟩
    | 5, _ => exact ⟨_, rfl⟩
  have ea : (acell ad (hi pl) tag n b).1 = n := by unfold acell; split <;> rfl
  exact va_alen (v := iI (n : Int)) hx hb hK hP pl tag (wld_arr hpl hsh) hty (by rw [ea]; apply Int32.toInt_inj.mp; rw [iI_toInt ⟨by omega, by omega⟩, Int32.toInt_ofNat_of_lt (by omega)]) hd (kk l p e s m args below meth c D ad cy A H locs ls hc)
/-- System.arraycopy of ints -/
def cpyI (f g : Nat → Int) (sp dp n : Nat) : Nat → Int := fun j => if dp ≤ j ∧ j < dp + n then f (sp + (j - dp)) else g j
theorem z_copy {p1 p2 n1 n2 b1 b2 idx : Nat} {sp dp n : Int} (h1 : p1 < NW) (h2 : p2 < NW) (s1 : sh p1 = .inr (0, n1, b1)) (s2 : sh p2 = .inr (0, n2, b2)) (hne : p1 ≠ 39 ∧ p1 ≠ 54 ∧ p2 ≠ 39 ∧ p2 ≠ 54) (hn1 : n1 < 2147483648 ∧ n2 < 2147483648) (hsp : 0 ≤ sp ∧ 0 ≤ dp ∧ 0 ≤ n) (h4 : sp + n ≤ n1) (h5 : dp + n ≤ n2) (hl1 : Cond.methodLink k.2.2.2.1 idx arraycopyName ∈ k.2.1) (hl2 : Cond.native arraycopyName ∈ k.2.1) (hl3 : Cond.static arraycopyName ∈ k.2.1) (hl4 : Cond.initialized "java/lang/System" ∈ k.2.1) (hfr : 1 ≤ k.2.2.1.frames) (hlo : szS stk + (nativeFrameWords "java/lang/System" "arraycopy" 5 + 11) ≤ k.2.2.1.locals) (hd : decode k.1 pc = .ok (.invokestatic idx, 3)) (kk : ∀ h2 : HI, h2 = hput hi p2 (cpyI (hi p1) (hi p2) sp.toNat dp.toNat n.toNat) → Z k post (pc + 3) lv stk h2) : Z k post pc lv (AI n :: AI dp :: AR (p2 + 1) :: AI sp :: AR (p1 + 1) :: stk) hi := by
  intro l p e s m args below meth c D ad cy A H locs ls hc
  obtain ⟨hx, hb, hr, hml, hown, hlk, hts, hA, hst, hld, hK, hP, hD, hS, hR, hl⟩ := id hc
  have rs : inR sp := ⟨by omega, by omega⟩
  have rd : inR dp := ⟨by omega, by omega⟩
  have rn : inR n := ⟨by omega, by omega⟩
  have nl : ∀ {z : Int}, inR z → 0 ≤ z → ¬ iI z < 0 := fun {z} hz h0 q => by rw [← iI_0, iI_lt hz inR_lit.1] at q; omega
  refine va_copyi (ty := .int) (n0 := n1) (n1 := n2) (f := fun j => iI (hi p1 j)) (g := fun j => iI (hi p2 j)) hx hb (hml.trans hl.1.symm) hown (hts _ hl1) (hts _ hl2) (hts _ hl3) (hts _ hl4) hK hP hD hS p1 p2 0 0 (wld_arr h1 s1) (wld_arr h2 s2) rfl rfl rfl (nl rs hsp.1) (nl rd hsp.2.1) (nl rn hsp.2.2) (by rw [iI_clamp rs hsp.1, iI_clamp rn hsp.2.2]; omega) (by rw [iI_clamp rd hsp.2.1, iI_clamp rn hsp.2.2]; omega) (fun _ _ => rfl) hfr (by rw [szS_sum]; exact hlo) hd (fun H1 locs1 hP1 hD1 hS1 => ?_)
  have ef : va_cpy (fun j => iI (hi p1 j)) (fun j => iI (hi p2 j)) (iI sp).toNatClampNeg (iI dp).toNatClampNeg (iI n).toNatClampNeg = (fun j => iI (cpyI (hi p1) (hi p2) sp.toNat dp.toNat n.toNat j)) := by
    rw [iI_clamp rs hsp.1, iI_clamp rn hsp.2.2, iI_clamp rd hsp.2.1]
    funext j
    unfold cpyI
    by_cases hj : dp.toNat ≤ j ∧ j < dp.toNat + n.toNat
    · rw [if_pos hj, pk_cpy_in hj.1 hj.2]
    · rw [if_neg hj, pk_cpy_out (by omega)]
  rw [ef] at hP1 hD1
  have e1 : (wld ad cy hi).set p2 (ad p2, .inl (cy 0, n2, .inl (fun j => iI (cpyI (hi p1) (hi p2) sp.toNat dp.toNat n.toNat j)))) = wld ad cy (hput hi p2 (cpyI (hi p1) (hi p2) sp.toNat dp.toNat n.toNat)) := wld_set h2 (by rw [s2]; rfl)
  rw [e1] at hP1 hD1
  refine kk _ rfl l p e s m args below meth c D ad cy A H1 locs1 ls (hc.heap hP1 hD1 hS1 (hR.putA (fun j => ?_)))
  unfold cpyI
  split
  · exact hR.2 _ _ (fun q => hne.1 q.1) hne.2.1
  · exact hR.2 _ _ (fun q => hne.2.2.1 q.1) hne.2.2.2
theorem z_nb {x : Int} (h : x = 0 ∨ x = 1) : narrow .boolean (.int (iI x)) = .int (iI x) := by rcases h with rfl | rfl <;> rfl
theorem z_fb {x : Int} (h : x = 0 ∨ x = 1) : fits .boolean (.int (iI x)) = true := by rcases h with rfl | rfl <;> rfl
theorem z_mmax {x y : Int} {idx : Nat} (hx0 : inR x) (hy0 : inR y) (hl1 : Cond.methodLink k.2.2.2.1 idx Lib.Math.max.name ∈ k.2.1) (hl2 : Cond.static Lib.Math.max.name ∈ k.2.1) (hl3 : Cond.initialized "java/lang/Math" ∈ k.2.1) (hl4 : Cond.code Lib.Math.max.name Lib.Math.max.code 2 (some .int) ∈ k.2.1) (hfr : 1 ≤ k.2.2.1.frames) (hlo : szS stk + 13 ≤ k.2.2.1.locals) (hd : decode k.1 pc = .ok (.invokestatic idx, 3)) (kk : ∀ v : Int, (x < y → v = y) ∧ (y ≤ x → v = x) → Z k post (pc + 3) lv (AI v :: stk) hi) : Z k post pc lv (AI y :: AI x :: stk) hi := by
  intro l p e s m args below meth c D ad cy A H locs ls hc
  obtain ⟨hx, hb, hr, hml, hown, hlk, hts, hA, hst, hld, hK, hP, hD, hS, hR, hl⟩ := id hc
  refine va_mmax (x := iI x) (y := iI y) hx hb (hml.trans hl.1.symm) hown (hts _ hl1) (hts _ hl2) (hts _ hl3) (hts _ hl4) hfr (by rw [szS_sum]; exact hlo) (Nat.zero_le _) (Nat.zero_le _) hd ?_
  by_cases h : x < y
  · rw [if_pos ((iI_lt hx0 hy0).mpr h)]
    exact kk _ ⟨fun _ => rfl, fun q => by omega⟩ l p e s m args below meth c D ad cy A H locs ls hc
  · rw [if_neg (fun q => h ((iI_lt hx0 hy0).mp q))]
    exact kk _ ⟨fun q => absurd q h, fun _ => rfl⟩ l p e s m args below meth c D ad cy A H locs ls hc
theorem z_mmin {x y : Int} {idx : Nat} (hx0 : inR x) (hy0 : inR y) (hl1 : Cond.methodLink k.2.2.2.1 idx Lib.Math.min.name ∈ k.2.1) (hl2 : Cond.static Lib.Math.min.name ∈ k.2.1) (hl3 : Cond.initialized "java/lang/Math" ∈ k.2.1) (hl4 : Cond.code Lib.Math.min.name Lib.Math.min.code 2 (some .int) ∈ k.2.1) (hfr : 1 ≤ k.2.2.1.frames) (hlo : szS stk + 13 ≤ k.2.2.1.locals) (hd : decode k.1 pc = .ok (.invokestatic idx, 3)) (kk : ∀ v : Int, (x < y → v = x) ∧ (y ≤ x → v = y) → Z k post (pc + 3) lv (AI v :: stk) hi) : Z k post pc lv (AI y :: AI x :: stk) hi := by
  intro l p e s m args below meth c D ad cy A H locs ls hc
  obtain ⟨hx, hb, hr, hml, hown, hlk, hts, hA, hst, hld, hK, hP, hD, hS, hR, hl⟩ := id hc
  refine va_mmin (x := iI x) (y := iI y) hx hb (hml.trans hl.1.symm) hown (hts _ hl1) (hts _ hl2) (hts _ hl3) (hts _ hl4) hfr (by rw [szS_sum]; exact hlo) (Nat.zero_le _) (Nat.zero_le _) hd ?_
  by_cases h : y < x
  · rw [if_pos ((iI_lt hy0 hx0).mpr h)]
    exact kk _ ⟨fun q => by omega, fun q => rfl⟩ l p e s m args below meth c D ad cy A H locs ls hc
  · rw [if_neg (fun q => h ((iI_lt hy0 hx0).mp q))]
    exact kk _ ⟨fun q => rfl, fun q => by omega⟩ l p e s m args below meth c D ad cy A H locs ls hc
theorem z_callSN {kc : Kd} {y : MethodName} {T : List AV → HI → (AV → HI → Prop) → Prop} {ws' : List Cond} {idx n : Nat} {As stk' : List AV} (hC : Ct kc y T) (hnest : (k.2.2.2.1, idx, y) ∈ nestM) (hg : GoodIn k.2.1 kc.2.1) (hst0 : Cond.static y ∈ k.2.1) (hin0 : Cond.initialized y.cls ∈ k.2.1) (hw : kc.2.1 = Cond.code y kc.1 kc.2.2.2.2.2 kc.2.2.2.2.1 :: ws') (hrm : kc.2.2.1.cells = 0 ∧ kc.2.2.1.slots = 0)
    (hy : y.cls ≠ "java/lang/invoke/MethodHandle" ∧ y.cls ≠ "java/lang/invoke/VarHandle" ∧ (parseMethodDescriptor y.desc).map (fun d => d.parameters.length) = some n) (hR : kc.2.2.1.frames + 1 ≤ k.2.2.1.frames ∧ 8 + (kc.2.2.2.2.2 + 11) + kc.2.2.1.locals ≤ k.2.2.1.locals)
    (hd : decode k.1 pc = .ok (.invokestatic idx, 3)) (hn : As.length = n) (hstk : stk' = As.reverse ++ stk) (hsz : szS stk ≤ 8) (hT : T As hi (fun r h2 => Z k post (pc + 3) lv (pu r stk) h2)) : Z k post pc lv stk' hi := by
  refine z_behind (kc := kc) (stk0 := stk) hT (fun l p e s m args below meth c D ad cy A H locs ls hc => ?_)
  obtain ⟨hx, hb, hr, hml, hown, hlk, hts, hA, hst, hld, hK, hP, hD, hS, hRG, hl⟩ := id hc
  have hM := hC l D ad cy A As hi _ hT
  have hcw := va_cnB (R := k.2.2.1) (args := args) (s := s) n hts hg hw hrm.1 hrm.2 (hld.2.1 _ hnest) (hts _ hin0) hy hR
  exact va_runSN (As := As.map (cv ad)) (rest := stk.map (cv ad)) (g := F0 m pc ls (stk'.map (cv ad))) (R := k.2.2.1) (cells := 0) (slots := 0) ⟨hx, hb, hml, hown, hts⟩ hM ⟨hcw, hts _ hst0, trivial⟩ ⟨PC.blind, fun U hU hW => PC.use (k := k) (lv := lv) hc hU hW⟩ rfl (by rw [List.length_map]; exact hn) hl.1 (by rw [hstk]; simp) (by rw [szS_sum]; show 2 * 0 + szS stk ≤ 8; omega) hd ⟨Nat.zero_le _, Nat.zero_le _⟩
theorem z_callVN {kc : Kd} {y : MethodName} {T : List AV → HI → (AV → HI → Prop) → Prop} {ws' : List Cond} {idx n pl ci N0 : Nat} {C : String} {T0 : u_T} {fl : List (Nat × Nat)} {As stk' : List AV} (hC : Ct kc y T) (hnest : (k.2.2.2.1, idx, y) ∈ nestM) (hg : GoodIn k.2.1 kc.2.1) (hin1 : Cond.instanceMethod y ∈ k.2.1) (hin2 : Cond.selects C y y ∈ k.2.1) (hin0 : Cond.initialized y.cls ∈ k.2.1) (hw : kc.2.1 = Cond.code y kc.1 kc.2.2.2.2.2 kc.2.2.2.2.1 :: ws') (hrm : kc.2.2.1.cells = 0 ∧ kc.2.2.1.slots = 0)
    (hy : y.cls ≠ "java/lang/invoke/MethodHandle" ∧ y.cls ≠ "java/lang/invoke/VarHandle" ∧ (parseMethodDescriptor y.desc).map (fun d => d.parameters.length) = some n) (hR : kc.2.2.1.frames + 1 ≤ k.2.2.1.frames ∧ 8 + (kc.2.2.2.2.2 + 11) + kc.2.2.1.locals ≤ k.2.2.1.locals)
    (hpl : pl < NW) (hsh : sh pl = .inl (ci, fl)) (hc0 : vwCl[ci]? = some (C, T0, N0)) (hd : decode k.1 pc = .ok (.invokevirtual idx, 3)) (hn : As.length = n) (hstk : stk' = As.reverse ++ AR (pl + 1) :: stk) (hsz : szS stk ≤ 8) (hT : T (AR (pl + 1) :: As) hi (fun r h2 => Z k post (pc + 3) lv (pu r stk) h2)) : Z k post pc lv stk' hi := by
  refine z_behind (kc := kc) (stk0 := stk) hT (fun l p e s m args below meth c D ad cy A H locs ls hc => ?_)
  obtain ⟨hx, hb, hr, hml, hown, hlk, hts, hA, hst, hld, hK, hP, hD, hS, hRG, hl⟩ := id hc
  have hM := hC l D ad cy A (AR (pl + 1) :: As) hi _ hT
  have hcw := va_cnB (R := k.2.2.1) (args := args) (s := s) n hts hg hw hrm.1 hrm.2 (hld.2.1 _ hnest) (hts _ hin0) hy hR
  exact va_runVN (C := C) (b := ad pl) (As := As.map (cv ad)) (rest := stk.map (cv ad)) (g := F0 m pc ls (stk'.map (cv ad))) (R := k.2.2.1) (cells := 0) (slots := 0) ⟨hx, hb, hml, hown, hts⟩ hM ⟨hcw, hts _ hin1, hts _ hin2⟩ ⟨PC.blind, va_recv hK hP hc0 (wld_obj hpl hsh), fun U hU hW => PC.use (k := k) (lv := lv) hc hU hW⟩ rfl (by rw [List.length_map]; exact hn) hl.1 (by rw [hstk]; simp [cv, rv, rc, va_re, va_rf]) (by rw [szS_sum]; show 2 * 0 + szS stk ≤ 8; omega) hd ⟨Nat.zero_le _, Nat.zero_le _⟩
theorem z_getstSN (hown0 : k.2.2.2.1 = "LateSet$Tape") (hd : decode k.1 pc = .ok (.getstatic 94, 3)) (kk : Z k post (pc + 3) lv (AR 401 :: stk) hi) : Z k post pc lv stk hi := by
  intro l p e s m args below meth c D ad cy A H locs ls hc
  obtain ⟨hx, hb, hr, hml, hown, hlk, hts, hA, hst, hld, hK, hP, hD, hS, hRG, hl⟩ := id hc
  rw [hown0] at hown
  exact va_getsN hx hb hst.2.2.2.1 hS hown (va_Nw.use rfl hld.2.2) (fun _ h => h) hd (kk l p e s m args below meth c D ad cy A H locs ls hc)
end ZR
abbrev rmL (n : Nat) : Room := { frames := n, cells := 0, slots := 0, locals := 48 * n }
