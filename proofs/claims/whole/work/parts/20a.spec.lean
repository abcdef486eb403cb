/-! SPECS: rows of lives. f is what a row holds; the z-th life's number, birth, death, worth -/
def nO (f : Nat → Int) (z : Int) : Int := f (2 + 4 * z.toNat)
def bO (f : Nat → Int) (z : Int) : Int := f (2 + 4 * z.toNat + 1)
def dO (f : Nat → Int) (z : Int) : Int := f (2 + 4 * z.toNat + 2)
def wO (f : Nat → Int) (z : Int) : Int := f (2 + 4 * z.toNat + 3)
theorem nO_i {f : Nat → Int} {z i : Int} (h : i = 2 + 4 * z) (h0 : 0 ≤ z) : f i.toNat = nO f z := by unfold nO; congr 1; omega
theorem bO_i {f : Nat → Int} {z i : Int} (h : i = 2 + 4 * z + 1) (h0 : 0 ≤ z) : f i.toNat = bO f z := by unfold bO; congr 1; omega
theorem dO_i {f : Nat → Int} {z i : Int} (h : i = 2 + 4 * z + 2) (h0 : 0 ≤ z) : f i.toNat = dO f z := by unfold dO; congr 1; omega
theorem wO_i {f : Nat → Int} {z i : Int} (h : i = 2 + 4 * z + 3) (h0 : 0 ≤ z) : f i.toNat = wO f z := by unfold wO; congr 1; omega
abbrev al (f : Nat → Int) (z h : Int) : Prop := bO f z ≤ h ∧ h < dO f z
/-- the first of n places at which P holds; -1 -/
def Fst (P : Int → Prop) (n v : Int) : Prop := (0 ≤ v ∧ v < n ∧ P v ∧ ∀ z, 0 ≤ z → z < v → ¬ P z) ∨ (v = -1 ∧ ∀ z, 0 ≤ z → z < n → ¬ P z)
theorem Fst.uniq {P : Int → Prop} {n v w : Int} (h1 : Fst P n v) (h2 : Fst P n w) : v = w := by
  rcases h1 with ⟨a1, a2, a3, a4⟩ | ⟨a1, a2⟩ <;> rcases h2 with ⟨b1, b2, b3, b4⟩ | ⟨b1, b2⟩
  · rcases Int.lt_trichotomy v w with q | q | q
    · exact absurd a3 (b4 v a1 q)
    · exact q
    · exact absurd b3 (a4 w b1 q)
  · exact absurd a3 (b2 v a1 a2)
  · exact absurd b3 (a2 w b1 b2)
  · omega
theorem Fst.congr {P R : Int → Prop} {n v : Int} (h : ∀ z, 0 ≤ z → z < n → (P z ↔ R z)) (h1 : Fst P n v) : Fst R n v := by
  rcases h1 with ⟨a1, a2, a3, a4⟩ | ⟨a1, a2⟩
  · exact Or.inl ⟨a1, a2, (h v a1 a2).mp a3, fun z z0 z1 q => a4 z z0 z1 ((h z z0 (by omega)).mpr q)⟩
  · exact Or.inr ⟨a1, fun z z0 z1 q => a2 z z0 z1 ((h z z0 z1).mpr q)⟩
theorem no_step {P : Int → Prop} {k k' : Int} (h : ∀ z, 0 ≤ z → z < k → ¬ P z) (hk : ¬ P k) (e : k' = k + 1) : ∀ z, 0 ≤ z → z < k' → ¬ P z := fun z h0 h1 => by
  rcases Int.lt_or_eq_of_le (show z ≤ k by omega) with q | q
  · exact h z h0 q
  · rw [q]; exact hk
theorem no_0 {P : Int → Prop} {k : Int} (e : k = 0) : ∀ z, 0 ≤ z → z < k → ¬ P z := fun z h0 h1 => by omega
/-- the last of n places at which P holds; -1 -/
def Lst (P : Int → Prop) (n v : Int) : Prop := (0 ≤ v ∧ v < n ∧ P v ∧ ∀ z, v < z → z < n → ¬ P z) ∨ (v = -1 ∧ ∀ z, 0 ≤ z → z < n → ¬ P z)
theorem Lst.uniq {P : Int → Prop} {n v w : Int} (h1 : Lst P n v) (h2 : Lst P n w) : v = w := by
  rcases h1 with ⟨a1, a2, a3, a4⟩ | ⟨a1, a2⟩ <;> rcases h2 with ⟨b1, b2, b3, b4⟩ | ⟨b1, b2⟩
  · rcases Int.lt_trichotomy v w with q | q | q
    · exact absurd b3 (a4 w q b2)
    · exact q
    · exact absurd a3 (b4 v q a2)
  · exact absurd a3 (b2 v a1 a2)
  · exact absurd b3 (a2 w b1 b2)
  · omega
theorem Lst.congr {P R : Int → Prop} {n v : Int} (h : ∀ z, 0 ≤ z → z < n → (P z ↔ R z)) (h1 : Lst P n v) : Lst R n v := by
  rcases h1 with ⟨a1, a2, a3, a4⟩ | ⟨a1, a2⟩
  · exact Or.inl ⟨a1, a2, (h v a1 a2).mp a3, fun z z0 z1 q => a4 z z0 z1 ((h z (by omega) z1).mpr q)⟩
  · exact Or.inr ⟨a1, fun z z0 z1 q => a2 z z0 z1 ((h z z0 z1).mpr q)⟩
theorem nl_step {P : Int → Prop} {n k k' : Int} (h : ∀ z, k < z → z < n → ¬ P z) (hk : ¬ P k) (e : k' = k - 1) : ∀ z, k' < z → z < n → ¬ P z := fun z h0 h1 => by
  rcases Int.lt_or_eq_of_le (show k ≤ z by omega) with q | q
  · exact h z q h1
  · rw [← q]; exact hk
/-- a sum over the first n places -/
def sm (g : Int → Int) : Nat → Int
  | 0 => 0
  | n + 1 => sm g n + g n
theorem sm_step {g : Int → Int} {k k' acc acc' : Int} (h0 : 0 ≤ k) (hk : k' = k + 1) (ha : acc = sm g k.toNat) (hv : acc' = acc + g k) : acc' = sm g k'.toNat := by
  obtain ⟨n, rfl⟩ : ∃ n : Nat, k = n := ⟨k.toNat, by omega⟩
  subst hk
  have e : ((n : Int) + 1).toNat = n + 1 := by omega
  rw [e, hv, ha]; rfl
theorem sm_0 {g : Int → Int} {k acc : Int} (hk : k = 0) (ha : acc = 0) : acc = sm g k.toNat := by subst hk; subst ha; rfl
theorem sm_congr {g g2 : Int → Int} : ∀ {n : Nat}, (∀ z : Int, 0 ≤ z → z < n → g z = g2 z) → sm g n = sm g2 n
  | 0, _ => rfl
  | n + 1, h => by
    show sm g n + g n = sm g2 n + g2 n
    rw [sm_congr (fun z h0 h1 => h z h0 (by omega)), h n (by omega) (by omega)]
theorem sm_bd {g : Int → Int} {a b : Int} (ha : a ≤ 0) (hb : 0 ≤ b) : ∀ {n : Nat}, (∀ z : Int, 0 ≤ z → z < n → a ≤ g z ∧ g z ≤ b) → n * a ≤ sm g n ∧ sm g n ≤ n * b
  | 0, _ => by simp [sm]
  | n + 1, h => by
    have ih := sm_bd ha hb (n := n) (fun z h0 h1 => h z h0 (by omega))
    have h1 := h n (by omega) (by omega)
    show _ ≤ sm g n + g n ∧ sm g n + g n ≤ _
    have e1 : ((n + 1 : Nat) : Int) * a = n * a + a := by rw [Int.natCast_add, Int.add_mul]; simp
    have e2 : ((n + 1 : Nat) : Int) * b = n * b + b := by rw [Int.natCast_add, Int.add_mul]; simp
    omega
/-- only cells of L are others -/
def Fr (L : List Nat) (hi h2 : HI) : Prop := ∀ i, i ∉ L → h2 i = hi i
theorem Fr.rf {L : List Nat} {hi : HI} : Fr L hi hi := fun _ _ => rfl
theorem Fr.put {L : List Nat} {hi h1 h2 : HI} {p : Nat} {f : Nat → Int} (h : Fr L hi h1) (e : h2 = hput h1 p f) (hp : p ∈ L) : Fr L hi h2 := fun i hi0 => by
  rw [e, hput_ne _ _ (fun q => hi0 (by rw [q]; exact hp))]; exact h i hi0
theorem Fr.call {L M : List Nat} {hi h1 h2 : HI} (h : Fr L hi h1) (e : Fr M h1 h2) (hs : ∀ x ∈ M, x ∈ L) : Fr L hi h2 := fun i hi0 => by
  rw [e i (fun q => hi0 (hs i q))]; exact h i hi0
theorem hput_hput (hi : HI) (i : Nat) (f g : Nat → Int) : hput (hput hi i f) i g = hput hi i g := by
  funext a; unfold hput; split <;> rfl
