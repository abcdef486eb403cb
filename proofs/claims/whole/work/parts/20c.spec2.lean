/-- hours as bits of a long -/
def bit (v h : Int) : Prop := (iL v).toBitVec.getLsbD h.toNat = true
theorem iL_lN (n : Nat) : iL (n : Int) = lN n := by
  unfold iL lN; exact (Int64.ofInt_eq_ofNat).symm ▸ rfl
theorem iI_nI (n : Nat) : iI (n : Int) = nI n := by
  unfold iI nI; exact (Int32.ofInt_eq_ofNat).symm ▸ rfl
theorem bit_or {x y v h : Int} (hv : v = (iL x ||| iL y).toInt) : bit v h ↔ (bit x h ∨ bit y h) := by
  subst hv; unfold bit; rw [iL_of, Int64.toBitVec_or, BitVec.getLsbD_or, Bool.or_eq_true]
theorem bit_and {x y v h : Int} (hv : v = (iL x &&& iL y).toInt) : bit v h ↔ (bit x h ∧ bit y h) := by
  subst hv; unfold bit; rw [iL_of, Int64.toBitVec_and, BitVec.getLsbD_and, Bool.and_eq_true]
theorem bit_xor {x y v h : Int} (hv : v = (iL x ^^^ iL y).toInt) : bit v h ↔ ¬ (bit x h ↔ bit y h) := by
  subst hv; unfold bit; rw [iL_of, Int64.toBitVec_xor, BitVec.getLsbD_xor]
  cases (iL x).toBitVec.getLsbD h.toNat <;> cases (iL y).toBitVec.getLsbD h.toNat <;> simp
theorem or_inL {x y v : Int} (h : v = (iL x ||| iL y).toInt) : inL v := by rw [h]; exact toInt_inL _
theorem and_inL {x y v : Int} (h : v = (iL x &&& iL y).toInt) : inL v := by rw [h]; exact toInt_inL _
theorem xor_inL {x y v : Int} (h : v = (iL x ^^^ iL y).toInt) : inL v := by rw [h]; exact toInt_inL _
theorem bit_0 {h : Int} : ¬ bit 0 h := by
  unfold bit
  rw [show iL 0 = lN 0 from iL_lN 0, wb_tb]; simp
theorem bit_inj {x y : Int} (hx : inL x) (hy : inL y) (h : ∀ h : Int, 0 ≤ h → h < 64 → (bit x h ↔ bit y h)) : x = y := by
  have e : (iL x).toBitVec = (iL y).toBitVec := by
    apply BitVec.eq_of_getLsbD_eq
    intro i hi
    have h1 := h (i : Int) (by omega) (by omega)
    unfold bit at h1
    rw [Int.toNat_natCast] at h1
    cases h2 : (iL x).toBitVec.getLsbD i <;> cases h3 : (iL y).toBitVec.getLsbD i <;> simp [h2, h3] at h1 ⊢
  have e2 := Int64.toBitVec_inj.mp e
  rw [← iL_toInt hx, ← iL_toInt hy, e2]
theorem bit_zero_iff {x : Int} (hx : inL x) : x = 0 ↔ ∀ h : Int, 0 ≤ h → h < 64 → ¬ bit x h := by
  constructor
  · intro e h _ _; rw [e]; exact bit_0
  · intro h
    exact bit_inj hx ⟨by decide, by decide⟩ (fun i h0 h1 => ⟨fun q => absurd q (h i h0 h1), fun q => absurd q bit_0⟩)
/-- the hours from b to d - 1 -/
theorem hours_bits {b d v w z : Int} (hb : 0 ≤ b) (hd : d ≤ 64) (hbd : b < d) (hw : w = ((iL (-1)).toUInt64 >>> ((iI z).toInt64.toUInt64 &&& Int64.toUInt64 63)).toInt64.toInt) (hz : z = 64 - (d - b)) (hv : v = (iL w <<< ((iI b).toInt64 &&& 63)).toInt) (h : Int) (h0 : 0 ≤ h) (h1 : h < 64) : bit v h ↔ (b ≤ h ∧ h < d) := by
  subst hw; subst hv; subst hz
  obtain ⟨s, hs⟩ : ∃ s : Nat, (s : Int) = 64 - (d - b) := ⟨(64 - (d - b)).toNat, by omega⟩
  obtain ⟨k, hk⟩ : ∃ k : Nat, (k : Int) = b := ⟨b.toNat, by omega⟩
  obtain ⟨j, hj⟩ : ∃ j : Nat, (j : Int) = h := ⟨h.toNat, by omega⟩
  have e1 : iL (-1) = lN 18446744073709551615 := by decide +kernel
  unfold bit
  rw [← hs, ← hk, ← hj, iI_nI, iI_nI, iL_of, iL_of, e1, wb_shr (by decide) (by omega), wb_shl _ (by omega), wb_tb, BitVec.getLsbD_ofNat, Int.toNat_natCast]
  rw [Nat.testBit_mul_two_pow, Nat.testBit_div_two_pow, show (18446744073709551615 : Nat) = 2 ^ 64 - 1 from rfl, Nat.testBit_two_pow_sub_one]
  simp only [Bool.and_eq_true, decide_eq_true_eq]
  omega
/-- what a row of lives must be -/
def RI (f : Nat → Int) (n : Int) : Prop := (0 ≤ n ∧ n ≤ 40) ∧ (∀ z, 0 ≤ z → z < n → (0 ≤ nO f z ∧ nO f z ≤ 999) ∧ (0 ≤ bO f z ∧ bO f z < dO f z ∧ dO f z ≤ 64) ∧ 0 ≤ wO f z ∧ wO f z ≤ 99) ∧ (∀ z, 0 ≤ z → z + 1 < n → nO f z < nO f (z + 1) ∨ (nO f z = nO f (z + 1) ∧ dO f z ≤ bO f (z + 1)))
/-- the hours of a number's lives, but for the life left out -/
def Hrs (f : Nat → Int) (n x out h : Int) : Prop := ∃ z, 0 ≤ z ∧ z < n ∧ z ≠ out ∧ nO f z = x ∧ al f z h
theorem Hrs_step {f : Nat → Int} {k k' x out acc acc' w : Int} (hk : k' = k + 1) (h0 : 0 ≤ k) (ha : ∀ h, 0 ≤ h → h < 64 → (bit acc h ↔ Hrs f k x out h)) (hko : k ≠ out) (hx : nO f k = x) (hw : ∀ h, 0 ≤ h → h < 64 → (bit w h ↔ (bO f k ≤ h ∧ h < dO f k))) (hv : acc' = (iL acc ||| iL w).toInt) : ∀ h, 0 ≤ h → h < 64 → (bit acc' h ↔ Hrs f k' x out h) := by
  intro h h1 h2
  rw [bit_or hv, ha h h1 h2, hw h h1 h2]
  constructor
  · rintro (⟨z, a1, a2, a3, a4, a5⟩ | q)
    · exact ⟨z, a1, by omega, a3, a4, a5⟩
    · exact ⟨k, h0, by omega, hko, hx, q⟩
  · rintro ⟨z, a1, a2, a3, a4, a5⟩
    by_cases e : z = k
    · subst e; exact Or.inr a5
    · exact Or.inl ⟨z, a1, by omega, a3, a4, a5⟩
theorem Hrs_skip {f : Nat → Int} {k k' x out acc : Int} (hk : k' = k + 1) (ha : ∀ h, 0 ≤ h → h < 64 → (bit acc h ↔ Hrs f k x out h)) (hko : k = out ∨ nO f k ≠ x) : ∀ h, 0 ≤ h → h < 64 → (bit acc h ↔ Hrs f k' x out h) := by
  intro h h1 h2
  rw [ha h h1 h2]
  constructor
  · rintro ⟨z, a1, a2, a3, a4, a5⟩
    exact ⟨z, a1, by omega, a3, a4, a5⟩
  · rintro ⟨z, a1, a2, a3, a4, a5⟩
    by_cases e : z = k
    · subst e; rcases hko with q | q
      · exact absurd q a3
      · exact absurd a4 q
    · exact ⟨z, a1, by omega, a3, a4, a5⟩
theorem Hrs_0 {f : Nat → Int} {k x out acc : Int} (hk : k = 0) (ha : acc = 0) : ∀ h, 0 ≤ h → h < 64 → (bit acc h ↔ Hrs f k x out h) := by
  intro h h1 h2; subst hk; subst ha
  exact ⟨fun q => absurd q bit_0, fun ⟨z, a1, a2, _⟩ => by omega⟩
/-! pieces of the tree -/
def loopW : Nat → Int × Int → Int × Int
  | 0, p => p
  | n + 1, p => if p.1 < 64 then loopW n (2 * p.1, 2 * p.2 + 1) else p
theorem loopW_out {n : Nat} {p : Int × Int} (h : n = 0 ∨ 64 ≤ p.1) : loopW n p = p := by
  cases n with
  | zero => rfl
  | succ n =>
    rcases h with h | h
    · cases h
    · unfold loopW; rw [if_neg (by omega)]
theorem loopW_in {n m : Nat} {a c a' c' : Int} (hn : n = m + 1) (h : a < 64) (ha : a' = 2 * a) (hc : c' = 2 * c + 1) : loopW n (a, c) = loopW m (a', c') := by
  subst hn; subst ha; subst hc
  show (if a < 64 then loopW m (2 * a, 2 * c + 1) else (a, c)) = _
  rw [if_pos h]
/-- a piece's first hour, and the hour behind its last -/
def fH (p : Int) : Int := (loopW 6 (p, p)).1 - 64
def eH (p : Int) : Int := (loopW 6 (p, p)).2 - 63
abbrev inP (p b d : Int) : Prop := b ≤ fH p ∧ eH p ≤ d
theorem fH_eH {a c p : Int} (h : (a, c) = loopW 6 (p, p)) : a = fH p + 64 ∧ c = eH p + 63 := by
  unfold fH eH; rw [← h]; constructor <;> simp
theorem loopW_bd : ∀ p : Fin 128, 0 < p.val → 0 ≤ fH p.val ∧ fH p.val < eH p.val ∧ eH p.val ≤ 64 := by decide +kernel
/-- the climb from an hour's own piece -/
def cl (h : Int) (l : Nat) : Int := (64 + h) / 2 ^ l
def Top (h b d : Int) (v : Int) : Prop := ∃ l : Nat, l ≤ 6 ∧ v = cl h l ∧ (∀ j : Nat, j < l → inP (cl h (j + 1)) b d) ∧ (l = 6 ∨ ¬ inP (cl h (l + 1)) b d)
theorem Top.uniq {h b d v w : Int} (h1 : Top h b d v) (h2 : Top h b d w) : v = w := by
  obtain ⟨l, a1, a2, a3, a4⟩ := h1
  obtain ⟨m, b1, b2, b3, b4⟩ := h2
  rcases Nat.lt_trichotomy l m with q | q | q
  · rcases a4 with a4 | a4
    · omega
    · exact absurd (b3 l q) a4
  · rw [a2, b2, q]
  · rcases b4 with b4 | b4
    · omega
    · exact absurd (a3 m q) b4
theorem cl_half (h : Int) (l : Nat) : cl h l / 2 = cl h (l + 1) := by
  unfold cl; rw [Int.pow_succ, Int.ediv_ediv_of_nonneg (by have := Int.pow_pos (n := 2) (m := l) (by decide); omega)]
theorem cl_bd {h : Int} (h0 : 0 ≤ h) (h1 : h < 64) {l : Nat} (hl : l ≤ 6) : 2 ^ (6 - l) ≤ cl h l ∧ cl h l < 2 ^ (7 - l) := by
  unfold cl
  rcases (show l = 0 ∨ l = 1 ∨ l = 2 ∨ l = 3 ∨ l = 4 ∨ l = 5 ∨ l = 6 by omega) with e | e | e | e | e | e | e <;> subst e <;> simp <;> omega
/-- how many pieces a cover has, as the class counts them -/
def pcL : Nat → Int → Int → Int → Int
  | 0, _, _, c => c
  | n + 1, a, e, c => if a < e then pcL n ((if a % 2 = 1 then a + 1 else a) / 2) ((if e % 2 = 1 then e - 1 else e) / 2) (c + (if a % 2 = 1 then 1 else 0) + (if e % 2 = 1 then 1 else 0)) else c
def pcs (b d : Int) : Int := pcL 7 (64 + b) (64 + d) 0
theorem pcL_out {n : Nat} {a e c : Int} (h : n = 0 ∨ e ≤ a) : pcL n a e c = c := by
  cases n with
  | zero => rfl
  | succ n =>
    rcases h with h | h
    · cases h
    · unfold pcL; rw [if_neg (by omega)]
theorem pcL_in {n m : Nat} {a e c a' e' c' : Int} (hn : n = m + 1) (h : a < e) (ha : a' = (if a % 2 = 1 then a + 1 else a) / 2) (he : e' = (if e % 2 = 1 then e - 1 else e) / 2) (hc : c' = c + (if a % 2 = 1 then 1 else 0) + (if e % 2 = 1 then 1 else 0)) : pcL n a e c = pcL m a' e' c' := by
  subst hn; subst ha; subst he; subst hc
  show (if a < e then _ else c) = _
  rw [if_pos h]
theorem top_step {h b d p p' j j' : Int} (h0 : 0 ≤ j) (hj : j' = j + 1) (i1 : p = cl h j.toNat ∧ ∀ i : Nat, i < j.toNat → inP (cl h (i + 1)) b d) (hp : p' = p / 2) (hin : inP (p / 2) b d) : p' = cl h j'.toNat ∧ ∀ i : Nat, i < j'.toNat → inP (cl h (i + 1)) b d := by
  have e : j'.toNat = j.toNat + 1 := by omega
  have e2 : p / 2 = cl h (j.toNat + 1) := by rw [← cl_half, ← i1.1]
  rw [e]
  refine ⟨by rw [hp, e2], fun i hi => ?_⟩
  rcases Nat.lt_or_eq_of_le (Nat.lt_succ_iff.mp hi) with q | q
  · exact i1.2 i q
  · rw [q, ← e2]; exact hin
theorem top_bd {h p j : Int} (h0 : 0 ≤ h ∧ h < 64) (hj : 0 ≤ j ∧ j ≤ 6) (i1 : p = cl h j.toNat) : (j < 6 → 2 ≤ p) ∧ 1 ≤ p ∧ p ≤ 127 := by
  have q := cl_bd h0.1 h0.2 (l := j.toNat) (by omega)
  rw [← i1] at q
  rcases (show j.toNat = 0 ∨ j.toNat = 1 ∨ j.toNat = 2 ∨ j.toNat = 3 ∨ j.toNat = 4 ∨ j.toNat = 5 ∨ j.toNat = 6 by omega) with e | e | e | e | e | e | e <;> rw [e] at q <;> simp at q <;> omega
theorem top_end {h b d p j : Int} (hj : 0 ≤ j ∧ j ≤ 6) (i1 : p = cl h j.toNat ∧ ∀ i : Nat, i < j.toNat → inP (cl h (i + 1)) b d) (he : j = 6 ∨ ¬ inP (p / 2) b d) : Top h b d p := by
  refine ⟨j.toNat, by omega, i1.1, i1.2, ?_⟩
  rcases he with e | e
  · exact Or.inl (by omega)
  · right; rw [← cl_half, ← i1.1]; exact e
abbrev ofP (p b d : Int) : Prop := inP p b d ∧ (p = 1 ∨ ¬ inP (p / 2) b d)
/-! a life put in, a life taken out -/
def Ent (f : Nat → Int) (z x b d w : Int) : Prop := nO f z = x ∧ bO f z = b ∧ dO f z = d ∧ wO f z = w
def SameE (f : Nat → Int) (z : Int) (g : Nat → Int) (y : Int) : Prop := nO f z = nO g y ∧ bO f z = bO g y ∧ dO f z = dO g y ∧ wO f z = wO g y
def InsAt (f f' : Nat → Int) (n p x b d w : Int) : Prop := f' 0 = f 0 ∧ f' 1 = n + 1 ∧ (∀ z, 0 ≤ z → z < p → SameE f' z f z) ∧ Ent f' p x b d w ∧ ∀ z, p < z → z ≤ n → SameE f' z f (z - 1)
def RemAt (f f' : Nat → Int) (n k : Int) : Prop := f' 0 = f 0 ∧ f' 1 = n - 1 ∧ (∀ z, 0 ≤ z → z < k → SameE f' z f z) ∧ ∀ z, k ≤ z → z < n - 1 → SameE f' z f (z + 1)
theorem insAt_mk {f : Nat → Int} {n p x b d w : Int} (h0 : 0 ≤ p) (hp : p ≤ n) : InsAt f (updI (updI (updI (updI (updI (cpyI f f (2 + 4 * p).toNat (2 + 4 * p + 4).toNat (4 * (n - p)).toNat) 1 (n + 1)) (2 + 4 * p).toNat x) (2 + 4 * p + 1).toNat b) (2 + 4 * p + 2).toNat d) (2 + 4 * p + 3).toNat w) n p x b d w := by
  unfold InsAt SameE Ent nO bO dO wO
  have key : ∀ j : Nat, (updI (updI (updI (updI (updI (cpyI f f (2 + 4 * p).toNat (2 + 4 * p + 4).toNat (4 * (n - p)).toNat) 1 (n + 1)) (2 + 4 * p).toNat x) (2 + 4 * p + 1).toNat b) (2 + 4 * p + 2).toNat d) (2 + 4 * p + 3).toNat w) j = if j = (2 + 4 * p + 3).toNat then w else if j = (2 + 4 * p + 2).toNat then d else if j = (2 + 4 * p + 1).toNat then b else if j = (2 + 4 * p).toNat then x else if j = 1 then n + 1 else if (2 + 4 * p + 4).toNat ≤ j ∧ j < (2 + 4 * p + 4).toNat + (4 * (n - p)).toNat then f ((2 + 4 * p).toNat + (j - (2 + 4 * p + 4).toNat)) else f j := fun j => rfl
  have lo : ∀ j : Nat, j < (2 + 4 * p).toNat → j ≠ 1 → (updI (updI (updI (updI (updI (cpyI f f (2 + 4 * p).toNat (2 + 4 * p + 4).toNat (4 * (n - p)).toNat) 1 (n + 1)) (2 + 4 * p).toNat x) (2 + 4 * p + 1).toNat b) (2 + 4 * p + 2).toNat d) (2 + 4 * p + 3).toNat w) j = f j := fun j hj h1 => by
    rw [key, if_neg (by omega), if_neg (by omega), if_neg (by omega), if_neg (by omega), if_neg h1, if_neg (by omega)]
  have hg : ∀ j i : Nat, (2 + 4 * p + 4).toNat ≤ j → j < (2 + 4 * p + 4).toNat + (4 * (n - p)).toNat → i + 4 = j → (updI (updI (updI (updI (updI (cpyI f f (2 + 4 * p).toNat (2 + 4 * p + 4).toNat (4 * (n - p)).toNat) 1 (n + 1)) (2 + 4 * p).toNat x) (2 + 4 * p + 1).toNat b) (2 + 4 * p + 2).toNat d) (2 + 4 * p + 3).toNat w) j = f i := fun j i hj h1 hi => by
    rw [key, if_neg (by omega), if_neg (by omega), if_neg (by omega), if_neg (by omega), if_neg (by omega), if_pos ⟨hj, h1⟩]
    congr 1; omega
  refine ⟨lo 0 (by omega) (by decide), ?_, fun z z0 z1 => ⟨lo _ (by omega) (by omega), lo _ (by omega) (by omega), lo _ (by omega) (by omega), lo _ (by omega) (by omega)⟩, ⟨?_, ?_, ?_, ?_⟩, fun z z0 z1 => ⟨hg _ _ (by omega) (by omega) (by omega), hg _ _ (by omega) (by omega) (by omega), hg _ _ (by omega) (by omega) (by omega), hg _ _ (by omega) (by omega) (by omega)⟩⟩
  · rw [key, if_neg (by omega), if_neg (by omega), if_neg (by omega), if_neg (by omega), if_pos rfl]
  · rw [key, if_neg (by omega), if_neg (by omega), if_neg (by omega), if_pos (by omega)]
  · rw [key, if_neg (by omega), if_neg (by omega), if_pos (by omega)]
  · rw [key, if_neg (by omega), if_pos (by omega)]
  · rw [key, if_pos (by omega)]
theorem remAt_mk {f : Nat → Int} {n k : Int} (h0 : 0 ≤ k) (hk : k < n) : RemAt f (updI (cpyI f f (2 + 4 * k + 4).toNat (2 + 4 * k).toNat (4 * (n - k - 1)).toNat) 1 (n - 1)) n k := by
  unfold RemAt SameE nO bO dO wO
  have key : ∀ j : Nat, (updI (cpyI f f (2 + 4 * k + 4).toNat (2 + 4 * k).toNat (4 * (n - k - 1)).toNat) 1 (n - 1)) j = if j = 1 then n - 1 else if (2 + 4 * k).toNat ≤ j ∧ j < (2 + 4 * k).toNat + (4 * (n - k - 1)).toNat then f ((2 + 4 * k + 4).toNat + (j - (2 + 4 * k).toNat)) else f j := fun j => rfl
  have lo : ∀ j : Nat, j < (2 + 4 * k).toNat → j ≠ 1 → (updI (cpyI f f (2 + 4 * k + 4).toNat (2 + 4 * k).toNat (4 * (n - k - 1)).toNat) 1 (n - 1)) j = f j := fun j hj h1 => by
    rw [key, if_neg h1, if_neg (by omega)]
  have hg : ∀ j i : Nat, (2 + 4 * k).toNat ≤ j → j < (2 + 4 * k).toNat + (4 * (n - k - 1)).toNat → i = j + 4 → (updI (cpyI f f (2 + 4 * k + 4).toNat (2 + 4 * k).toNat (4 * (n - k - 1)).toNat) 1 (n - 1)) j = f i := fun j i hj h1 hi => by
    rw [key, if_neg (by omega), if_pos ⟨hj, h1⟩]
    congr 1; omega
  refine ⟨lo 0 (by omega) (by decide), by rw [key, if_pos rfl], fun z z0 z1 => ⟨lo _ (by omega) (by omega), lo _ (by omega) (by omega), lo _ (by omega) (by omega), lo _ (by omega) (by omega)⟩, fun z z0 z1 => ⟨hg _ _ (by omega) (by omega) (by omega), hg _ _ (by omega) (by omega) (by omega), hg _ _ (by omega) (by omega) (by omega), hg _ _ (by omega) (by omega) (by omega)⟩⟩
/-- key of the z-th before x, b -/
abbrev kb (f : Nat → Int) (z x b : Int) : Prop := nO f z < x ∨ (nO f z = x ∧ bO f z < b)
/-- the place at which a life is put in -/
def Plc (f : Nat → Int) (n x b p : Int) : Prop := 0 ≤ p ∧ p ≤ n ∧ (p = 0 ∨ kb f (p - 1) x b) ∧ ∀ z, p ≤ z → z < n → ¬ kb f z x b
theorem plc_yes {f : Nat → Int} {k k' p' x b : Int} (h0 : 0 ≤ k) (hk : k' = k + 1) (hp : p' = k + 1) (h : kb f k x b) : Plc f k' x b p' := by
  subst hk; subst hp
  exact ⟨by omega, by omega, Or.inr (by rw [show k + 1 - 1 = k by omega]; exact h), fun z z0 z1 => by omega⟩
theorem plc_no {f : Nat → Int} {k k' p x b : Int} (hk : k' = k + 1) (hp : Plc f k x b p) (h : ¬ kb f k x b) : Plc f k' x b p := by
  subst hk
  refine ⟨hp.1, by have := hp.2.1; omega, hp.2.2.1, fun z z0 z1 => ?_⟩
  rcases Int.lt_or_eq_of_le (show z ≤ k by omega) with q | q
  · exact hp.2.2.2 z z0 q
  · rw [q]; exact h
def rowsL : List Nat := [5, 6, 7, 8, 9, 10, 11, 12, 13, 14, 15, 16, 17, 18, 19, 20, 21, 22, 23, 24]
/-- the heap when the latest state is remembered -/
def RemH (hi : HI) : HI := hput (hput hi (5 + (hi 3 2).toNat) (cpyI (hi 2) (hi (5 + (hi 3 2).toNat)) 0 0 162)) 3 (updI (updI (hi 3) 2 (if hi 3 2 = 19 then 0 else hi 3 2 + 1)) 1 (if hi 3 1 + 1 < 20 then hi 3 1 + 1 else 20))
theorem sh_row : ∀ p, 5 ≤ p → p < 28 → p ≠ 25 → sh p = .inr (0, 162, 0) := by
  have h : ∀ p : Fin 28, 5 ≤ p.val → p.val ≠ 25 → sh p.val = .inr (0, 162, 0) := by decide +kernel
  exact fun p h1 h2 h3 => h ⟨p, h2⟩ h1 h3
theorem fr_row {L : List Nat} {hi h1 h2 : HI} {p : Nat} {f : Nat → Int} (h : Fr L hi h1) (e : h2 = hput h1 p f) (hL : ∀ x ∈ rowsL, x ∈ L) (hp : 5 ≤ p ∧ p < 25) : Fr L hi h2 := Fr.put h e (hL p (by unfold rowsL; simp; omega))
theorem ins_fin {hi h2 : HI} {n p x b d w : Int} (hp : Plc (hi 2) n x b p) (hn : n = hi 2 1) (e : h2 = hput hi 2 (updI (updI (updI (updI (updI (cpyI (hi 2) (hi 2) (2 + 4 * p).toNat (2 + 4 * p + 4).toNat (4 * (n - p)).toNat) 1 (n + 1)) (2 + 4 * p).toNat x) (2 + 4 * p + 1).toNat b) (2 + 4 * p + 2).toNat d) (2 + 4 * p + 3).toNat w)) : ∃ (p : Int) (f2 : Nat → Int), h2 = hput hi 2 f2 ∧ Plc (hi 2) (hi 2 1) x b p ∧ InsAt (hi 2) f2 (hi 2 1) p x b d w := by
  subst hn
  exact ⟨p, _, e, hp, insAt_mk hp.1 hp.2.1⟩
theorem rem_fin {hi h2 : HI} {n k : Int} (h0 : 0 ≤ k) (hk : k < n) (hn : n = hi 2 1) (e : h2 = hput hi 2 (updI (cpyI (hi 2) (hi 2) (2 + 4 * k + 4).toNat (2 + 4 * k).toNat (4 * (n - k - 1)).toNat) 1 (n - 1))) : ∃ f2 : Nat → Int, h2 = hput hi 2 f2 ∧ RemAt (hi 2) f2 (hi 2 1) k := by
  subst hn
  exact ⟨_, e, remAt_mk h0 hk⟩
theorem rem_fin2 {hi h h' h2 : HI} {v x y : Int} (e1 : h = hput hi (5 + v.toNat) (cpyI (hi 2) (hi (5 + v.toNat)) 0 0 162)) (hv : v = hi 3 2) (e2 : h' = hput h 3 (updI (h 3) 2 x)) (e3 : h2 = hput h' 3 (updI (h' 3) 1 y)) (hx : x = if hi 3 2 = 19 then 0 else hi 3 2 + 1) (hy : y = if hi 3 1 + 1 < 20 then hi 3 1 + 1 else 20) : h2 = RemH hi := by
  have q1 : h 3 = hi 3 := by rw [e1]; exact hput_ne _ _ (by omega)
  have q2 : h' 3 = updI (hi 3) 2 x := by rw [e2, hput_same, q1]
  rw [e3, q2, e2, hput_hput, e1, hy, hx, hv]; rfl
def lastP (hi : HI) : Int := if hi 3 2 = 0 then 19 else hi 3 2 - 1
/-- the heap when the latest edit is taken back -/
def TakH (hi : HI) : HI := hput (hput hi 2 (cpyI (hi (5 + (lastP hi).toNat)) (hi 2) 0 0 162)) 3 (updI (updI (hi 3) 2 (lastP hi)) 1 (hi 3 1 - 1))
theorem tak_fin {hi h h' h2 : HI} {v y : Int} (e1 : h = hput hi 2 (cpyI (hi (5 + v.toNat)) (hi 2) 0 0 162)) (hv : v = if hi 3 2 = 0 then 19 else hi 3 2 - 1) (e2 : h' = hput h 3 (updI (h 3) 2 v)) (e3 : h2 = hput h' 3 (updI (h' 3) 1 y)) (hy : y = hi 3 1 - 1) : h2 = TakH hi := by
  have hv2 : v = lastP hi := hv
  have q1 : h 3 = hi 3 := by rw [e1]; exact hput_ne _ _ (by decide)
  have q2 : h' 3 = updI (hi 3) 2 v := by rw [e2, hput_same, q1]
  rw [e3, q2, e2, hput_hput, e1, hy, hv2]; rfl
