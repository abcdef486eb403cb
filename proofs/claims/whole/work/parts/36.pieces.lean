/-! pieces, as the plain form counts them -/
def FhI (p q : Int) : Prop := ∃ (n : Nat) (c : Int), (loopW n (q, c)).1 - 64 = fH p ∧ 64 ≤ q * 2 ^ n
theorem fh_0 {p q : Int} (hq : q = p) (h : 1 ≤ p) : FhI p q := ⟨6, p, by rw [hq]; rfl, by rw [hq]; have : (2 : Int) ^ 6 = 64 := rfl; omega⟩
theorem fh_step {p q q' : Int} (i : FhI p q) (h : q < 64) (hq : q' = q * 2) : FhI p q' := by
  obtain ⟨n, c, e, b⟩ := i
  cases n with
  | zero => rw [Int.pow_zero] at b; omega
  | succ m =>
    refine ⟨m, 2 * c + 1, ?_, ?_⟩
    · rw [← e, hq, loopW_in (a' := q * 2) rfl h (Int.mul_comm q 2) rfl]
    · rw [hq, Int.mul_assoc, ← Int.pow_succ']; exact b
theorem fh_out {p q v : Int} (i : FhI p q) (h : 64 ≤ q) (hv : v = q - 64) : v = fH p := by
  obtain ⟨n, c, e, b⟩ := i
  rw [loopW_out (Or.inr h)] at e
  rw [← e, hv]
def hinW : Nat → Int → Int → Int
  | 0, _, n => n
  | m + 1, q, n => if 1 < q then hinW m (q / 2) (n / 2) else n
theorem hinW_all : ∀ p : Fin 128, 0 < p.val → hinW 6 p.val 64 = eH p.val - fH p.val := by decide +kernel
def HiI (p q n : Int) : Prop := ∃ m : Nat, hinW m q n = eH p - fH p ∧ q < 2 ^ (m + 1)
theorem hi_0 {p q n : Int} (hq : q = p) (hn : n = 64) (h : 1 ≤ p ∧ p ≤ 127) : HiI p q n := by
  refine ⟨6, ?_, by rw [hq]; have : (2 : Int) ^ (6 + 1) = 128 := rfl; omega⟩
  have := hinW_all ⟨p.toNat, by omega⟩ (by show 0 < p.toNat; omega)
  rw [show (((⟨p.toNat, by omega⟩ : Fin 128).val : Nat) : Int) = p by show ((p.toNat : Nat) : Int) = p; omega] at this
  rw [hq, hn]; exact this
theorem hi_step {p q n q' n' : Int} (i : HiI p q n) (h : 1 < q) (hq : q' = q / 2) (hn : n' = n / 2) : HiI p q' n' := by
  obtain ⟨m, e, b⟩ := i
  cases m with
  | zero => have : (2 : Int) ^ (0 + 1) = 2 := rfl; omega
  | succ m =>
    refine ⟨m, ?_, ?_⟩
    · rw [← e, hq, hn]; exact (if_pos h).symm
    · rw [hq]; rw [Int.pow_succ] at b; omega
theorem hi_out {p q n : Int} (i : HiI p q n) (h : q ≤ 1) : n = eH p - fH p := by
  obtain ⟨m, e, b⟩ := i
  rw [← e]
  cases m with
  | zero => rfl
  | succ m => exact (if_neg (by omega)).symm
theorem fH_bd {p : Int} (h : 1 ≤ p ∧ p ≤ 127) : 0 ≤ fH p ∧ fH p < eH p ∧ eH p ≤ 64 := by
  have := loopW_bd ⟨p.toNat, by omega⟩ (by show 0 < p.toNat; omega)
  rw [show (((⟨p.toNat, by omega⟩ : Fin 128).val : Nat) : Int) = p by show ((p.toNat : Nat) : Int) = p; omega] at this
  exact this
theorem fH_leaf {h : Int} (h0 : 0 ≤ h) (h1 : h < 64) : fH (64 + h) = h ∧ eH (64 + h) = h + 1 := by
  unfold fH eH
  rw [loopW_out (Or.inr (show 64 ≤ ((64 + h, 64 + h) : Int × Int).1 by simp only; omega))]
  constructor <;> simp only <;> omega
/-- the climb, all whose pieces are within -/
def ClI (h b d p : Int) : Prop := ∃ j : Nat, j ≤ 6 ∧ p = cl h j ∧ ∀ i : Nat, i ≤ j → inP (cl h i) b d
theorem cli_0 {h b d p : Int} (hp : p = 64 + h) (h0 : 0 ≤ h ∧ h < 64) (ha : b ≤ h ∧ h < d) : ClI h b d p := by
  have e : cl h 0 = 64 + h := by unfold cl; simp
  refine ⟨0, by omega, by rw [hp, e], fun i hi => ?_⟩
  have : i = 0 := by omega
  subst this
  have q := fH_leaf h0.1 h0.2
  show b ≤ fH (cl h 0) ∧ eH (cl h 0) ≤ d
  rw [e, q.1, q.2]; omega
theorem cli_bd {h b d p : Int} (h0 : 0 ≤ h ∧ h < 64) (i : ClI h b d p) : 1 ≤ p ∧ p ≤ 127 := by
  obtain ⟨j, j6, e, q⟩ := i
  have := cl_bd h0.1 h0.2 j6
  rw [← e] at this
  rcases (show j = 0 ∨ j = 1 ∨ j = 2 ∨ j = 3 ∨ j = 4 ∨ j = 5 ∨ j = 6 by omega) with e | e | e | e | e | e | e <;> rw [e] at this <;> simp at this <;> omega
theorem cli_step {h b d p p' : Int} (h0 : 0 ≤ h ∧ h < 64) (i : ClI h b d p) (hn : ¬ ofP p b d) (hp : p' = p / 2) : ClI h b d p' ∧ p' < p := by
  have pb := cli_bd h0 i
  obtain ⟨j, j6, e, q⟩ := i
  have q1 := q j (Nat.le_refl _)
  rw [← e] at q1
  have h1 : p ≠ 1 ∧ inP (p / 2) b d := by
    refine ⟨fun c => hn ⟨q1, Or.inl c⟩, Classical.byContradiction fun c => hn ⟨q1, Or.inr c⟩⟩
  have hj : j ≠ 6 := fun c => by
    have := cl_bd h0.1 h0.2 j6
    rw [← e, c] at this; simp at this; omega
  refine ⟨⟨j + 1, by omega, by rw [hp, e, cl_half], fun i hi => ?_⟩, by omega⟩
  rcases Nat.lt_or_eq_of_le hi with c | c
  · exact q i (by omega)
  · rw [c, ← cl_half, ← e]; exact h1.2
theorem cli_out {h b d p : Int} (h0 : 0 ≤ h ∧ h < 64) (i : ClI h b d p) (hn : ofP p b d) : Top h b d p := by
  obtain ⟨j, j6, e, q⟩ := i
  refine ⟨j, j6, e, fun i hi => q (i + 1) (by omega), ?_⟩
  rcases hn.2 with c | c
  · left
    have := cl_bd h0.1 h0.2 j6
    rw [← e, c] at this
    rcases (show j = 0 ∨ j = 1 ∨ j = 2 ∨ j = 3 ∨ j = 4 ∨ j = 5 ∨ j = 6 by omega) with e | e | e | e | e | e | e <;> rw [e] at this <;> simp at this <;> omega
  · right; rw [← cl_half, ← e]; exact c
/-! the count of a cover's pieces: all of 127 looked at -/
def fN (p : Nat) : Nat := p * 2 ^ (6 - Nat.log2 p) - 64
def eN2 (p : Nat) : Nat := (p + 1) * 2 ^ (6 - Nat.log2 p) - 64
def inN (p b d : Nat) : Bool := Nat.ble b (fN p) && Nat.ble (eN2 p) d
def ofN (p b d : Nat) : Bool := inN p b d && (Nat.beq p 1 || !inN (p / 2) b d)
def cN (b d : Nat) : Nat → Nat
  | 0 => 0
  | n + 1 => cond (ofN (n + 1) b d) (Nat.succ (cN b d n)) (cN b d n)
theorem fN_all : ∀ p : Fin 128, 0 < p.val → fH p.val = fN p.val ∧ eH p.val = eN2 p.val := by decide +kernel
theorem inN_iff {p b d : Nat} (h0 : 0 < p) (h1 : p < 128) : inN p b d = true ↔ inP p b d := by
  have := fN_all ⟨p, h1⟩ h0
  show _ ↔ ((b : Int) ≤ fH p ∧ eH p ≤ d)
  rw [show fH (p : Int) = fN p from this.1, show eH (p : Int) = eN2 p from this.2]
  unfold inN
  rw [Bool.and_eq_true, Nat.ble_eq, Nat.ble_eq]; omega
theorem ofN_iff {p b d : Nat} (h0 : 0 < p) (h1 : p < 128) : ofN p b d = true ↔ ofP p b d := by
  unfold ofN
  rw [Bool.and_eq_true, Bool.or_eq_true, inN_iff h0 h1, Bool.not_eq_true', Nat.beq_eq]
  by_cases c : p = 1
  · subst c; simp
  · have := inN_iff (p := p / 2) (b := b) (d := d) (by omega) (by omega)
    rw [show (((p / 2 : Nat)) : Int) = (p : Int) / 2 by omega] at this
    show _ ↔ (inP p b d ∧ ((p : Int) = 1 ∨ ¬ inP ((p : Int) / 2) b d))
    rw [← this, Bool.not_eq_true]
    constructor
    · rintro ⟨a, e | e⟩
      · exact absurd e c
      · exact ⟨a, Or.inr e⟩
    · rintro ⟨a, e | e⟩
      · exact absurd e (by omega)
      · exact ⟨a, Or.inr e⟩
theorem cN_sm (b d : Nat) : ∀ n : Nat, n < 128 → sm (fun z => if ofP (z + 1) b d then 1 else 0) n = cN b d n
  | 0, _ => rfl
  | n + 1, h => by
    have ih := cN_sm b d n (by omega)
    show sm _ n + (if ofP ((n : Int) + 1) b d then 1 else 0) = ((cond (ofN (n + 1) b d) (Nat.succ (cN b d n)) (cN b d n) : Nat) : Int)
    have q := ofN_iff (p := n + 1) (b := b) (d := d) (by omega) h
    rw [show ((n + 1 : Nat) : Int) = (n : Int) + 1 by omega] at q
    rw [ih]
    cases e : ofN (n + 1) b d
    · rw [if_neg (fun c => by rw [q.mpr c] at e; cases e)]; simp
    · rw [if_pos (q.mp e)]; simp
def pcN : Nat → Nat → Nat → Nat → Nat
  | 0, _, _, c => c
  | n + 1, a, e, c => cond (Nat.ble e a) c (pcN n ((a + a % 2) / 2) (e / 2) (c + a % 2 + e % 2))
theorem pcN_eq : ∀ (n : Nat) (a e c : Nat), pcL n a e c = pcN n a e c
  | 0, _, _, _ => rfl
  | n + 1, a, e, c => by
    show _ = ((cond (Nat.ble e a) c (pcN n ((a + a % 2) / 2) (e / 2) (c + a % 2 + e % 2)) : Nat) : Int)
    by_cases h : e ≤ a
    · rw [pcL_out (Or.inr (by omega)), show Nat.ble e a = true from Nat.ble_eq.mpr h]; rfl
    · rw [show Nat.ble e a = false from Bool.eq_false_iff.mpr (fun q => h (Nat.ble_eq.mp q))]
      show _ = ((pcN n ((a + a % 2) / 2) (e / 2) (c + a % 2 + e % 2) : Nat) : Int)
      rw [← pcN_eq n]
      exact pcL_in rfl (by omega) (by split <;> omega) (by split <;> omega) (by split <;> split <;> omega)
def chkD (b : Nat) : Nat → Bool
  | 0 => true
  | d + 1 => (Nat.ble (d + 1) b || Nat.beq (cN b (d + 1) 127) (pcN 7 (64 + b) (64 + (d + 1)) 0)) && chkD b d
def chkB : Nat → Bool
  | 0 => true
  | b + 1 => chkD b 64 && chkB b
theorem chk_all : chkB 64 = true := by decide +kernel
