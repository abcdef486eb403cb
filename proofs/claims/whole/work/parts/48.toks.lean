/-! the plain form's token is the class's token -/
def wWs : List Int := [0, 0, 0, 0, 0, 0, 0, 0, 0, 0, 0, 0, 81486, 215533, 655, 140467, 719404622, 19518511283, 646224531, 89, 52, 408683, 702607, 12900531, 8902227, 19118, 24385093, 498, 1476, 14836, 492210354, 2411144, 4359816, 409031, 24627848, 546475187, 278194, 3659220, 20141, 12748404, 441972]
def wW (k : Nat) : Int := wWs.getD k 0
def wS (k : Nat) : Int := (sgB.getD k []).getD 0 0
theorem pk_wc : ∀ k : Fin 41, 12 ≤ k.val → pk (fun i => (sgB.getD k.val []).getD i 0) 0 (sgB.getD k.val []).length = wW k.val := by decide +kernel
theorem wl_wd : ∀ k : Fin 41, 12 ≤ k.val → 2 ≤ (sgB.getD k.val []).length ∧ (sgB.getD k.val []).length ≤ 7 ∧ ∀ i : Fin 7, i.val < (sgB.getD k.val []).length → 97 ≤ (sgB.getD k.val []).getD i.val 0 ∧ (sgB.getD k.val []).getD i.val 0 ≤ 122 := by decide +kernel
theorem wl_sg : ∀ k : Fin 41, 4 ≤ k.val → k.val < 12 → (sgB.getD k.val []).length = 1 ∧ ¬ isLe (wS k.val) ∧ ¬ isDi (wS k.val) ∧ isSg (wS k.val) := by decide +kernel
theorem wl_no : ∀ k : Fin 4, (sgB.getD k.val []).length = 0 := by decide +kernel
theorem wS_all : ∀ c : Int, isSg c → ∃ k : Nat, 4 ≤ k ∧ k < 12 ∧ wS k = c := fun c h => by
  rcases h with h | h | h | h | h | h | h | h <;> subst h
  · exact ⟨4, by decide, by decide, by decide⟩
  · exact ⟨5, by decide, by decide, by decide⟩
  · exact ⟨6, by decide, by decide, by decide⟩
  · exact ⟨7, by decide, by decide, by decide⟩
  · exact ⟨8, by decide, by decide, by decide⟩
  · exact ⟨9, by decide, by decide, by decide⟩
  · exact ⟨10, by decide, by decide, by decide⟩
  · exact ⟨11, by decide, by decide, by decide⟩
theorem sgB_inj : ∀ i j : Fin 41, 4 ≤ i.val → sgB.getD i.val [] = sgB.getD j.val [] → i = j := by decide +kernel
theorem pk_inj {f g : Nat → Int} {p q : Int} : ∀ {n m : Nat}, (∀ i : Int, 0 ≤ i → i < n → isLe (f (p + i).toNat)) → (∀ i : Int, 0 ≤ i → i < m → isLe (g (q + i).toNat)) → pk f p n = pk g q m → n = m ∧ ∀ i : Int, 0 ≤ i → i < n → f (p + i).toNat = g (q + i).toNat
  | 0, 0, _, _, _ => ⟨rfl, fun i i0 i1 => by omega⟩
  | 0, m + 1, hf, hg, h => by
    exfalso
    have b := (pk_bd m (fun i i0 i1 => hg i i0 (by omega))).1
    have d := hg m (by omega) (by omega)
    have h' : (0 : Int) = 32 * pk g q m + g (q + m).toNat - 96 := h
    omega
  | n + 1, 0, hf, hg, h => by
    exfalso
    have b := (pk_bd n (fun i i0 i1 => hf i i0 (by omega))).1
    have d := hf n (by omega) (by omega)
    have h' : 32 * pk f p n + f (p + n).toNat - 96 = (0 : Int) := h
    omega
  | n + 1, m + 1, hf, hg, h => by
    have d := hf n (by omega) (by omega)
    have d2 := hg m (by omega) (by omega)
    have h' : 32 * pk f p n + f (p + n).toNat - 96 = 32 * pk g q m + g (q + m).toNat - 96 := h
    have e1 : pk f p n = pk g q m := by omega
    have e2 : f (p + n).toNat = g (q + m).toNat := by omega
    obtain ⟨a, b⟩ := pk_inj (fun i i0 i1 => hf i i0 (by omega)) (fun i i0 i1 => hg i i0 (by omega)) e1
    subst a
    refine ⟨rfl, fun i i0 i1 => ?_⟩
    rcases Int.lt_or_eq_of_le (show i ≤ n by omega) with c | c
    · exact b i i0 c
    · rw [c]; exact e2
theorem gdE {l : List Int} {n : Nat} (h : n < l.length) : l.getD n 0 = l[n] := by rw [List.getD_eq_getElem?_getD, List.getElem?_eq_getElem h]; rfl
theorem spl_uq {f : Nat → Int} {i j : Nat} {a b : Int} (hi : i < 41) (hj : j < 41) (h4 : 4 ≤ i) (h1 : Spl f i a b) (h2 : Spl f j a b) : i = j := by
  have e : sgB.getD i [] = sgB.getD j [] := by
    have hl : (sgB.getD i []).length = (sgB.getD j []).length := by
      have q1 := h1.1; have q2 := h2.1
      unfold wl at q1 q2; omega
    apply List.ext_getElem hl
    intro n n1 n2
    have q1 := h1.2 n (by omega) (by unfold wl; omega)
    have q2 := h2.2 n (by omega) (by unfold wl; omega)
    unfold wc at q1 q2
    rw [Int.toNat_natCast] at q1 q2
    have q := q1.trans q2.symm
    rwa [gdE n1, gdE n2] at q
  exact congrArg Fin.val (sgB_inj ⟨i, hi⟩ ⟨j, hj⟩ h4 e)
/-- what a token is in the plain form: its sort, value, word; s its sign, v its value -/
def TKM (s v t x w : Int) : Prop := (t = 0 ↔ s = 0) ∧ (t = 2 ↔ s = 2) ∧ (t = 2 → x = v) ∧ (∀ k : Nat, 12 ≤ k → k < 41 → ((t = 1 ∧ w = wW k) ↔ s = k)) ∧ ∀ k : Nat, 4 ≤ k → k < 12 → ((t = 3 ∧ x = wS k) ↔ s = k)
/-- which word a run of letters is -/
theorem spl_word {f : Nat → Int} {p e : Int} {k : Nat} (hk : 12 ≤ k) (hk2 : k < 41) (hpe : p < e) (h7 : e - p ≤ 7) (hl : ∀ q, p ≤ q → q < e → isLe (f q.toNat)) : pk f p (e - p).toNat = wW k ↔ Spl f k p e := by
  obtain ⟨a1, a2, a3⟩ := wl_wd ⟨k, hk2⟩ hk
  have a1 : 2 ≤ (sgB.getD k []).length := a1
  have a2 : (sgB.getD k []).length ≤ 7 := a2
  have b : pk (fun i => (sgB.getD k []).getD i 0) 0 (sgB.getD k []).length = wW k := pk_wc ⟨k, hk2⟩ hk
  have lf : ∀ i : Int, 0 ≤ i → i < (e - p).toNat → isLe (f (p + i).toNat) := fun i i0 i1 => hl (p + i) (by omega) (by omega)
  have lg : ∀ i : Int, 0 ≤ i → i < (sgB.getD k []).length → isLe ((fun i => (sgB.getD k []).getD i 0) (0 + i).toNat) := fun i i0 i1 => by
    have := a3 ⟨i.toNat, by omega⟩ (by show i.toNat < (sgB.getD k []).length; omega)
    rw [Int.zero_add]; exact this
  rw [← b]
  constructor
  · intro h
    obtain ⟨c1, c2⟩ := pk_inj lf lg h
    refine ⟨by unfold wl; omega, fun i i0 i1 => ?_⟩
    unfold wl at i1
    have := c2 i i0 (by omega)
    rw [Int.zero_add] at this
    exact this.symm
  · intro h
    have c1 : (e - p).toNat = (sgB.getD k []).length := by have := h.1; unfold wl at this; omega
    have c2 : ∀ i : Int, 0 ≤ i → i < (sgB.getD k []).length → f (p + i).toNat = (sgB.getD k []).getD i.toNat 0 := fun i i0 i1 => (h.2 i i0 (by unfold wl; omega)).symm
    rw [c1]
    have key : ∀ n : Nat, n ≤ (sgB.getD k []).length → pk f p n = pk (fun i => (sgB.getD k []).getD i 0) 0 n := by
      intro n
      induction n with
      | zero => intro _; rfl
      | succ n ih =>
        intro hn
        show 32 * pk f p n + f (p + n).toNat - 96 = 32 * pk (fun i => (sgB.getD k []).getD i 0) 0 n + (sgB.getD k []).getD (0 + (n : Int)).toNat 0 - 96
        rw [ih (by omega), c2 n (by omega) (by omega), Int.zero_add]
    exact key _ (Nat.le_refl _)
theorem tkm_w {f : Nat → Int} {n p e g v t x w : Int} (hr : RunE f n p e) (hg : SgP f p e g) (hl : isLe (f p.toNat)) (ht : t = (if 7 < e - p then 4 else 1)) (hw : w = pk f p (mn (e - p) 7).toNat) : TKM g v t x w := by
  have hpe := hr.1.1
  have hrun : ∀ q, p ≤ q → q < e → isLe (f q.toNat) := fun q q0 q1 => by
    rcases hr.2 with ⟨c1, c2, c3⟩ | ⟨c1, c2, c3⟩
    · exact absurd hl c1
    · exact (c2 q q0 q1).1.mpr hl
  have hnd : ¬ isDi (f p.toNat) := by omega
  obtain ⟨g0, g1⟩ := hg
  have g2 := (g1.resolve_left (fun q => hnd q.1)).2
  have nosg : ∀ k : Nat, 4 ≤ k → k < 12 → ¬ Spl f k p e := fun k k4 k12 q => by
    obtain ⟨b1, b2, b3, b4⟩ := wl_sg ⟨k, by omega⟩ k4 k12
    have q1 := q.2 0 (by omega) (by unfold wl; have b1 : (sgB.getD k []).length = 1 := b1; omega)
    rw [show p + 0 = p by omega] at q1
    exact b2 (by show isLe (wS k); rw [show wS k = f p.toNat from q1]; exact hl)
  rcases g2 with ⟨h7, hg1⟩ | ⟨h7, kk, hf, hk⟩
  · rw [if_pos h7] at ht
    subst hg1; subst ht
    refine ⟨by omega, by omega, fun q => by omega, fun k k0 k1 => ?_, fun k k0 k1 => ?_⟩ <;> constructor <;> intro q <;> omega
  · rw [if_neg (by omega)] at ht
    subst ht
    have hm : mn (e - p) 7 = e - p := by unfold mn; split <;> omega
    rw [hm] at hw
    have hs3 : ∀ k : Nat, k < 4 → ¬ Spl f k p e := fun k k4 q => by
      have b := wl_no ⟨k, k4⟩
      have b : (sgB.getD k []).length = 0 := b
      have q1 := q.1; unfold wl at q1; omega
    have kv : (g = 3 ∧ ∀ k : Nat, k < 41 → ¬ Spl f k p e) ∨ (∃ k : Nat, k < 41 ∧ 12 ≤ k ∧ g = k ∧ Spl f k p e) := by
      rcases hk with ⟨k0, hgk⟩ | ⟨k0, hgk⟩
      · right
        have hp := hf.pos k0
        refine ⟨kk.toNat, by omega, ?_, by omega, hp.2⟩
        apply Classical.byContradiction
        intro h12
        by_cases h4 : kk.toNat < 4
        · exact hs3 _ h4 hp.2
        · exact nosg _ (by omega) (by omega) hp.2
      · left
        have hp := hf.neg k0
        refine ⟨by omega, fun k k1 q => hp.2 k (by omega) (by omega) (by rw [Int.toNat_natCast]; exact q)⟩
    rcases kv with ⟨q1, q2⟩ | ⟨k, k41, k12, q1, q2⟩
    · subst q1
      refine ⟨by omega, by omega, fun q => by omega, fun k k0 k1 => ?_, fun k k0 k1 => ⟨fun q => by omega, fun q => by omega⟩⟩
      constructor
      · rintro ⟨-, q⟩
        exact absurd ((spl_word k0 k1 hpe h7 hrun).mp (hw.symm.trans q)) (q2 k k1)
      · intro q; omega
    · subst q1
      refine ⟨by omega, by omega, fun q => by omega, fun j j0 j1 => ?_, fun j k0 k1 => ⟨fun q => by omega, fun q => by omega⟩⟩
      constructor
      · rintro ⟨-, q⟩
        have := spl_uq k41 j1 (by omega) q2 ((spl_word j0 j1 hpe h7 hrun).mp (hw.symm.trans q))
        omega
      · intro q
        have e : k = j := by omega
        subst e
        exact ⟨rfl, hw.trans ((spl_word j0 j1 hpe h7 hrun).mpr q2)⟩
theorem tkm_d {f : Nat → Int} {n p e g v t x w : Int} (hr : RunE f n p e) (hg : SgP f p e g) (hv : g = 2 → v = wh f p (e - p).toNat) (hl : isDi (f p.toNat)) (ht : t = (if 3 < e - p then 4 else 2)) (hw : x = wh f p (mn (e - p) 3).toNat) : TKM g v t x w := by
  obtain ⟨g0, g1⟩ := hg
  have g2 := (g1.resolve_right (fun q => q.1 hl)).2
  rcases g2 with ⟨h3, hg1⟩ | ⟨h3, hg1⟩
  · rw [if_pos h3] at ht
    subst ht; subst hg1
    refine ⟨by omega, by omega, fun q => by omega, fun k k0 k1 => ?_, fun k k0 k1 => ?_⟩ <;> constructor <;> intro q <;> omega
  · rw [if_neg (by omega)] at ht
    have hm : mn (e - p) 3 = e - p := by unfold mn; split <;> omega
    rw [hm] at hw
    have := hv hg1
    subst ht; subst hg1
    refine ⟨by omega, by omega, fun q => by omega, fun k k0 k1 => ?_, fun k k0 k1 => ?_⟩ <;> constructor <;> intro q <;> omega
theorem tkm_s {f : Nat → Int} {n p e g v t x w : Int} (hr : RunE f n p e) (hg : SgP f p e g) (hl : ¬ isLe (f p.toNat)) (hd : ¬ isDi (f p.toNat)) (hx : x = f p.toNat) (ht : (t = 3 ∧ isSg (f p.toNat)) ∨ (t = 4 ∧ ¬ isSg (f p.toNat))) : TKM g v t x w := by
  have he : e = p + 1 := by
    rcases hr.2 with ⟨c1, c2, c3⟩ | ⟨c1, c2, c3⟩
    · exact c3
    · omega
  obtain ⟨g0, g1⟩ := hg
  have g2 := (g1.resolve_left (fun q => hd q.1)).2
  obtain ⟨h7, kk, hf, hk⟩ := g2.resolve_left (fun q => by clear g1 g2; omega)
  clear g1 g2
  have nolt : ∀ k : Nat, k < 41 → Spl f k p e → 4 ≤ k ∧ k < 12 ∧ wS k = f p.toNat := fun k k1 q => by
    have q1 := q.1
    have l1 : (sgB.getD k []).length = 1 := by unfold wl at q1; omega
    have k4 : 4 ≤ k := by
      apply Classical.byContradiction; intro z
      have b : (sgB.getD k []).length = 0 := wl_no ⟨k, by omega⟩
      omega
    have k12 : k < 12 := by
      apply Classical.byContradiction; intro z
      have b : 2 ≤ (sgB.getD k []).length := (wl_wd ⟨k, k1⟩ (by show 12 ≤ k; omega)).1
      omega
    have q2 := q.2 0 (by omega) (by unfold wl; omega)
    rw [show p + 0 = p by omega] at q2
    exact ⟨k4, k12, q2⟩
  have spl : ∀ k : Nat, 4 ≤ k → k < 12 → wS k = f p.toNat → Spl f k p e := fun k k4 k12 q => by
    have b1 : (sgB.getD k []).length = 1 := (wl_sg ⟨k, by omega⟩ k4 k12).1
    refine ⟨by unfold wl; omega, fun i i0 i1 => ?_⟩
    unfold wl at i1
    rw [show i = 0 by omega, show p + 0 = p by omega]; exact q
  have kv : (g = 1 ∧ ∀ k : Nat, k < 41 → ¬ Spl f k p e) ∨ (∃ k : Nat, k < 41 ∧ g = k ∧ Spl f k p e) := by
    rcases hk with ⟨k0, hgk⟩ | ⟨k0, hgk⟩
    · right
      have hp := hf.pos k0
      exact ⟨kk.toNat, by omega, by omega, hp.2⟩
    · left
      have hp := hf.neg k0
      refine ⟨by omega, fun k k1 q => hp.2 k (by omega) (by omega) (by rw [Int.toNat_natCast]; exact q)⟩
  rcases kv with ⟨q1, q2⟩ | ⟨k, k41, q1, q2⟩
  · subst q1
    refine ⟨by omega, by omega, fun q => by omega, fun k k0 k1 => ⟨fun q => by omega, fun q => by omega⟩, fun k k0 k1 => ?_⟩
    constructor
    · rintro ⟨-, q⟩
      exact absurd (spl k k0 k1 (by omega)) (q2 k (by omega))
    · intro q; omega
  · obtain ⟨k4, k12, k3⟩ := nolt k k41 q2
    have hs : isSg (f p.toNat) := by rw [← k3]; exact (wl_sg ⟨k, k41⟩ k4 k12).2.2.2
    subst q1
    have ht3 : t = 3 := by rcases ht with q | q; exact q.1; exact absurd hs q.2
    subst ht3
    refine ⟨by omega, by omega, fun q => by omega, fun j j0 j1 => ⟨fun q => by omega, fun q => by omega⟩, fun j j0 j1 => ?_⟩
    constructor
    · rintro ⟨-, q⟩
      have := spl_uq k41 (show j < 41 by omega) k4 q2 (spl j j0 j1 (by omega))
      omega
    · intro q
      have e : k = j := by omega
      subst e
      exact ⟨rfl, by omega⟩
/-- the tokens that n bytes of f are: m of them, then the end -/
def TC (f : Nat → Int) (n : Int) (S P V st : Nat → Int) (m : Nat) : Prop := ((m : Int) ≤ n ∧ 0 ≤ n ∧ n ≤ 600) ∧ TkS f n S P V st m ∧ (S m = 0 ∧ P m = n ∧ V m = 0) ∧ (((∀ i, i < m → S i ≠ 1) ∧ st m ≤ n ∧ ∀ q, st m ≤ q → q < n → isBl (f q.toNat)) ∨ ∃ j, m = j + 1 ∧ (∀ i, i < j → S i ≠ 1) ∧ S j = 1)
theorem TC.of {f : Nat → Int} {n mm : Int} {S P V : Nat → Int} (h : CutP f S P V n mm) (hn : 0 ≤ n ∧ n ≤ 600) : ∃ (st : Nat → Int) (m : Nat), mm = m + 1 ∧ TC f n S P V st m := by
  obtain ⟨st, m, a, b, c, d, e⟩ := h
  exact ⟨st, m, a, ⟨b, hn⟩, c, d, e⟩
/-- the token at hand is the c-th -/
def TX (f : Nat → Int) (n fr nx t x : Int) (w : Int) (S P V st : Nat → Int) (m c : Nat) : Prop := TC f n S P V st m ∧ c ≤ m ∧ fr = P c ∧ (0 ≤ nx ∧ nx ≤ n) ∧ (S c ≠ 0 → S c ≠ 1 → nx = st (c + 1)) ∧ TKM (S c) (V c) t x w
def TM (hi : HI) (S P V st : Nat → Int) (m c : Nat) : Prop := TX (fM hi) (hi 39 9) (hi 39 10) (hi 39 11) (hi 39 12) (hi 39 13) (hi 39 14) S P V st m c
theorem runE_uq {f : Nat → Int} {n a e e2 : Int} (h1 : RunE f n a e) (h2 : RunE f n a e2) : e = e2 := by
  obtain ⟨a1, a2⟩ := h1
  obtain ⟨b1, b2⟩ := h2
  rcases a2 with ⟨c1, c2, c3⟩ | ⟨c1, c2, c3⟩ <;> rcases b2 with ⟨d1, d2, d3⟩ | ⟨d1, d2, d3⟩
  · omega
  · exact absurd d1 (by rintro (z | z); exact c1 z; exact c2 z)
  · exact absurd c1 (by rintro (z | z); exact d1 z; exact d2 z)
  · rcases Int.lt_trichotomy e e2 with q | q | q
    · rcases c3 with c3 | c3
      · omega
      · exact absurd (d2 e (by omega) q) c3
    · exact q
    · rcases d3 with d3 | d3
      · omega
      · exact absurd (c2 e2 (by omega) q) d3
theorem blk_uq {f : Nat → Int} {a p q : Int} (hp : a ≤ p) (hq : a ≤ q) (h1 : ∀ z, a ≤ z → z < p → isBl (f z.toNat)) (h2 : ∀ z, a ≤ z → z < q → isBl (f z.toNat)) (h3 : ¬ isBl (f p.toNat)) (h4 : ¬ isBl (f q.toNat)) : p = q := by
  rcases Int.lt_trichotomy p q with z | z | z
  · exact absurd (h2 p hp z) h3
  · exact z
  · exact absurd (h1 q hq z) h4
/-- from where token c begins to be looked for -/
theorem TC.st_bd {f : Nat → Int} {n : Int} {S P V st : Nat → Int} {m c : Nat} (h : TC f n S P V st m) (hc : c ≤ m) : 0 ≤ st c ∧ st c ≤ n := by
  obtain ⟨h0, h1, h2, h3⟩ := h
  induction c with
  | zero => rw [h1.1]; omega
  | succ c ih =>
    have q := h1.2 c (by omega)
    have := ih (by omega)
    have q1 := q.1; have q2 := q.2.2.1.1
    omega
/-- the c-th token is what go finds from st c on -/
theorem TX.go {f : Nat → Int} {n fr nx t x w a : Int} {S P V st : Nat → Int} {m c : Nat} (h : TC f n S P V st m) (hc : c ≤ m) (hb : ∀ i, i < c → S i ≠ 1) (ha : a = st c) (g : (a ≤ fr ∧ fr ≤ n ∧ ∀ q, a ≤ q → q < fr → isBl (f q.toNat)) ∧ GoT f n fr nx t x w) : TX f n fr nx t x w S P V st m c := by
  subst ha
  obtain ⟨⟨g0, g1, g2⟩, g3⟩ := g
  have sb := h.st_bd hc
  by_cases e : c = m
  · subst e
    obtain ⟨h0, h1, h2, h3⟩ := id h
    have h4 := h3.resolve_right (fun ⟨j, q1, q2, q3⟩ => hb j (by omega) q3)
    rcases g3 with ⟨q1, q2, q3⟩ | ⟨q1, q2, q3⟩
    · refine ⟨h, Nat.le_refl _, by rw [h2.2.1, q1], by omega, fun z => absurd h2.1 z, ?_⟩
      rw [h2.1, q3]
      refine ⟨by omega, by omega, fun q => by omega, fun k k0 k1 => ⟨fun q => by omega, fun q => by omega⟩, fun k k0 k1 => ⟨fun q => by omega, fun q => by omega⟩⟩
    · exact absurd (h4.2.2 fr (by omega) q1) q2
  · obtain ⟨h0, h1, h2, h3⟩ := id h
    have tk := h1.2 c (by omega)
    obtain ⟨⟨t0, t1, t2⟩, t3, t4, t5, t6, t7⟩ := tk
    rcases g3 with ⟨q1, q2, q3⟩ | ⟨q1, q2, q3, q4⟩
    · exact absurd (g2 (P c) t0 (by omega)) t3
    · have ep : fr = P c := blk_uq g0 t0 g2 t2 q2 t3
      subst ep
      have ee : nx = st (c + 1) := runE_uq q3 t4
      subst ee
      refine ⟨h, hc, rfl, by have := q3.1; omega, fun _ _ => rfl, ?_⟩
      rcases q4 with ⟨r1, r2, r3⟩ | ⟨r1, r2, r3⟩ | ⟨r1, r2, r3, r4⟩
      · exact tkm_w q3 t5 r1 r2 r3
      · exact tkm_d q3 t5 t6 r1 r2 r3
      · exact tkm_s q3 t5 r1 r2 r3 r4
theorem TM.go0 {hi h2 : HI} {S P V st : Nat → Int} {m : Nat} (h : TC (fM hi) (hi 39 9) S P V st m) (h0 : hi 39 11 = 0) (g : GoP hi h2) (f1 : Fr [39] hi h2) (f2 : FF 39 [10, 11, 12, 13, 14] hi h2) : TM h2 S P V st m 0 := by
  have e45 : fM h2 = fM hi := by funext j; unfold fM; rw [f1 45 (by decide)]
  have e9 : h2 39 9 = hi 39 9 := f2 9 (by decide)
  unfold TM
  rw [e45, e9]
  exact TX.go h (Nat.zero_le _) (fun i hi0 => absurd hi0 (Nat.not_lt_zero _)) (h0.trans h.2.1.1.symm) g
theorem TM.go {hi h2 : HI} {S P V st : Nat → Int} {m c : Nat} (h : TM hi S P V st m c) (h0 : S c ≠ 0) (h1 : S c ≠ 1) (g : GoP hi h2) (f1 : Fr [39] hi h2) (f2 : FF 39 [10, 11, 12, 13, 14] hi h2) : TM h2 S P V st m (c + 1) := by
  have e45 : fM h2 = fM hi := by funext j; unfold fM; rw [f1 45 (by decide)]
  have e9 : h2 39 9 = hi 39 9 := f2 9 (by decide)
  unfold TM
  rw [e45, e9]
  obtain ⟨a1, a2, a3, a4, a5, a6⟩ := h
  have cm : c < m := by
    rcases Nat.lt_or_eq_of_le a2 with q | q
    · exact q
    · exact absurd (by rw [q]; exact a1.2.2.1.1) h0
  refine TX.go a1 (by omega) (fun i hi0 => ?_) (a5 h0 h1) g
  by_cases e : i = c
  · rw [e]; exact h1
  · rcases a1.2.2.2 with ⟨q1, q2, q3⟩ | ⟨j, q1, q2, q3⟩
    · exact q1 i (by omega)
    · exact q2 i (by omega)
/-- fields of the token stay, so the token does -/
theorem TM.kp {hi h2 : HI} {S P V st : Nat → Int} {m c : Nat} (h : TM hi S P V st m c) (e : h2 45 = hi 45) (e9 : h2 39 9 = hi 39 9) (e10 : h2 39 10 = hi 39 10) (e11 : h2 39 11 = hi 39 11) (e12 : h2 39 12 = hi 39 12) (e13 : h2 39 13 = hi 39 13) (e14 : h2 39 14 = hi 39 14) : TM h2 S P V st m c := by
  have e45 : fM h2 = fM hi := by funext j; unfold fM; rw [e]
  unfold TM
  rw [e45, e9, e10, e11, e12, e13, e14]; exact h
theorem TM.put {hi h2 : HI} {S P V st : Nat → Int} {m c j : Nat} {x : Int} (h : TM hi S P V st m c) (e : h2 = hput hi 39 (updI (hi 39) j x)) (hj : j < 9 ∨ 15 ≤ j) : TM h2 S P V st m c := by
  have q : ∀ i, 9 ≤ i → i < 15 → h2 39 i = hi 39 i := fun i i0 i1 => by rw [e, hput_same, updI_ne _ _ (by omega)]
  exact h.kp (by rw [e, hput_ne _ _ (by decide)]) (q 9 (by decide) (by decide)) (q 10 (by decide) (by decide)) (q 11 (by decide) (by decide)) (q 12 (by decide) (by decide)) (q 13 (by decide) (by decide)) (q 14 (by decide) (by decide))
theorem TM.oth {hi h2 : HI} {S P V st : Nat → Int} {m c p : Nat} {f : Nat → Int} (h : TM hi S P V st m c) (e : h2 = hput hi p f) (hp : p ≠ 39 ∧ p ≠ 45) : TM h2 S P V st m c := by
  have q : h2 39 = hi 39 := by rw [e, hput_ne _ _ (Ne.symm hp.1)]
  exact h.kp (by rw [e, hput_ne _ _ (Ne.symm hp.2)]) (by rw [q]) (by rw [q]) (by rw [q]) (by rw [q]) (by rw [q]) (by rw [q])
theorem TM.fr {hi h2 : HI} {S P V st : Nat → Int} {m c : Nat} {M J : List Nat} (h : TM hi S P V st m c) (e : Fr M hi h2) (e2 : FF 39 J hi h2) (h45 : 45 ∉ M) (hJ : ∀ j ∈ [9, 10, 11, 12, 13, 14], j ∉ J) : TM h2 S P V st m c :=
  h.kp (e 45 h45) (e2 9 (hJ 9 (by decide))) (e2 10 (hJ 10 (by decide))) (e2 11 (hJ 11 (by decide))) (e2 12 (hJ 12 (by decide))) (e2 13 (hJ 13 (by decide))) (e2 14 (hJ 14 (by decide)))
theorem TM.num {hi : HI} {S P V st : Nat → Int} {m c : Nat} (h : TM hi S P V st m c) : (hi 39 12 = 2 ↔ S c = 2) ∧ (hi 39 12 = 0 ↔ S c = 0) ∧ (S c = 2 → hi 39 13 = V c) := ⟨h.2.2.2.2.2.2.1, h.2.2.2.2.2.1, fun q => h.2.2.2.2.2.2.2.1 (h.2.2.2.2.2.2.1.mpr q)⟩
theorem TM.wd {hi : HI} {S P V st : Nat → Int} {m c : Nat} (h : TM hi S P V st m c) (k : Nat) (hk : 12 ≤ k ∧ k < 41) {x : Int} (hx : x = wW k) : (hi 39 12 = 1 ∧ hi 39 14 = x) ↔ S c = k := by
  subst hx; exact h.2.2.2.2.2.2.2.2.1 k hk.1 hk.2
theorem TM.sg {hi : HI} {S P V st : Nat → Int} {m c : Nat} (h : TM hi S P V st m c) (k : Nat) (hk : 4 ≤ k ∧ k < 12) {x : Int} (hx : x = wS k) : (hi 39 12 = 3 ∧ hi 39 13 = x) ↔ S c = k := by
  subst hx; exact h.2.2.2.2.2.2.2.2.2 k hk.1 hk.2
theorem TM.rg {hi : HI} {S P V st : Nat → Int} {m c : Nat} (h : TM hi S P V st m c) : ((0 ≤ hi 39 9 ∧ hi 39 9 ≤ 600) ∧ 0 ≤ hi 39 11 ∧ hi 39 11 ≤ hi 39 9) ∧ hi 39 10 = P c ∧ c ≤ m ∧ (m : Int) ≤ 600 := ⟨⟨h.1.1.2, h.2.2.2.1⟩, h.2.2.1, h.2.1, by have := h.1.1; omega⟩
theorem TC.v2 {f : Nat → Int} {n : Int} {S P V st : Nat → Int} {m c : Nat} (h : TC f n S P V st m) (hc : c ≤ m) (h2 : S c = 2) : 0 ≤ V c ∧ V c ≤ 999 := by
  have cm : c < m := by
    rcases Nat.lt_or_eq_of_le hc with q | q
    · exact q
    · exfalso; rw [q, h.2.2.1.1] at h2; omega
  obtain ⟨a, b, c1, d, e, g⟩ := h.2.1.2 c cm
  rw [e h2]; exact whole_bd c1 (h2 ▸ d)
/-- tokens c and later begin at c bytes or later; a token is a byte at least, a word two -/
theorem TC.pl {f : Nat → Int} {n : Int} {S P V st : Nat → Int} {m c : Nat} (h : TC f n S P V st m) (hc : c < m) : st c ≤ P c ∧ P c < st (c + 1) ∧ st (c + 1) ≤ n := by
  obtain ⟨a, b, c1, d, e, g⟩ := h.2.1.2 c hc
  exact ⟨a.1, c1.1.1, c1.1.2⟩
theorem TC.sg_rg {f : Nat → Int} {n : Int} {S P V st : Nat → Int} {m c : Nat} (h : TC f n S P V st m) (hc : c ≤ m) : 0 ≤ S c ∧ S c < 41 := by
  rcases Nat.lt_or_eq_of_le hc with q | q
  · obtain ⟨a, b, c1, d, e, g⟩ := h.2.1.2 c q
    exact d.1
  · rw [q, h.2.2.1.1]; decide
theorem Ct.mono {k : Kd} {y : MethodName} {T T2 : List AV → HI → (AV → HI → Prop) → Prop} (h : Ct k y T) (hm : ∀ a hi Q, T2 a hi Q → T a hi Q) : Ct k y T2 := fun l D ad cy A a hi post hT => h l D ad cy A a hi post (hm a hi post hT)
