/-! what the plain form tries, and the lives it comes from -/
theorem bT {v : Int} {P : Prop} (h : (v = 1 ∧ P) ∨ (v = 0 ∧ ¬ P)) (q : v ≠ 0) : P := h.elim (fun z => z.2) (fun z => absurd z.1 q)
theorem bF {v : Int} {P : Prop} (h : (v = 1 ∧ P) ∨ (v = 0 ∧ ¬ P)) (q : v = 0) : ¬ P := h.elim (fun z => absurd (z.1.symm.trans q) (by decide)) (fun z => z.2)
theorem RI.far {f : Nat → Int} {n : Int} (h : RI f n) : ∀ (d : Nat) (z : Int), 0 ≤ z → z + 1 + d < n → nO f z < nO f (z + 1 + d) ∨ (nO f z = nO f (z + 1 + d) ∧ dO f z ≤ bO f (z + 1 + d))
  | 0, z, z0, z1 => by
    have e : z + 1 + ((0 : Nat) : Int) = z + 1 := by omega
    rw [e] at z1 ⊢; exact h.2.2 z z0 z1
  | d + 1, z, z0, z1 => by
    have ih := RI.far h d z z0 (by omega)
    have st := h.2.2 (z + 1 + d) (by omega) (by omega)
    have r := h.2.1 (z + 1 + d) (by omega) (by omega)
    have e : z + 1 + ((d + 1 : Nat) : Int) = z + 1 + d + 1 := by omega
    rw [e]; omega
theorem RI.lt {f : Nat → Int} {n z y : Int} (h : RI f n) (z0 : 0 ≤ z) (zy : z < y) (yn : y < n) : nO f z < nO f y ∨ (nO f z = nO f y ∧ dO f z ≤ bO f y) := by
  have q := h.far (y - z - 1).toNat z z0 (by omega)
  rw [show z + 1 + ((y - z - 1).toNat : Int) = y by omega] at q; exact q
theorem RI.pw {f : Nat → Int} {n : Int} (h : RI f n) : PW f n := fun z y z0 z1 y0 y1 zy e => by
  rcases Int.lt_or_lt_of_ne zy with q | q
  · have := h.lt z0 q y1; omega
  · have := h.lt y0 q z1; omega
theorem SameE.al {f g : Nat → Int} {z y h : Int} (e : SameE f z g y) : al f z h ↔ al g y h := by
  obtain ⟨e1, e2, e3, e4⟩ := e
  show (bO f z ≤ h ∧ h < dO f z) ↔ (bO g y ≤ h ∧ h < dO g y)
  rw [e2, e3]
theorem cX_succ (g : Nat → Int) (x h : Int) (n : Nat) : cX g x h (n + 1) = cX g x h n + if nO g n = x ∧ al g n h then 1 else 0 := rfl
theorem cX_one {g : Nat → Int} {x h : Int} : ∀ {n : Nat} {z : Int}, 0 ≤ z → z < n → nO g z = x ∧ al g z h → 0 < cX g x h n
  | 0, z, z0, z1, _ => by omega
  | n + 1, z, z0, z1, hz => by
    have q := cX_bd g x h n
    rw [cX_succ]
    by_cases e : z = n
    · rw [← e, if_pos hz]; omega
    · have := cX_one z0 (show z < (n : Int) by omega) hz
      split <;> omega
theorem cX_two {g : Nat → Int} {x h : Int} : ∀ {n : Nat} {z y : Int}, 0 ≤ z → z < y → y < n → nO g z = x ∧ al g z h → nO g y = x ∧ al g y h → 1 < cX g x h n
  | 0, z, y, z0, z1, y1, _, _ => by omega
  | n + 1, z, y, z0, z1, y1, hz, hy => by
    rw [cX_succ]
    by_cases e : y = n
    · have := cX_one z0 (show z < (n : Int) by omega) hz
      rw [← e, if_pos hy]; omega
    · have := cX_two z0 z1 (show y < (n : Int) by omega) hz hy
      split <;> omega
theorem cX_ex1 {g : Nat → Int} {x h : Int} : ∀ {n : Nat}, 0 < cX g x h n → ∃ z : Int, 0 ≤ z ∧ z < n ∧ nO g z = x ∧ al g z h
  | 0, q => absurd (show (0 : Int) < 0 from q) (by decide)
  | n + 1, q => by
    rw [cX_succ] at q
    by_cases e : nO g n = x ∧ al g n h
    · exact ⟨n, by omega, by omega, e⟩
    · rw [if_neg e] at q
      obtain ⟨z, a, b, c⟩ := cX_ex1 (show 0 < cX g x h n by omega)
      exact ⟨z, a, by omega, c⟩
theorem cX_ex2 {g : Nat → Int} {x h : Int} : ∀ {n : Nat}, 1 < cX g x h n → ∃ z y : Int, 0 ≤ z ∧ z < y ∧ y < n ∧ (nO g z = x ∧ al g z h) ∧ nO g y = x ∧ al g y h
  | 0, q => absurd (show (1 : Int) < 0 from q) (by decide)
  | n + 1, q => by
    rw [cX_succ] at q
    by_cases e : nO g n = x ∧ al g n h
    · rw [if_pos e] at q
      obtain ⟨z, a, b, c⟩ := cX_ex1 (show 0 < cX g x h n by omega)
      exact ⟨z, n, a, b, by omega, c, e⟩
    · rw [if_neg e] at q
      obtain ⟨z, y, a, b, c, d⟩ := cX_ex2 (show 1 < cX g x h n by omega)
      exact ⟨z, y, a, b, by omega, d⟩
/-- no clash of a number: its lives are apart -/
theorem noCL_pw {g : Nat → Int} {n x : Int} (hn : n = g 0) (h0 : 0 ≤ n) (hr : Rng g n) (hp : PWx g n x) (hc : ¬ CLm g x) : PW g n := fun z y z0 z1 y0 y1 zy e => by
  by_cases q : nO g z = x
  · apply Classical.byContradiction
    intro hd
    have r1 := hr z z0 z1
    have r2 := hr y y0 y1
    obtain ⟨h, hh⟩ : ∃ h, h = if bO g z ≤ bO g y then bO g y else bO g z := ⟨_, rfl⟩
    have a1 : al g z h := by
      show bO g z ≤ h ∧ h < dO g z
      rw [hh]; split <;> omega
    have a2 : al g y h := by
      show bO g y ≤ h ∧ h < dO g y
      rw [hh]; split <;> omega
    refine hc ⟨h, by rw [hh]; split <;> omega, ?_⟩
    rcases Int.lt_or_lt_of_ne zy with c | c
    · exact cX_two z0 c (by omega) ⟨q, a1⟩ ⟨e ▸ q, a2⟩
    · exact cX_two y0 c (by omega) ⟨e ▸ q, a2⟩ ⟨q, a1⟩
  · exact hp z y z0 z1 y0 y1 zy e q
theorem RI.congr {f g : Nat → Int} {n : Int} (h : RI f n) (e : ∀ z, 0 ≤ z → z < n → SameE g z f z) : RI g n := by
  refine ⟨h.1, fun z z0 z1 => ?_, fun z z0 z1 => ?_⟩
  · obtain ⟨e1, e2, e3, e4⟩ := e z z0 z1
    rw [e1, e2, e3, e4]; exact h.2.1 z z0 z1
  · obtain ⟨e1, e2, e3, e4⟩ := e z z0 (by omega)
    obtain ⟨d1, d2, d3, d4⟩ := e (z + 1) (by omega) z1
    rw [e1, e3, d1, d2]; exact h.2.2 z z0 z1
theorem cpy_same {f g : Nat → Int} : (cpyI f g 0 0 166) 0 = f 0 ∧ (cpyI f g 0 0 166) 1 = f 1 ∧ ∀ z : Int, 0 ≤ z → z ≤ 40 → SameE (cpyI f g 0 0 166) z f z := by
  have key : ∀ j : Nat, j < 166 → (cpyI f g 0 0 166) j = f j := fun j hj => by
    unfold cpyI; rw [if_pos (by omega)]; congr 1; omega
  exact ⟨key 0 (by decide), key 1 (by decide), fun z z0 z1 => ⟨key _ (by omega), key _ (by omega), key _ (by omega), key _ (by omega)⟩⟩
def MI (hi : HI) : Prop := RI (hi 40) (hi 40 0) ∧ (0 ≤ hi 40 1 ∧ hi 40 1 ≤ 64) ∧ 0 ≤ hi 39 6 ∧ hi 39 6 ≤ 20
def Pus (hi h2 : HI) : Prop := h2 39 = updI (hi 39) 6 (eN (hi 39 6) + 1) ∧ h2 42 = cpyI (hi 40) (pN (hi 39 6) (hi 42)) 0 (166 * eN (hi 39 6)).toNat 166
def TelY (hi h2 : HI) : Prop := Pus hi h2 ∧ RI (h2 40) (hi 41 0) ∧ h2 40 0 = hi 41 0 ∧ h2 40 1 = hi 41 1 ∧ SS (hi 41) (h2 40) (hi 41 0)
def TelP (hi h2 : HI) (x v : Int) : Prop := (v = 3 ∧ LKm (hi 40) (hi 41) x ∧ h2 = hi) ∨ (v = 4 ∧ ¬ LKm (hi 40) (hi 41) x ∧ CLm (hi 41) x ∧ h2 = hi) ∨ (v = 5 ∧ ¬ LKm (hi 40) (hi 41) x ∧ ¬ CLm (hi 41) x ∧ 40 < hi 41 0 ∧ h2 = hi) ∨ (v = 0 ∧ ¬ LKm (hi 40) (hi 41) x ∧ ¬ CLm (hi 41) x ∧ hi 41 0 ≤ 40 ∧ TelY hi h2)
theorem tel_fin {hi h1 h2 : HI} (f1 : Fr [41] hi h1) (s : SI (hi 41) (h1 41) (hi 41 0) ∧ RI (h1 41) (hi 41 0)) (b : Bec h1 h2) : TelY hi h2 := by
  obtain ⟨b1, b2, b3⟩ := b
  rw [f1 39 (by decide)] at b1
  rw [f1 39 (by decide), f1 42 (by decide), f1 40 (by decide)] at b3
  have c := cpy_same (f := h1 41) (g := h1 40)
  rw [← b2] at c
  obtain ⟨s1, s2⟩ := s
  have hn := s2.1
  refine ⟨⟨b1, b3⟩, s2.congr (fun z z0 z1 => c.2.2 z z0 (by omega)), by rw [c.1, s1.1], by rw [c.2.1, s1.2.1], s1.2.2.2.2.tr ⟨fun z z0 z1 => ⟨z, ⟨z0, z1⟩, (c.2.2 z z0 (by omega)).sy⟩, fun z z0 z1 => ⟨z, ⟨z0, z1⟩, (c.2.2 z z0 (by omega)).sy⟩⟩⟩
/-- t: g with the life at p for what was the life o -/
def PutM (g : Nat → Int) (n x o b d w : Int) (t : Nat → Int) (m p : Int) : Prop := (0 ≤ p ∧ p < m) ∧ (∀ z, (0 ≤ z ∧ z < n ∧ z ≠ o) ↔ (0 ≤ z ∧ z < m ∧ z ≠ p)) ∧ t 0 = m ∧ t 1 = g 1 ∧ Ent t p x b d w ∧ ∀ z, 0 ≤ z → z < m → z ≠ p → SameE t z g z
/-- t: g without life o -/
def CutM (g : Nat → Int) (n o : Int) (t : Nat → Int) : Prop := (0 ≤ o ∧ o < n) ∧ t 0 = n - 1 ∧ t 1 = g 1 ∧ (∀ z, 0 ≤ z → z < o → SameE t z g z) ∧ ∀ z, o ≤ z → z < n - 1 → SameE t z g (z + 1)
/-- the lives of f2 are those of g, but for o, and one more -/
def SetP (g : Nat → Int) (n x o b d w : Int) (f2 : Nat → Int) (n2 : Int) : Prop := (∀ z, 0 ≤ z → z < n → z ≠ o → ∃ y, (0 ≤ y ∧ y < n2) ∧ SameE g z f2 y) ∧ (b < d → ∃ y, (0 ≤ y ∧ y < n2) ∧ Ent f2 y x b d w) ∧ ∀ y, 0 ≤ y → y < n2 → (b < d ∧ Ent f2 y x b d w) ∨ ∃ z, (0 ≤ z ∧ z < n ∧ z ≠ o) ∧ SameE g z f2 y
theorem SameE.ent {f g : Nat → Int} {z y x b d w : Int} (e : SameE f z g y) (h : Ent f z x b d w) : Ent g y x b d w := ⟨e.1 ▸ h.1, e.2.1 ▸ h.2.1, e.2.2.1 ▸ h.2.2.1, e.2.2.2 ▸ h.2.2.2⟩
theorem PutM.hrs {g t : Nat → Int} {n x o b d w m p h : Int} (q : PutM g n x o b d w t m p) : Hrs t m x (-1) h ↔ (Hrs g n x o h ∨ (b ≤ h ∧ h < d)) := by
  obtain ⟨q1, q2, q3, q4, q5, q6⟩ := q
  constructor
  · rintro ⟨z, z0, z1, -, e, a⟩
    by_cases c : z = p
    · right; subst c
      have : bO t z ≤ h ∧ h < dO t z := a
      rw [q5.2.1, q5.2.2.1] at this; exact this
    · left
      have s := q6 z z0 z1 c
      obtain ⟨-, r1, r2⟩ := (q2 z).mpr ⟨z0, z1, c⟩
      exact ⟨z, z0, r1, r2, by rw [← s.1]; exact e, s.al.mp a⟩
  · rintro (⟨z, z0, z1, zo, e, a⟩ | a)
    · obtain ⟨-, r1, r2⟩ := (q2 z).mp ⟨z0, z1, zo⟩
      have s := q6 z z0 r1 r2
      exact ⟨z, z0, r1, by omega, by rw [s.1]; exact e, s.al.mpr a⟩
    · refine ⟨p, q1.1, q1.2, by omega, q5.1, ?_⟩
      show bO t p ≤ h ∧ h < dO t p
      rw [q5.2.1, q5.2.2.1]; exact a
theorem PutM.lk {g t : Nat → Int} {n x o b d w m p : Int} (q : PutM g n x o b d w t m p) (hn : g 0 = n) (hl : 0 ≤ g 1 ∧ g 1 ≤ 64) : LKm g t x ↔ LK g n (g 1) x o b d := by
  have e := fun h => q.hrs (h := h)
  obtain ⟨q1, q2, q3, q4, q5, q6⟩ := q
  constructor
  · rintro ⟨h, h0, h1⟩
    rw [hn, q3, e h] at h1
    exact ⟨h, h0.1, by omega, h0.2, h1⟩
  · rintro ⟨h, h0, h1, h2, h3⟩
    refine ⟨h, ⟨h0, h2⟩, ?_⟩
    rw [hn, q3, e h]; exact h3
theorem PutM.cl {g t : Nat → Int} {n x o b d w m p : Int} (q : PutM g n x o b d w t m p) (hr : RI g n) (hb : 0 ≤ b ∧ d ≤ 64) : CLm t x ↔ CL g n x o b d := by
  obtain ⟨q1, q2, q3, q4, q5, q6⟩ := q
  have ep : ∀ h, al t p h ↔ (b ≤ h ∧ h < d) := fun h => by
    show (bO t p ≤ h ∧ h < dO t p) ↔ _
    rw [q5.2.1, q5.2.2.1]
  have em : ((t 0).toNat : Int) = m := by rw [q3]; omega
  constructor
  · rintro ⟨h, h0, h1⟩
    obtain ⟨z, y, z0, zy, yn, az, ay⟩ := cX_ex2 h1
    rw [em] at yn
    by_cases c : z = p
    · subst c
      obtain ⟨-, r1, r2⟩ := (q2 y).mpr ⟨by omega, yn, by omega⟩
      have s := q6 y (by omega) yn (by omega)
      exact ⟨h, h0.1, h0.2, ⟨y, by omega, r1, r2, by rw [← s.1]; exact ay.1, s.al.mp ay.2⟩, (ep h).mp az.2⟩
    · obtain ⟨-, r1, r2⟩ := (q2 z).mpr ⟨z0, by omega, c⟩
      have s := q6 z z0 (by omega) c
      by_cases c2 : y = p
      · subst c2
        exact ⟨h, h0.1, h0.2, ⟨z, z0, r1, r2, by rw [← s.1]; exact az.1, s.al.mp az.2⟩, (ep h).mp ay.2⟩
      · obtain ⟨-, r3, r4⟩ := (q2 y).mpr ⟨by omega, yn, c2⟩
        have s2 := q6 y (by omega) yn c2
        have w1 := hr.pw z y z0 r1 (by omega) r3 (by omega) (by rw [← s.1, ← s2.1, az.1, ay.1])
        have w2 : bO g z ≤ h ∧ h < dO g z := s.al.mp az.2
        have w3 : bO g y ≤ h ∧ h < dO g y := s2.al.mp ay.2
        omega
  · rintro ⟨h, h0, h1, ⟨z, z0, z1, zo, e, a⟩, hp⟩
    obtain ⟨-, r1, r2⟩ := (q2 z).mp ⟨z0, z1, zo⟩
    have s := q6 z z0 r1 r2
    refine ⟨h, ⟨h0, h1⟩, ?_⟩
    have az : nO t z = x ∧ al t z h := ⟨by rw [s.1]; exact e, s.al.mpr a⟩
    have ap : nO t p = x ∧ al t p h := ⟨q5.1, (ep h).mpr hp⟩
    rcases Int.lt_or_lt_of_ne r2 with c | c
    · exact cX_two z0 c (by omega) az ap
    · exact cX_two q1.1 c (by omega) ap az
theorem PutM.rng {g t : Nat → Int} {n x o b d w m p : Int} (q : PutM g n x o b d w t m p) (hr : RI g n) (hb : 0 ≤ b ∧ b < d ∧ d ≤ 64) (hx : 0 ≤ x ∧ x ≤ 999) (hw : 0 ≤ w ∧ w ≤ 99) : Rng t m ∧ PWx t m x := by
  obtain ⟨q1, q2, q3, q4, q5, q6⟩ := q
  refine ⟨fun z z0 z1 => ?_, fun z y z0 z1 y0 y1 zy e ex => ?_⟩
  · by_cases c : z = p
    · rw [c, q5.1, q5.2.1, q5.2.2.1, q5.2.2.2]; exact ⟨hx, by omega, hw⟩
    · obtain ⟨-, r1, r2⟩ := (q2 z).mpr ⟨z0, z1, c⟩
      obtain ⟨s1, s2, s3, s4⟩ := q6 z z0 z1 c
      rw [s1, s2, s3, s4]; exact hr.2.1 z z0 r1
  · have c : z ≠ p := fun c => ex (by rw [c]; exact q5.1)
    have c2 : y ≠ p := fun c => ex (by rw [e, c]; exact q5.1)
    obtain ⟨-, r1, r2⟩ := (q2 z).mpr ⟨z0, z1, c⟩
    obtain ⟨-, r3, r4⟩ := (q2 y).mpr ⟨y0, y1, c2⟩
    obtain ⟨s1, s2, s3, s4⟩ := q6 z z0 z1 c
    obtain ⟨u1, u2, u3, u4⟩ := q6 y y0 y1 c2
    rw [s2, s3, u2, u3]
    exact hr.pw z y z0 r1 y0 r3 zy (by rw [← s1, ← u1, e])
theorem PutM.set {g t f2 : Nat → Int} {n x o b d w m p : Int} (q : PutM g n x o b d w t m p) (hb : b < d) (s : SS t f2 m) : SetP g n x o b d w f2 m := by
  obtain ⟨q1, q2, q3, q4, q5, q6⟩ := q
  refine ⟨fun z z0 z1 zo => ?_, fun _ => ?_, fun y y0 y1 => ?_⟩
  · obtain ⟨-, r1, r2⟩ := (q2 z).mp ⟨z0, z1, zo⟩
    obtain ⟨y, hy, e⟩ := s.1 z z0 r1
    exact ⟨y, hy, (q6 z z0 r1 r2).sy.tr e⟩
  · obtain ⟨y, hy, e⟩ := s.1 p q1.1 q1.2
    exact ⟨y, hy, e.ent q5⟩
  · obtain ⟨z, hz, e⟩ := s.2 y y0 y1
    by_cases c : z = p
    · left; subst c; exact ⟨hb, e.ent q5⟩
    · right
      obtain ⟨r0, r1, r2⟩ := (q2 z).mpr ⟨hz.1, hz.2, c⟩
      exact ⟨z, ⟨r0, r1, r2⟩, (q6 z hz.1 hz.2 c).sy.tr e⟩
theorem CutM.to {g t : Nat → Int} {n o z : Int} (q : CutM g n o t) (z0 : 0 ≤ z) (z1 : z < n) (zo : z ≠ o) : ∃ y, (0 ≤ y ∧ y < n - 1) ∧ SameE g z t y := by
  obtain ⟨q1, q2, q3, q4, q5⟩ := q
  rcases Int.lt_or_lt_of_ne zo with c | c
  · exact ⟨z, by omega, (q4 z z0 c).sy⟩
  · refine ⟨z - 1, by omega, ?_⟩
    have := (q5 (z - 1) (by omega) (by omega)).sy
    rw [show z - 1 + 1 = z by omega] at this; exact this
def cu (o y : Int) : Int := if y < o then y else y + 1
theorem CutM.of {g t : Nat → Int} {n o y : Int} (q : CutM g n o t) (y0 : 0 ≤ y) (y1 : y < n - 1) : (0 ≤ cu o y ∧ cu o y < n ∧ cu o y ≠ o) ∧ SameE g (cu o y) t y := by
  obtain ⟨q1, q2, q3, q4, q5⟩ := q
  unfold cu
  by_cases c : y < o
  · rw [if_pos c]; exact ⟨by omega, (q4 y y0 c).sy⟩
  · rw [if_neg c]; exact ⟨by omega, (q5 y (by omega) y1).sy⟩
theorem cu_ne {o y z : Int} (h : y ≠ z) : cu o y ≠ cu o z := by unfold cu; split <;> split <;> omega
theorem CutM.hrs {g t : Nat → Int} {n o x h : Int} (q : CutM g n o t) (m : Int) (hm : m = n - 1) : Hrs t m x (-1) h ↔ Hrs g n x o h := by
  subst hm
  constructor
  · rintro ⟨z, z0, z1, -, e, a⟩
    obtain ⟨r, s⟩ := q.of z0 z1
    exact ⟨_, r.1, r.2.1, r.2.2, by rw [s.1]; exact e, s.al.mpr a⟩
  · rintro ⟨z, z0, z1, zo, e, a⟩
    obtain ⟨y, hy, s⟩ := q.to z0 z1 zo
    exact ⟨y, hy.1, hy.2, by omega, by rw [← s.1]; exact e, s.al.mp a⟩
theorem CutM.lk {g t : Nat → Int} {n o x b d : Int} (q : CutM g n o t) (hn : g 0 = n) (hl : 0 ≤ g 1 ∧ g 1 ≤ 64) (hb : d ≤ b) : LKm g t x ↔ LK g n (g 1) x o b d := by
  have e := fun h => q.hrs (x := x) (h := h) (t 0) q.2.1
  have e2 : ∀ h, (Hrs g n x o h ∨ (b ≤ h ∧ h < d)) ↔ Hrs g n x o h := fun h => ⟨fun z => z.elim id (fun c => by omega), Or.inl⟩
  constructor
  · rintro ⟨h, h0, h1⟩
    rw [hn, e h] at h1
    exact ⟨h, h0.1, by omega, h0.2, by rw [e2 h]; exact h1⟩
  · rintro ⟨h, h0, h1, h2, h3⟩
    refine ⟨h, ⟨h0, h2⟩, ?_⟩
    rw [e2 h] at h3
    rw [hn, e h]; exact h3
theorem CutM.rng {g t : Nat → Int} {n o : Int} (q : CutM g n o t) (hr : RI g n) : Rng t (n - 1) ∧ PW t (n - 1) := by
  refine ⟨fun z z0 z1 => ?_, fun z y z0 z1 y0 y1 zy e => ?_⟩
  · obtain ⟨r, s1, s2, s3, s4⟩ := q.of z0 z1
    rw [← s1, ← s2, ← s3, ← s4]; exact hr.2.1 _ r.1 r.2.1
  · obtain ⟨r, s1, s2, s3, s4⟩ := q.of z0 z1
    obtain ⟨r2, u1, u2, u3, u4⟩ := q.of y0 y1
    rw [← s2, ← s3, ← u2, ← u3]
    exact hr.pw _ _ r.1 r.2.1 r2.1 r2.2.1 (cu_ne zy) (by rw [s1, u1, e])
theorem CutM.nocl {g t : Nat → Int} {n o x : Int} (q : CutM g n o t) (hr : RI g n) : ¬ CLm t x := by
  rintro ⟨h, h0, h1⟩
  obtain ⟨z, y, z0, zy, yn, az, ay⟩ := cX_ex2 h1
  have q0 := q.1
  rw [q.2.1] at yn
  have p := (q.rng hr).2 z y z0 (by omega) (by omega) (by omega) (by omega) (by rw [az.1, ay.1])
  have w2 : bO t z ≤ h ∧ h < dO t z := az.2
  have w3 : bO t y ≤ h ∧ h < dO t y := ay.2
  omega
theorem CutM.set {g t f2 : Nat → Int} {n o x b d w : Int} (q : CutM g n o t) (hb : d ≤ b) (s : SS t f2 (n - 1)) : SetP g n x o b d w f2 (n - 1) := by
  refine ⟨fun z z0 z1 zo => ?_, fun c => by omega, fun y y0 y1 => ?_⟩
  · obtain ⟨y, hy, e⟩ := q.to z0 z1 zo
    obtain ⟨u, hu, e2⟩ := s.1 y hy.1 hy.2
    exact ⟨u, hu, e.tr e2⟩
  · obtain ⟨z, hz, e⟩ := s.2 y y0 y1
    obtain ⟨r, s2⟩ := q.of hz.1 hz.2
    exact Or.inr ⟨_, r, s2.tr e⟩
def NoC (hi h2 : HI) : Prop := h2 39 = hi 39 ∧ h2 40 = hi 40 ∧ h2 42 = hi 42
def YesC (hi h2 : HI) (x o b d w : Int) : Prop := Pus hi h2 ∧ RI (h2 40) (h2 40 0) ∧ h2 40 1 = hi 40 1 ∧ SetP (hi 40) (hi 40 0) x o b d w (h2 40) (h2 40 0)
/-- an edit of the plain form: life o of number x comes to be from b to d with worth w -/
def EdM (hi h2 : HI) (x o b d w v : Int) : Prop := (v = 3 ∧ LK (hi 40) (hi 40 0) (hi 40 1) x o b d ∧ NoC hi h2) ∨ (v = 4 ∧ ¬ LK (hi 40) (hi 40 0) (hi 40 1) x o b d ∧ CL (hi 40) (hi 40 0) x o b d ∧ NoC hi h2) ∨ (v = 5 ∧ ¬ LK (hi 40) (hi 40 0) (hi 40 1) x o b d ∧ ¬ CL (hi 40) (hi 40 0) x o b d ∧ (o < 0 ∧ 40 ≤ hi 40 0) ∧ NoC hi h2) ∨ (v = 0 ∧ ¬ LK (hi 40) (hi 40 0) (hi 40 1) x o b d ∧ ¬ CL (hi 40) (hi 40 0) x o b d ∧ (0 ≤ o ∨ hi 40 0 < 40) ∧ YesC hi h2 x o b d w)
theorem put_ed {hi h1 h2 : HI} {x o b d w v m p : Int} (hmi : MI hi) (fr : Fr [41] hi h1) (hp : PutM (hi 40) (hi 40 0) x o b d w (h1 41) m p) (ho : (o = -1 ∧ m = hi 40 0 + 1) ∨ (0 ≤ o ∧ m = hi 40 0)) (hb : 0 ≤ b ∧ b < d ∧ d ≤ 64) (t : TelP h1 h2 x v) : EdM hi h2 x o b d w v := by
  have e40 := fr 40 (by decide)
  have e39 := fr 39 (by decide)
  have e42 := fr 42 (by decide)
  unfold TelP TelY Pus at t
  rw [e40, e39, e42] at t
  have r0 := hmi.1.1
  have L := hp.lk rfl hmi.2.1
  have C := hp.cl hmi.1 ⟨hb.1, hb.2.2⟩
  have em := hp.2.2.1
  rw [L, C, em] at t
  have nc : h2 = h1 → NoC hi h2 := fun e => by rw [e]; exact ⟨e39, e40, e42⟩
  rcases t with ⟨t1, t2, t3⟩ | ⟨t1, t2, t3, t4⟩ | ⟨t1, t2, t3, t4, t5⟩ | ⟨t1, t2, t3, t4, ⟨t5, t6, t7, t8, t9⟩⟩
  · exact Or.inl ⟨t1, t2, nc t3⟩
  · exact Or.inr (Or.inl ⟨t1, t2, t3, nc t4⟩)
  · exact Or.inr (Or.inr (Or.inl ⟨t1, t2, t3, by omega, nc t5⟩))
  · refine Or.inr (Or.inr (Or.inr ⟨t1, t2, t3, by omega, t5, by rw [t7]; exact t6, by rw [t8]; exact hp.2.2.2.1, ?_⟩))
    rw [t7]; exact hp.set hb.2.1 t9
theorem cut_ed {hi h1 h2 : HI} {x o b d w v : Int} (hmi : MI hi) (fr : Fr [41] hi h1) (hp : CutM (hi 40) (hi 40 0) o (h1 41)) (hb : d ≤ b) (t : TelP h1 h2 x v) : EdM hi h2 x o b d w v := by
  have e40 := fr 40 (by decide)
  have e39 := fr 39 (by decide)
  have e42 := fr 42 (by decide)
  unfold TelP TelY Pus at t
  rw [e40, e39, e42] at t
  have r0 := hmi.1.1
  have L := hp.lk (x := x) rfl hmi.2.1 hb
  have C := hp.nocl (x := x) hmi.1
  have em := hp.2.1
  rw [L, em] at t
  have nc : h2 = h1 → NoC hi h2 := fun e => by rw [e]; exact ⟨e39, e40, e42⟩
  have ncl : ¬ CL (hi 40) (hi 40 0) x o b d := fun ⟨h, c1, c2, c3, c4⟩ => by omega
  have p0 := hp.1
  rcases t with ⟨t1, t2, t3⟩ | ⟨t1, t2, t3, t4⟩ | ⟨t1, t2, t3, t4, t5⟩ | ⟨t1, t2, t3, t4, ⟨t5, t6, t7, t8, t9⟩⟩
  · exact Or.inl ⟨t1, t2, nc t3⟩
  · exact absurd t3 C
  · omega
  · refine Or.inr (Or.inr (Or.inr ⟨t1, t2, ncl, by omega, t5, by rw [t7]; exact t6, by rw [t8]; exact hp.2.2.1, ?_⟩))
    rw [t7]; exact hp.set hb t9
abbrev kX8_tells : Kd := (cX8_tells, .code yX8_tells cX8_tells 2 (some .int) :: wsL_law0, rmL 5, RX8, (some .int), 2)
theorem ct_X8_tells : Ct kX8_tells yX8_tells (fun a hi Q => ∃ x : Int, a = [AR 40, AI x] ∧ (MI hi ∧ (0 ≤ hi 41 0 ∧ hi 41 0 ≤ 41) ∧ (Rng (hi 41) (hi 41 0) ∧ PWx (hi 41) (hi 41 0) x) ∧ inR x) ∧ ∀ (v : Int) (h2 : HI), (Fr [39, 40, 41, 42] hi h2 ∧ (TelP hi h2 x v)) → Q (AI v) h2) := by
  refine Ct.of (ws' := _) (by decide +kernel) rfl rfl ?_
  intro a hi Q hT
  obtain ⟨x, rfl, hpre, hQ⟩ := hT
  refine ⟨Nat.le_of_ble_eq_true rfl, ?_⟩
  show Z kX8_tells Q 0 [(0, AR 40), (1, AI x)] [] hi
  refine z_aload_n (pc := 0) (x := 40) dX8_tells_0 rfl 0 rfl ?_
  refine z_iload_n (pc := 1) dX8_tells_1 rfl 1 rfl ?_
  refine z_callV (pc := 2) (kc := kX8_isLocked) (n := 1) (pl := 39) (ci := 7) (C := RX8) (As := [AI x]) (stk := []) ct_X8_isLocked (gdV rfl rfl (iw10 _ (List.mem_of_getElem? (i := 3) rfl)) (iw10 _ (List.mem_of_getElem? (i := 4) rfl)) (iw10 _ (List.mem_of_getElem? (i := 5) rfl)) (iw1 _ (List.mem_of_getElem? (i := 5) rfl)) (iw10 _ (List.mem_of_getElem? (i := 6) rfl))) rfl ⟨rfl, rfl⟩ (by decide +kernel) ⟨by decide, by decide⟩ (by decide) rfl rfl dX8_tells_2 rfl rfl (Nat.le_of_ble_eq_true rfl) ?_
  refine ⟨_, rfl, ⟨hpre.1.1.1, hpre.2.1, hpre.2.2.2⟩, fun v1 ev1 => ?_⟩
  have w2 := ev1
  refine z_if_eq (pc := 5) (tgt := 10) dX8_tells_5 (by decide) ⟨by omega, by omega⟩ (fun c2 => ?_) (fun c2 => ?_)
  · refine z_aload_n (pc := 10) (x := 40) dX8_tells_10 rfl 0 rfl ?_
    refine z_iload_n (pc := 11) dX8_tells_11 rfl 1 rfl ?_
    refine z_callV (pc := 12) (kc := kX8_isClash) (n := 1) (pl := 39) (ci := 7) (C := RX8) (As := [AI x]) (stk := []) ct_X8_isClash (gdV rfl rfl (iw10 _ (List.mem_of_getElem? (i := 16) rfl)) (iw10 _ (List.mem_of_getElem? (i := 17) rfl)) (iw10 _ (List.mem_of_getElem? (i := 18) rfl)) (iw1 _ (List.mem_of_getElem? (i := 5) rfl)) (iw10 _ (List.mem_of_getElem? (i := 19) rfl))) rfl ⟨rfl, rfl⟩ (by decide +kernel) ⟨by decide, by decide⟩ (by decide) rfl rfl dX8_tells_12 rfl rfl (Nat.le_of_ble_eq_true rfl) ?_
    refine ⟨_, rfl, ⟨hpre.2.1, hpre.2.2.2⟩, fun v3 ev3 => ?_⟩
    have w12 := ev3
    refine z_if_eq (pc := 15) (tgt := 20) dX8_tells_15 (by decide) ⟨by omega, by omega⟩ (fun c4 => ?_) (fun c4 => ?_)
    · refine z_aload_n (pc := 20) (x := 40) dX8_tells_20 rfl 0 rfl ?_
      refine z_getR (pc := 21) (pl := 39) (f := 2) (ci := 7) (C := RX8) (T := TX8) (N := 33) hu_X8 (by decide) rfl rfl (by decide) rfl (List.mem_cons_of_mem _ (iw5 _ (List.mem_of_getElem? (i := 6) rfl))) rfl dX8_tells_21 ?_
      refine z_iconst (pc := 24) (v := 0) dX8_tells_24 rfl ?_
      refine z_iald (pc := 25) (pl := 41) (by decide) rfl (by decide) (by decide) (by decide) (by decide) dX8_tells_25 (fun v5 ev5 rv5 => ?_)
      replace ev5 : v5 = hi 41 0 := ev5
      refine z_bipush (pc := 26) (v := 40) dX8_tells_26 (by decide +kernel) ?_
      refine z_icmp_le (pc := 28) (tgt := 33) dX8_tells_28 (by decide) ⟨by omega, by omega⟩ ⟨by decide, by decide⟩ (fun c6 => ?_) (fun c6 => ?_)
      · refine z_aload_n (pc := 33) (x := 40) dX8_tells_33 rfl 0 rfl ?_
        refine z_callV (pc := 34) (kc := kX8_sorts) (n := 0) (pl := 39) (ci := 7) (C := RX8) (As := []) (stk := []) ct_X8_sorts (gdV rfl rfl (iw10 _ (List.mem_of_getElem? (i := 20) rfl)) (iw10 _ (List.mem_of_getElem? (i := 21) rfl)) (iw10 _ (List.mem_of_getElem? (i := 22) rfl)) (iw1 _ (List.mem_of_getElem? (i := 5) rfl)) (iw10 _ (List.mem_of_getElem? (i := 23) rfl))) rfl ⟨rfl, rfl⟩ (by decide +kernel) ⟨by decide, by decide⟩ (by decide) rfl rfl dX8_tells_34 rfl rfl (Nat.le_of_ble_eq_true rfl) ?_
        refine ⟨rfl, ⟨by omega, hpre.2.2.1.1, noCL_pw rfl hpre.2.1.1 hpre.2.2.1.1 hpre.2.2.1.2 (bF w12 (by omega))⟩, fun h7 eh7 => ?_⟩
        have frh7 : Fr [39, 40, 41, 42] hi h7 := (Fr.call (Fr.rf) eh7.1 (by decide))
        have e34 := eh7
        have m39 : h7 39 = hi 39 := eh7.1 39 (by decide)
        refine z_aload_n (pc := 37) (x := 40) dX8_tells_37 rfl 0 rfl ?_
        refine z_callV (pc := 38) (kc := kX8_becomes) (n := 0) (pl := 39) (ci := 7) (C := RX8) (As := []) (stk := []) ct_X8_becomes (gdV rfl rfl (iw11 _ (List.mem_of_getElem? (i := 4) rfl)) (iw11 _ (List.mem_of_getElem? (i := 5) rfl)) (iw11 _ (List.mem_of_getElem? (i := 6) rfl)) (iw1 _ (List.mem_of_getElem? (i := 5) rfl)) (iw11 _ (List.mem_of_getElem? (i := 7) rfl))) rfl ⟨rfl, rfl⟩ (by decide +kernel) ⟨by decide, by decide⟩ (by decide) rfl rfl dX8_tells_38 rfl rfl (Nat.le_of_ble_eq_true rfl) ?_
        refine ⟨rfl, by rw [m39]; exact hpre.1.2.2, fun h8 eh8 => ?_⟩
        have frh8 : Fr [39, 40, 41, 42] hi h8 := (Fr.call frh7 eh8.1 (by decide))
        try rw [(eh7.1 39 (by decide) : h7 39 = hi 39)] at eh8
        try rw [(eh7.1 40 (by decide) : h7 40 = hi 40)] at eh8
        try rw [(eh7.1 42 (by decide) : h7 42 = hi 42)] at eh8
        have e38 := eh8.2
        refine z_iconst (pc := 41) (v := 0) dX8_tells_41 rfl ?_
        refine z_iret (pc := 42) rfl dX8_tells_42 ?_
        exact hQ 0 h8 ⟨frh8, by first | exact Or.inl ⟨rfl, bT w2 (by omega), rfl⟩ | exact Or.inr (Or.inl ⟨rfl, bF w2 (by omega), bT w12 (by omega), rfl⟩) | exact Or.inr (Or.inr (Or.inl ⟨rfl, bF w2 (by omega), bF w12 (by omega), by omega, rfl⟩)) | exact Or.inr (Or.inr (Or.inr ⟨rfl, bF w2 (by omega), bF w12 (by omega), by omega, tel_fin e34.1 e34.2 e38⟩))⟩
      · refine z_iconst (pc := 31) (v := 5) dX8_tells_31 rfl ?_
        refine z_iret (pc := 32) rfl dX8_tells_32 ?_
        exact hQ 5 hi ⟨(Fr.rf), by first | exact Or.inl ⟨rfl, bT w2 (by omega), rfl⟩ | exact Or.inr (Or.inl ⟨rfl, bF w2 (by omega), bT w12 (by omega), rfl⟩) | exact Or.inr (Or.inr (Or.inl ⟨rfl, bF w2 (by omega), bF w12 (by omega), by omega, rfl⟩)) | exact Or.inr (Or.inr (Or.inr ⟨rfl, bF w2 (by omega), bF w12 (by omega), by omega, tel_fin e34.1 e34.2 e38⟩))⟩
    · refine z_iconst (pc := 18) (v := 4) dX8_tells_18 rfl ?_
      refine z_iret (pc := 19) rfl dX8_tells_19 ?_
      exact hQ 4 hi ⟨(Fr.rf), by first | exact Or.inl ⟨rfl, bT w2 (by omega), rfl⟩ | exact Or.inr (Or.inl ⟨rfl, bF w2 (by omega), bT w12 (by omega), rfl⟩) | exact Or.inr (Or.inr (Or.inl ⟨rfl, bF w2 (by omega), bF w12 (by omega), by omega, rfl⟩)) | exact Or.inr (Or.inr (Or.inr ⟨rfl, bF w2 (by omega), bF w12 (by omega), by omega, tel_fin e34.1 e34.2 e38⟩))⟩
  · refine z_iconst (pc := 8) (v := 3) dX8_tells_8 rfl ?_
    refine z_iret (pc := 9) rfl dX8_tells_9 ?_
    exact hQ 3 hi ⟨(Fr.rf), by first | exact Or.inl ⟨rfl, bT w2 (by omega), rfl⟩ | exact Or.inr (Or.inl ⟨rfl, bF w2 (by omega), bT w12 (by omega), rfl⟩) | exact Or.inr (Or.inr (Or.inl ⟨rfl, bF w2 (by omega), bF w12 (by omega), by omega, rfl⟩)) | exact Or.inr (Or.inr (Or.inr ⟨rfl, bF w2 (by omega), bF w12 (by omega), by omega, tel_fin e34.1 e34.2 e38⟩))⟩
