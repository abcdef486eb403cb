/-! rows of lives: a life put in, taken out; sorted rows with the same lives are one -/
theorem RemAt.ix {f f1 : Nat → Int} {n k z : Int} (r : RemAt f f1 n k) (z0 : 0 ≤ z) (z1 : z < n - 1) : SameE f1 z f (if z < k then z else z + 1) := by
  by_cases q : z < k
  · rw [if_pos q]; exact r.2.2.1 z z0 q
  · rw [if_neg q]; exact r.2.2.2 z (by omega) z1
theorem rem_ri {f f1 : Nat → Int} {n k : Int} (h : RI f n) (r : RemAt f f1 n k) (hk : 0 ≤ k ∧ k < n) : RI f1 (n - 1) := by
  refine ⟨by have := h.1; omega, fun z z0 z1 => ?_, fun z z0 z1 => ?_⟩
  · obtain ⟨e1, e2, e3, e4⟩ := r.ix z0 z1
    rw [e1, e2, e3, e4]
    exact h.2.1 _ (by split <;> omega) (by split <;> omega)
  · obtain ⟨e1, e2, e3, e4⟩ := r.ix z0 (show z < n - 1 by omega)
    obtain ⟨g1, g2, g3, g4⟩ := r.ix (show 0 ≤ z + 1 by omega) z1
    rw [e1, e3, g1, g2]
    exact h.lt (by split <;> omega) (by split <;> split <;> omega) (by split <;> omega)
theorem InsAt.ix {f f2 : Nat → Int} {n p x b d w z : Int} (r : InsAt f f2 n p x b d w) (z0 : 0 ≤ z) (z1 : z ≤ n) (zp : z ≠ p) : SameE f2 z f (if z < p then z else z - 1) := by
  by_cases q : z < p
  · rw [if_pos q]; exact r.2.2.1 z z0 q
  · rw [if_neg q]; exact r.2.2.2.2 z (by omega) z1
theorem ins_ri {f f2 : Nat → Int} {n p x b d w : Int} (h : RI f n) (hn : n < 40) (pl : Plc f n x b p) (r : InsAt f f2 n p x b d w) (hx : 0 ≤ x ∧ x ≤ 999) (hb : 0 ≤ b ∧ b < d ∧ d ≤ 64) (hw : 0 ≤ w ∧ w ≤ 99) (nc : ∀ z, 0 ≤ z → z < n → nO f z = x → dO f z ≤ b ∨ d ≤ bO f z) : RI f2 (n + 1) := by
  have en := r.2.2.2.1
  obtain ⟨p0, p1, p2, p3⟩ := pl
  refine ⟨by have := h.1; omega, fun z z0 z1 => ?_, fun z z0 z1 => ?_⟩
  · by_cases q : z = p
    · subst q
      rw [en.1, en.2.1, en.2.2.1, en.2.2.2]; exact ⟨hx, hb, hw⟩
    · obtain ⟨e1, e2, e3, e4⟩ := r.ix z0 (by omega) q
      rw [e1, e2, e3, e4]
      exact h.2.1 _ (by split <;> omega) (by split <;> omega)
  · by_cases q : z = p
    · subst q
      obtain ⟨g1, g2, g3, g4⟩ := r.ix (show 0 ≤ z + 1 by omega) (by omega) (by omega)
      rw [if_neg (by omega), show z + 1 - 1 = z by omega] at g1 g2
      rw [en.1, en.2.2.1, g1, g2]
      have k := p3 z (Int.le_refl _) (by omega)
      have r1 := h.2.1 z z0 (by omega)
      have n1 := nc z z0 (by omega)
      omega
    · by_cases q2 : z + 1 = p
      · obtain ⟨e1, e2, e3, e4⟩ := r.ix z0 (by omega) q
        rw [if_pos (by omega)] at e1 e3
        rw [q2, en.1, en.2.1, e1, e3]
        have k := p2.resolve_left (by omega)
        rw [show p - 1 = z by omega] at k
        have r1 := h.2.1 z z0 (by omega)
        have n1 := nc z z0 (by omega)
        omega
      · obtain ⟨e1, e2, e3, e4⟩ := r.ix z0 (by omega) q
        obtain ⟨g1, g2, g3, g4⟩ := r.ix (show 0 ≤ z + 1 by omega) (by omega) q2
        rw [e1, e3, g1, g2]
        exact h.lt (by split <;> omega) (by split <;> split <;> omega) (by split <;> omega)
theorem noCL {f : Nat → Int} {n x o b d : Int} (h : RI f n) (hb : 0 ≤ b ∧ b < d ∧ d ≤ 64) (nc : ¬ CL f n x o b d) : ∀ z, 0 ≤ z → z < n → z ≠ o → nO f z = x → dO f z ≤ b ∨ d ≤ bO f z := fun z z0 z1 zo e => by
  apply Classical.byContradiction
  intro q
  have r := h.2.1 z z0 z1
  refine nc ⟨if b < bO f z then bO f z else b, by split <;> omega, by split <;> omega, ⟨z, z0, z1, zo, e, by split <;> omega, by split <;> omega⟩, by split <;> omega, by split <;> omega⟩
/-- a change of a life, in the class -/
theorem chf_ri {f f2 : Nat → Int} {n k b d : Int} (h : RI f n) (hk : 0 ≤ k ∧ k < n) (c : ChF f f2 n k b d) (hb : 0 ≤ b ∧ d ≤ 64) (nc : ¬ CL f n (nO f k) k b d) : RI f2 (f2 1) ∧ f2 0 = f 0 ∧ SetP f n (nO f k) k b d (wO f k) f2 (f2 1) := by
  obtain ⟨f1, r, c1, c2⟩ := c
  have r1 := rem_ri h r hk
  have rk := h.2.1 k hk.1 hk.2
  have back : ∀ z, 0 ≤ z → z < n → z ≠ k → ∃ y, (0 ≤ y ∧ y < n - 1) ∧ SameE f z f1 y := fun z z0 z1 zk => by
    by_cases q : z < k
    · exact ⟨z, by omega, (r.2.2.1 z z0 q).sy⟩
    · have e := r.2.2.2 (z - 1) (by omega) (by omega)
      rw [show z - 1 + 1 = z by omega] at e
      exact ⟨z - 1, by omega, e.sy⟩
  have forth : ∀ y, 0 ≤ y → y < n - 1 → ∃ z, (0 ≤ z ∧ z < n ∧ z ≠ k) ∧ SameE f z f1 y := fun y y0 y1 => ⟨_, by split <;> omega, (r.ix y0 y1).sy⟩
  by_cases bd : b < d
  · obtain ⟨p, pl, ins⟩ := c1 bd
    have nf := noCL h ⟨hb.1, bd, hb.2⟩ nc
    have i2 : f2 1 = n := by rw [ins.2.1]; omega
    have ri := ins_ri r1 (by have := h.1; omega) pl ins rk.1 ⟨hb.1, bd, hb.2⟩ rk.2.2 (fun z z0 z1 e => by
      obtain ⟨e1, e2, e3, e4⟩ := r.ix z0 z1
      rw [e1] at e
      rw [e2, e3]
      exact nf _ (by split <;> omega) (by split <;> omega) (by split <;> omega) e)
    rw [show n - 1 + 1 = n by omega] at ri
    have b2 : ∀ y, 0 ≤ y → y < n - 1 → ∃ u, (0 ≤ u ∧ u < n) ∧ SameE f1 y f2 u := fun y y0 y1 => by
      by_cases q : y < p
      · exact ⟨y, by omega, (ins.2.2.1 y y0 q).sy⟩
      · have e := ins.2.2.2.2 (y + 1) (by omega) (by omega)
        rw [show y + 1 - 1 = y by omega] at e
        exact ⟨y + 1, by omega, e.sy⟩
    refine ⟨by rw [i2]; exact ri, by rw [ins.1, r.1], fun z z0 z1 zk => ?_, fun _ => ⟨p, by rw [i2]; have := pl.1; have := pl.2.1; omega, ins.2.2.2.1⟩, fun y y0 y1 => ?_⟩
    · obtain ⟨y, y1, e⟩ := back z z0 z1 zk
      obtain ⟨u, u1, e2⟩ := b2 y y1.1 y1.2
      exact ⟨u, by rw [i2]; exact u1, e.tr e2⟩
    · rw [i2] at y1
      by_cases q : y = p
      · left; rw [q]; exact ⟨bd, ins.2.2.2.1⟩
      · right
        have pl0 := pl.1; have pl1 := pl.2.1
        obtain ⟨z, z1, e⟩ := forth (if y < p then y else y - 1) (by split <;> omega) (by split <;> omega)
        exact ⟨z, z1, e.tr (ins.ix y0 (by omega) q).sy⟩
  · have e2 := c2 (by omega)
    subst e2
    have i2 : f2 1 = n - 1 := r.2.1
    refine ⟨by rw [i2]; exact r1, r.1, fun z z0 z1 zk => ?_, fun q => absurd q bd, fun y y0 y1 => ?_⟩
    · rw [i2]; exact back z z0 z1 zk
    · right; rw [i2] at y1; exact forth y y0 y1
theorem ins_set {f f2 : Nat → Int} {n p x b d w : Int} (h : RI f n) (hn : n < 40) (pl : Plc f n x b p) (r : InsAt f f2 n p x b d w) (hx : 0 ≤ x ∧ x ≤ 999) (hb : 0 ≤ b ∧ b < d ∧ d ≤ 64) (hw : 0 ≤ w ∧ w ≤ 99) (nc : ¬ CL f n x (-1) b d) : RI f2 (f2 1) ∧ f2 0 = f 0 ∧ SetP f n x (-1) b d w f2 (f2 1) := by
  have nf := noCL h hb nc
  have i2 : f2 1 = n + 1 := r.2.1
  have ri := ins_ri h hn pl r hx hb hw (fun z z0 z1 e => nf z z0 z1 (by omega) e)
  have pl0 := pl.1; have pl1 := pl.2.1
  refine ⟨by rw [i2]; exact ri, r.1, fun z z0 z1 _ => ?_, fun _ => ⟨p, by rw [i2]; omega, r.2.2.2.1⟩, fun y y0 y1 => ?_⟩
  · rw [i2]
    by_cases q : z < p
    · exact ⟨z, by omega, (r.2.2.1 z z0 q).sy⟩
    · have e := r.2.2.2.2 (z + 1) (by omega) (by omega)
      rw [show z + 1 - 1 = z by omega] at e
      exact ⟨z + 1, by omega, e.sy⟩
  · rw [i2] at y1
    by_cases q : y = p
    · left; rw [q]; exact ⟨hb.2.1, r.2.2.2.1⟩
    · right
      exact ⟨_, by split <;> omega, (r.ix y0 (by omega) q).sy⟩
/-- sorted rows with the same lives are one -/
theorem rows_uq {f g : Nat → Int} {n m : Int} (h1 : RI f n) (h2 : RI g m) (a : ∀ z, 0 ≤ z → z < n → ∃ y, (0 ≤ y ∧ y < m) ∧ SameE f z g y) (b : ∀ y, 0 ≤ y → y < m → ∃ z, (0 ≤ z ∧ z < n) ∧ SameE f z g y) : n = m ∧ ∀ z, 0 ≤ z → z < n → SameE f z g z := by
  have strict : ∀ {f : Nat → Int} {n : Int}, RI f n → ∀ {x y : Int}, 0 ≤ x → x < y → y < n → nO f x < nO f y ∨ (nO f x = nO f y ∧ bO f x < bO f y) := fun {f n} h {x y} x0 xy yn => by
    have q := h.lt x0 xy yn
    have r := h.2.1 x x0 (by omega)
    omega
  have key : ∀ k : Nat, ∀ z : Int, z = k → (z < n → z < m ∧ SameE f z g z) ∧ (z < m → z < n ∧ SameE f z g z) := by
    intro k
    induction k using Nat.strongRecOn with
    | _ k ih =>
      intro z hz
      have z0 : 0 ≤ z := by omega
      have one : ∀ {f g : Nat → Int} {n m : Int}, RI f n → RI g m → (∀ z, 0 ≤ z → z < n → ∃ y, (0 ≤ y ∧ y < m) ∧ SameE f z g y) → (∀ y, 0 ≤ y → y < m → ∃ z, (0 ≤ z ∧ z < n) ∧ SameE f z g y) → (∀ y : Int, 0 ≤ y → y < z → (y < n → y < m ∧ SameE f y g y) ∧ (y < m → y < n ∧ SameE f y g y)) → z < n → z < m ∧ SameE f z g z := fun {f g n m} h1 h2 a b ih zn => by
        obtain ⟨y, y1, e⟩ := a z z0 zn
        rcases Int.lt_trichotomy y z with q | q | q
        · exfalso
          have e2 := (ih y y1.1 q).2 y1.2
          have s := strict h1 y1.1 q zn
          rw [e2.2.1, e2.2.2.1, e.1, e.2.1] at s
          omega
        · rw [q] at e y1; exact ⟨y1.2, e⟩
        · exfalso
          obtain ⟨u, u1, e2⟩ := b z z0 (by omega)
          have s := strict h2 z0 q y1.2
          rw [← e.1, ← e.2.1, ← e2.1, ← e2.2.1] at s
          rcases Int.lt_trichotomy u z with r | r | r
          · have e3 := (ih u u1.1 r).1 u1.2
            have s2 := strict h2 u1.1 r (by omega)
            rw [← e3.2.1, ← e3.2.2.1, ← e2.1, ← e2.2.1] at s2
            omega
          · rw [r] at s; omega
          · have s2 := strict h1 z0 r u1.2
            omega
      have ih2 : ∀ y : Int, 0 ≤ y → y < z → (y < n → y < m ∧ SameE f y g y) ∧ (y < m → y < n ∧ SameE f y g y) := fun y y0 yz => ih y.toNat (by omega) y (by omega)
      refine ⟨one h1 h2 a b ih2, fun zm => ?_⟩
      have q := one h2 h1 (fun y y0 y1 => by obtain ⟨u, u1, e⟩ := b y y0 y1; exact ⟨u, u1, e.sy⟩) (fun y y0 y1 => by obtain ⟨u, u1, e⟩ := a y y0 y1; exact ⟨u, u1, e.sy⟩) (fun y y0 yz => ⟨fun y1 => by have := (ih2 y y0 yz).2 y1; exact ⟨this.1, this.2.sy⟩, fun y1 => by have := (ih2 y y0 yz).1 y1; exact ⟨this.1, this.2.sy⟩⟩) zm
      exact ⟨q.1, q.2.sy⟩
  have n0 := h1.1; have m0 := h2.1
  refine ⟨?_, fun z z0 z1 => ((key z.toNat z (by omega)).1 z1).2⟩
  rcases Int.lt_trichotomy n m with q | q | q
  · have := ((key n.toNat n (by omega)).2 q).1; omega
  · exact q
  · have := ((key m.toNat m (by omega)).1 q).1; omega
theorem setP_uq {f g f2 g2 : Nat → Int} {n x o b d w n2 m2 : Int} (h : ∀ z, 0 ≤ z → z < n → SameE f z g z) (s1 : SetP f n x o b d w f2 n2) (s2 : SetP g n x o b d w g2 m2) (h1 : RI f2 n2) (h2 : RI g2 m2) : n2 = m2 ∧ ∀ z, 0 ≤ z → z < n2 → SameE f2 z g2 z := by
  have one : ∀ {f g f2 g2 : Nat → Int} {n2 m2 : Int}, (∀ z, 0 ≤ z → z < n → SameE f z g z) → SetP f n x o b d w f2 n2 → SetP g n x o b d w g2 m2 → ∀ z, 0 ≤ z → z < n2 → ∃ y, (0 ≤ y ∧ y < m2) ∧ SameE f2 z g2 y := fun {f g f2 g2 n2 m2} h s1 s2 z z0 z1 => by
    rcases s1.2.2 z z0 z1 with ⟨bd, e⟩ | ⟨u, u1, e⟩
    · obtain ⟨y, y1, e2⟩ := s2.2.1 bd
      exact ⟨y, y1, e.1.trans e2.1.symm, e.2.1.trans e2.2.1.symm, e.2.2.1.trans e2.2.2.1.symm, e.2.2.2.trans e2.2.2.2.symm⟩
    · obtain ⟨y, y1, e2⟩ := s2.1 u u1.1 u1.2.1 u1.2.2
      exact ⟨y, y1, e.sy.tr ((h u u1.1 u1.2.1).tr e2)⟩
  refine rows_uq h1 h2 (one h s1 s2) (fun y y0 y1 => ?_)
  obtain ⟨z, z1, e⟩ := one (fun z z0 z1 => (h z z0 z1).sy) s2 s1 y y0 y1
  exact ⟨z, z1, e.sy⟩
/-! what holds of the class's state between calls -/
def GC (f : Nat → Int) : Prop := RI f (f 1) ∧ 0 ≤ f 0 ∧ f 0 ≤ 64
/-- the row that holds the j-th of the states kept, the latest first -/
def rg (free j : Int) : Nat := 5 + ((free - j + 20) % 20).toNat
theorem rg_bd (free j : Int) : 5 ≤ rg free j ∧ rg free j < 25 := by unfold rg; omega
def CX (hi : HI) : Prop := GC (hi 2) ∧ ((0 ≤ hi 3 1 ∧ hi 3 1 ≤ 20) ∧ 0 ≤ hi 3 2 ∧ hi 3 2 < 20) ∧ (∀ j : Int, 1 ≤ j → j ≤ hi 3 1 → GC (hi (rg (hi 3 2) j))) ∧ ∀ k : Nat, k < 2 → hi 28 k ≠ 0 → GC (hi (26 + k))
theorem CX.ci {hi : HI} (h : CX hi) : CI hi := ⟨h.1.1, h.1.2, h.2.1.1, h.2.1.2⟩
theorem GC.cong {f g : Nat → Int} (h : GC f) (e : ∀ j : Nat, j < 162 → g j = f j) : GC g := by
  refine ⟨?_, ?_⟩
  · rw [e 1 (by decide)]; exact h.1.cong e
  · rw [e 0 (by decide)]; exact h.2
/-- the state put behind the others; a new one -/
theorem RemH.ring {hi h2 : HI} {f2 : Nat → Int} (e : h2 = hput (RemH hi) 2 f2) (hr : (0 ≤ hi 3 1 ∧ hi 3 1 ≤ 20) ∧ 0 ≤ hi 3 2 ∧ hi 3 2 < 20) : h2 2 = f2 ∧ (h2 3 1 = (if hi 3 1 + 1 < 20 then hi 3 1 + 1 else 20) ∧ h2 3 2 = (if hi 3 2 = 19 then 0 else hi 3 2 + 1)) ∧ (∀ i : Nat, i < 162 → h2 (rg (h2 3 2) 1) i = hi 2 i) ∧ (∀ j : Int, 2 ≤ j → j ≤ h2 3 1 → h2 (rg (h2 3 2) j) = hi (rg (hi 3 2) (j - 1))) ∧ h2 26 = hi 26 ∧ h2 27 = hi 27 ∧ h2 28 = hi 28 := by
  have e32 : h2 3 2 = (if hi 3 2 = 19 then 0 else hi 3 2 + 1) := by rw [e, hput_ne _ _ (by decide)]; unfold RemH; rw [hput_same]; rfl
  have e31 : h2 3 1 = (if hi 3 1 + 1 < 20 then hi 3 1 + 1 else 20) := by rw [e, hput_ne _ _ (by decide)]; unfold RemH; rw [hput_same]; rfl
  have far : ∀ p : Nat, p ≠ 2 → p ≠ 3 → p ≠ 5 + (hi 3 2).toNat → h2 p = hi p := fun p p2 p3 p5 => by
    rw [e, hput_ne _ _ p2]; unfold RemH; rw [hput_ne _ _ p3, hput_ne _ _ p5]
  refine ⟨by rw [e, hput_same], ⟨e31, e32⟩, fun i hi0 => ?_, fun j j2 j1 => ?_, far 26 (by decide) (by decide) (by omega), far 27 (by decide) (by decide) (by omega), far 28 (by decide) (by decide) (by omega)⟩
  · have r1 : rg (h2 3 2) 1 = 5 + (hi 3 2).toNat := by unfold rg; rw [e32]; split <;> omega
    rw [r1, e, hput_ne _ _ (by omega)]; unfold RemH; rw [hput_ne _ _ (by omega), hput_same, cpy_in (by omega)]; congr 1; omega
  · have r1 : rg (h2 3 2) j = rg (hi 3 2) (j - 1) := by
      unfold rg; rw [e32]
      rw [e31] at j1
      split <;> split at j1 <;> omega
    rw [r1]
    have b := rg_bd (hi 3 2) (j - 1)
    refine far _ (by omega) (by omega) ?_
    unfold rg
    rw [e31] at j1
    split at j1 <;> omega
theorem CX.push {hi h2 : HI} {f2 : Nat → Int} (h : CX hi) (e : h2 = hput (RemH hi) 2 f2) (g : GC f2) : CX h2 := by
  obtain ⟨r1, ⟨r2, r3⟩, r4, r5, r6, r7, r8⟩ := RemH.ring e h.2.1
  have hb := h.2.1
  refine ⟨by rw [r1]; exact g, ?_, fun j j0 j1 => ?_, fun k k2 k0 => ?_⟩
  · rw [r2, r3]; constructor <;> split <;> omega
  · by_cases q : j = 1
    · rw [q]; exact h.1.cong r4
    · rw [r5 j (by omega) j1]
      refine h.2.2.1 (j - 1) (by omega) ?_
      rw [r2] at j1; split at j1 <;> omega
  · rw [r8] at k0
    have q := h.2.2.2 k k2 k0
    rcases (show k = 0 ∨ k = 1 by omega) with z | z
    · subst z; rw [show 26 + 0 = 26 from rfl, r6]; exact q
    · subst z; rw [show 26 + 1 = 27 from rfl, r7]; exact q
/-- the latest state taken back -/
theorem TakH.ring {hi h2 : HI} (e : h2 = TakH hi) (hr : (0 ≤ hi 3 1 ∧ hi 3 1 ≤ 20) ∧ 0 ≤ hi 3 2 ∧ hi 3 2 < 20) : (∀ i : Nat, i < 162 → h2 2 i = hi (rg (hi 3 2) 1) i) ∧ (h2 3 1 = hi 3 1 - 1 ∧ 0 ≤ h2 3 2 ∧ h2 3 2 < 20) ∧ (∀ j : Int, 1 ≤ j → j ≤ 19 → h2 (rg (h2 3 2) j) = hi (rg (hi 3 2) (j + 1))) ∧ h2 26 = hi 26 ∧ h2 27 = hi 27 ∧ h2 28 = hi 28 := by
  have e32 : h2 3 2 = lastP hi := by rw [e]; unfold TakH; rw [hput_same]; rfl
  have e31 : h2 3 1 = hi 3 1 - 1 := by rw [e]; unfold TakH; rw [hput_same, updI_same]
  have lb : lastP hi = (hi 3 2 - 1 + 20) % 20 := by unfold lastP; split <;> omega
  have far : ∀ p : Nat, p ≠ 2 → p ≠ 3 → h2 p = hi p := fun p p2 p3 => by
    rw [e]; unfold TakH; rw [hput_ne _ _ p3, hput_ne _ _ p2]
  refine ⟨fun i hi0 => ?_, ⟨e31, by rw [e32]; omega, by rw [e32]; omega⟩, fun j j0 j1 => ?_, far 26 (by decide) (by decide), far 27 (by decide) (by decide), far 28 (by decide) (by decide)⟩
  · rw [e]; unfold TakH; rw [hput_ne _ _ (by decide), hput_same, cpy_in (by omega)]
    unfold rg; rw [lb]; congr 1; omega
  · have r1 : rg (h2 3 2) j = rg (hi 3 2) (j + 1) := by unfold rg; rw [e32, lb]; omega
    have b := rg_bd (hi 3 2) (j + 1)
    rw [r1]; exact far _ (by omega) (by omega)
theorem CX.pop {hi h2 : HI} (h : CX hi) (h0 : 0 < hi 3 1) (e : h2 = TakH hi) : CX h2 := by
  obtain ⟨r1, ⟨r2, r3⟩, r5, r6, r7, r8⟩ := TakH.ring e h.2.1
  have hb := h.2.1
  refine ⟨(h.2.2.1 1 (by decide) (by omega)).cong r1, ⟨by omega, r3⟩, fun j j0 j1 => ?_, fun k k2 k0 => ?_⟩
  · rw [r5 j j0 (by omega)]; exact h.2.2.1 (j + 1) (by omega) (by omega)
  · rw [r8] at k0
    have q := h.2.2.2 k k2 k0
    rcases (show k = 0 ∨ k = 1 by omega) with z | z
    · subst z; rw [show 26 + 0 = 26 from rfl, r6]; exact q
    · subst z; rw [show 26 + 1 = 27 from rfl, r7]; exact q
/-- the same state of the class -/
def EqC (hi h2 : HI) : Prop := ∀ i : Nat, 1 ≤ i → i ≤ 28 → h2 i = hi i
theorem EqC.rf {hi : HI} : EqC hi hi := fun _ _ _ => rfl
theorem EqC.tr {a b c : HI} (h : EqC a b) (g : EqC b c) : EqC a c := fun i i0 i1 => (g i i0 i1).trans (h i i0 i1)
theorem CX.eq {hi h2 : HI} (h : CX hi) (e : EqC hi h2) : CX h2 := by
  have b := rg_bd
  have e2 := e 2 (by decide) (by decide)
  have e3 := e 3 (by decide) (by decide)
  have e28 := e 28 (by decide) (by decide)
  refine ⟨by rw [e2]; exact h.1, by rw [e3]; exact h.2.1, fun j j0 j1 => ?_, fun k k2 k0 => ?_⟩
  · rw [e3] at j1 ⊢
    have q := b (hi 3 2) j
    rw [e _ (by omega) (by omega)]; exact h.2.2.1 j j0 j1
  · rw [e28] at k0
    rw [e _ (by omega) (by omega)]; exact h.2.2.2 k k2 k0
