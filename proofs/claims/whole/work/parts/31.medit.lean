/-! the plain form's edits -/
def Rng (f : Nat → Int) (n : Int) : Prop := ∀ z, 0 ≤ z → z < n → (0 ≤ nO f z ∧ nO f z ≤ 999) ∧ (0 ≤ bO f z ∧ bO f z < dO f z ∧ dO f z ≤ 64) ∧ 0 ≤ wO f z ∧ wO f z ≤ 99
def PW (f : Nat → Int) (n : Int) : Prop := ∀ z y, 0 ≤ z → z < n → 0 ≤ y → y < n → z ≠ y → nO f z = nO f y → dO f z ≤ bO f y ∨ dO f y ≤ bO f z
def PWx (f : Nat → Int) (n x : Int) : Prop := ∀ z y, 0 ≤ z → z < n → 0 ≤ y → y < n → z ≠ y → nO f z = nO f y → nO f z ≠ x → dO f z ≤ bO f y ∨ dO f y ≤ bO f z
def SS (f g : Nat → Int) (n : Int) : Prop := (∀ z, 0 ≤ z → z < n → ∃ y, (0 ≤ y ∧ y < n) ∧ SameE f z g y) ∧ ∀ y, 0 ≤ y → y < n → ∃ z, (0 ≤ z ∧ z < n) ∧ SameE f z g y
abbrev kl (f : Nat → Int) (z y : Int) : Prop := nO f z < nO f y ∨ (nO f z = nO f y ∧ bO f z < bO f y)
def SI (f g : Nat → Int) (n : Int) : Prop := g 0 = f 0 ∧ g 1 = f 1 ∧ Rng g n ∧ PW g n ∧ SS f g n
theorem SS.rf {f : Nat → Int} {n : Int} : SS f f n := ⟨fun z z0 z1 => ⟨z, ⟨z0, z1⟩, rfl, rfl, rfl, rfl⟩, fun z z0 z1 => ⟨z, ⟨z0, z1⟩, rfl, rfl, rfl, rfl⟩⟩
theorem SameE.tr {f g h : Nat → Int} {x y z : Int} (a : SameE f x g y) (b : SameE g y h z) : SameE f x h z := ⟨a.1.trans b.1, a.2.1.trans b.2.1, a.2.2.1.trans b.2.2.1, a.2.2.2.trans b.2.2.2⟩
theorem SameE.sy {f g : Nat → Int} {x y : Int} (a : SameE f x g y) : SameE g y f x := ⟨a.1.symm, a.2.1.symm, a.2.2.1.symm, a.2.2.2.symm⟩
theorem SS.tr {f g h : Nat → Int} {n : Int} (a : SS f g n) (b : SS g h n) : SS f h n := by
  refine ⟨fun z z0 z1 => ?_, fun y y0 y1 => ?_⟩
  · obtain ⟨y, hy, e⟩ := a.1 z z0 z1
    obtain ⟨u, hu, e2⟩ := b.1 y hy.1 hy.2
    exact ⟨u, hu, e.tr e2⟩
  · obtain ⟨z, hz, e⟩ := b.2 y y0 y1
    obtain ⟨u, hu, e2⟩ := a.2 z hz.1 hz.2
    exact ⟨u, hu, e2.tr e⟩
/-- two neighbours change places -/
def Sw (f g : Nat → Int) (k : Int) : Prop := g 0 = f 0 ∧ g 1 = f 1 ∧ SameE g k f (k - 1) ∧ SameE g (k - 1) f k ∧ ∀ z, 0 ≤ z → z ≠ k → z ≠ k - 1 → SameE g z f z
def sg (k z : Int) : Int := if z = k then k - 1 else if z = k - 1 then k else z
theorem Sw.ix {f g : Nat → Int} {k z : Int} (h : Sw f g k) (z0 : 0 ≤ z) : SameE g z f (sg k z) := by
  unfold sg
  by_cases q : z = k
  · rw [if_pos q, q]; exact h.2.2.1
  · rw [if_neg q]
    by_cases q2 : z = k - 1
    · rw [if_pos q2, q2]; exact h.2.2.2.1
    · rw [if_neg q2]; exact h.2.2.2.2 z z0 q q2
theorem sg_in {k z n : Int} (h0 : 0 < k) (h1 : k < n) (z0 : 0 ≤ z) (z1 : z < n) : 0 ≤ sg k z ∧ sg k z < n := by
  unfold sg
  by_cases q : z = k
  · rw [if_pos q]; omega
  · rw [if_neg q]
    by_cases q2 : z = k - 1
    · rw [if_pos q2]; omega
    · rw [if_neg q2]; omega
theorem sg_sg {k z : Int} : sg k (sg k z) = z := by unfold sg; (repeat split) <;> omega
theorem SI.sw {f f1 g : Nat → Int} {n k : Int} (h : SI f f1 n) (s : Sw f1 g k) (h0 : 0 < k) (h1 : k < n) : SI f g n := by
  obtain ⟨a0, a1, a2, a3, a4⟩ := h
  refine ⟨s.1.trans a0, s.2.1.trans a1, fun z z0 z1 => ?_, fun z y z0 z1 y0 y1 zy e => ?_, a4.tr ⟨fun z z0 z1 => ?_, fun y y0 y1 => ?_⟩⟩
  · obtain ⟨e1, e2, e3, e4⟩ := s.ix z0
    obtain ⟨q0, q1⟩ := sg_in h0 h1 z0 z1
    rw [e1, e2, e3, e4]; exact a2 _ q0 q1
  · obtain ⟨e1, e2, e3, e4⟩ := s.ix z0
    obtain ⟨q0, q1⟩ := sg_in h0 h1 z0 z1
    obtain ⟨e5, e6, e7, e8⟩ := s.ix y0
    obtain ⟨r0, r1⟩ := sg_in h0 h1 y0 y1
    rw [e1, e5] at e
    rw [e2, e3, e6, e7]
    exact a3 _ _ q0 q1 r0 r1 (fun q => zy (by rw [← sg_sg (k := k) (z := z), q, sg_sg])) e
  · obtain ⟨q0, q1⟩ := sg_in h0 h1 z0 z1
    have := (s.ix q0).sy
    rw [sg_sg] at this
    exact ⟨_, ⟨q0, q1⟩, this⟩
  · obtain ⟨q0, q1⟩ := sg_in h0 h1 y0 y1
    exact ⟨_, ⟨q0, q1⟩, (s.ix y0).sy⟩
def swpI (f : Nat → Int) (k w : Int) (j : Nat) : Int := if 2 + 4 * (k - 1) ≤ (j : Int) ∧ (j : Int) < 2 + 4 * (k - 1) + w then f (j + 4) else if 2 + 4 * k ≤ (j : Int) ∧ (j : Int) < 2 + 4 * k + w then f (j - 4) else f j
theorem swpI_0 {hi : HI} {k w : Int} (h : w = 0) : hi = hput hi 41 (swpI (hi 41) k w) := by
  funext p; unfold hput
  by_cases q : p = 41
  · rw [if_pos q, q]; funext j; unfold swpI; rw [if_neg (by omega), if_neg (by omega)]
  · rw [if_neg q]
theorem swpI_step {hi h h1 h2 : HI} {k w w' i j j2 v u : Int} (e : h = hput hi 41 (swpI (hi 41) k w)) (h0 : 0 < k) (hw : 0 ≤ w ∧ w < 4) (hw' : w' = w + 1) (hi' : i = 2 + 4 * k + w) (hj : j = i - 4) (hj2 : j2 = i - 4) (hv : v = h 41 i.toNat) (hu : u = h 41 j.toNat) (e1 : h1 = hput h 41 (updI (h 41) i.toNat u)) (e2 : h2 = hput h1 41 (updI (h1 41) j2.toNat v)) : h2 = hput hi 41 (swpI (hi 41) k w') := by
  have hj3 : j2 = j := by omega
  subst hj3
  have q : h 41 = swpI (hi 41) k w := by rw [e]; exact hput_same _ _ _
  have q1 : h1 41 = updI (swpI (hi 41) k w) i.toNat u := by rw [e1, q]; exact hput_same _ _ _
  rw [e2, q1, e1, q, e, hput_hput, hput_hput, hu, hv, q]
  congr 1; funext z
  show (if z = j2.toNat then swpI (hi 41) k w i.toNat else if z = i.toNat then swpI (hi 41) k w j2.toNat else swpI (hi 41) k w z) = _
  unfold swpI
  by_cases z1 : z = j2.toNat
  · rw [if_pos z1, if_neg (by omega), if_neg (by omega), if_pos (by omega)]; congr 1; omega
  · rw [if_neg z1]
    by_cases z2 : z = i.toNat
    · rw [if_pos z2, if_neg (by omega), if_neg (by omega), if_neg (by omega), if_pos (by omega)]; congr 1; omega
    · rw [if_neg z2]
      by_cases z3 : 2 + 4 * (k - 1) ≤ (z : Int) ∧ (z : Int) < 2 + 4 * (k - 1) + w
      · rw [if_pos z3, if_pos (by omega)]
      · rw [if_neg z3]
        by_cases z4 : 2 + 4 * k ≤ (z : Int) ∧ (z : Int) < 2 + 4 * k + w
        · rw [if_pos z4, if_neg (by omega), if_pos (by omega)]
        · rw [if_neg z4, if_neg (by omega), if_neg (by omega)]
theorem sw_of {hi h : HI} {k w : Int} (e : h = hput hi 41 (swpI (hi 41) k w)) (hw : w = 4) (h0 : 0 < k) : Sw (hi 41) (h 41) k := by
  have q : h 41 = swpI (hi 41) k w := by rw [e]; exact hput_same _ _ _
  subst hw
  rw [q]
  refine ⟨?_, ?_, ⟨?_, ?_, ?_, ?_⟩, ⟨?_, ?_, ?_, ?_⟩, fun z z0 z1 z2 => ⟨?_, ?_, ?_, ?_⟩⟩
  · unfold swpI; rw [if_neg (by omega), if_neg (by omega)]
  · unfold swpI; rw [if_neg (by omega), if_neg (by omega)]
  · unfold nO swpI; rw [if_neg (by omega), if_pos (by omega)]; congr 1; omega
  · unfold bO swpI; rw [if_neg (by omega), if_pos (by omega)]; congr 1; omega
  · unfold dO swpI; rw [if_neg (by omega), if_pos (by omega)]; congr 1; omega
  · unfold wO swpI; rw [if_neg (by omega), if_pos (by omega)]; congr 1; omega
  · unfold nO swpI; rw [if_pos (by omega)]; congr 1; omega
  · unfold bO swpI; rw [if_pos (by omega)]; congr 1; omega
  · unfold dO swpI; rw [if_pos (by omega)]; congr 1; omega
  · unfold wO swpI; rw [if_pos (by omega)]; congr 1; omega
  · unfold nO swpI; rw [if_neg (by omega), if_neg (by omega)]
  · unfold bO swpI; rw [if_neg (by omega), if_neg (by omega)]
  · unfold dO swpI; rw [if_neg (by omega), if_neg (by omega)]
  · unfold wO swpI; rw [if_neg (by omega), if_neg (by omega)]
abbrev J2 (f : Nat → Int) (i k : Int) : Prop := ∀ z y, 0 ≤ z → z < y → y ≤ i → z ≠ k → y ≠ k → kl f z y
abbrev J3 (f : Nat → Int) (i k : Int) : Prop := ∀ y, k < y → y ≤ i → kl f k y
theorem sw_j2 {f g : Nat → Int} {i k k' : Int} (s : Sw f g k) (h0 : 0 < k) (hk : k' = k - 1) (j2 : J2 f i k) : J2 g i k' := by
  subst hk
  intro z y z0 zy yi zk yk
  obtain ⟨a1, a2, -, -⟩ := s.ix z0
  obtain ⟨b1, b2, -, -⟩ := s.ix (show 0 ≤ y by omega)
  show nO g z < nO g y ∨ (nO g z = nO g y ∧ bO g z < bO g y)
  rw [a1, a2, b1, b2]
  unfold sg
  by_cases q : z = k
  · rw [if_pos q, if_neg (by omega), if_neg (by omega)]; exact j2 (k - 1) y (by omega) (by omega) yi (by omega) (by omega)
  · rw [if_neg q, if_neg zk]
    by_cases q2 : y = k
    · rw [if_pos q2]; exact j2 z (k - 1) z0 (by omega) (by omega) q (by omega)
    · rw [if_neg q2, if_neg yk]; exact j2 z y z0 zy yi q q2
theorem sw_j3 {f g : Nat → Int} {i k k' : Int} (s : Sw f g k) (h0 : 0 < k) (hk : k' = k - 1) (hb : kl f k (k - 1)) (j3 : J3 f i k) : J3 g i k' := by
  subst hk
  intro y ky yi
  obtain ⟨a1, a2, -, -⟩ := s.ix (show 0 ≤ k - 1 by omega)
  obtain ⟨b1, b2, -, -⟩ := s.ix (show 0 ≤ y by omega)
  show nO g (k - 1) < nO g y ∨ (nO g (k - 1) = nO g y ∧ bO g (k - 1) < bO g y)
  rw [a1, a2, b1, b2]
  unfold sg
  rw [if_neg (show k - 1 ≠ k by omega), if_pos rfl]
  by_cases q : y = k
  · rw [if_pos q]; exact hb
  · rw [if_neg q, if_neg (by omega)]; exact j3 y (by omega) yi
theorem sort_out0 {f : Nat → Int} {i i' k : Int} (hk : k = 0) (hi : i' = i + 1) (j2 : J2 f i k) (j3 : J3 f i k) : ∀ z y, 0 ≤ z → z < y → y < i' → kl f z y := by
  subst hk
  intro z y z0 zy yi
  by_cases q : z = 0
  · rw [q]; exact j3 y (by omega) (by omega)
  · exact j2 z y z0 zy (by omega) q (by omega)
theorem kl_of {f : Nat → Int} {n z y : Int} (hr : Rng f n) (hp : PW f n) (z0 : 0 ≤ z) (z1 : z < n) (y0 : 0 ≤ y) (y1 : y < n) (hzy : z ≠ y) (hb : ¬ kl f y z) : kl f z y := by
  have r1 := hr z z0 z1
  have r2 := hr y y0 y1
  have p := hp z y z0 z1 y0 y1 hzy
  by_cases e : nO f z = nO f y
  · have := p e; right; omega
  · left; omega
theorem kl_tr {f : Nat → Int} {x y z : Int} (a : kl f x y) (b : kl f y z) : kl f x z := by
  rcases a with a | a <;> rcases b with b | b
  · left; omega
  · left; omega
  · left; omega
  · right; omega
theorem sort_out1 {f : Nat → Int} {n i i' k : Int} (hr : Rng f n) (hp : PW f n) (h0 : 0 < k) (hkn : k < n) (hki : k ≤ i) (hi : i' = i + 1) (hb : ¬ kl f k (k - 1)) (j2 : J2 f i k) (j3 : J3 f i k) : ∀ z y, 0 ≤ z → z < y → y < i' → kl f z y := by
  have hk1 : kl f (k - 1) k := kl_of hr hp (by omega) (by omega) (by omega) hkn (by omega) hb
  intro z y z0 zy yi
  by_cases q : z = k
  · rw [q]; exact j3 y (by omega) (by omega)
  · by_cases q2 : y = k
    · rw [q2]
      by_cases q3 : z = k - 1
      · rw [q3]; exact hk1
      · exact kl_tr (j2 z (k - 1) z0 (by omega) (by omega) q (by omega)) hk1
    · exact j2 z y z0 zy (by omega) q q2
theorem sort_fin {f g : Nat → Int} {n i : Int} (hn : 0 ≤ n ∧ n ≤ 40) (h : SI f g n) (hi : n ≤ i) (hs : ∀ z y, 0 ≤ z → z < y → y < i → kl g z y) : SI f g n ∧ RI g n := by
  refine ⟨h, hn, h.2.2.1, fun z z0 z1 => ?_⟩
  have q := hs z (z + 1) z0 (by omega) (by omega)
  have p := h.2.2.2.1 z (z + 1) z0 (by omega) (by omega) (by omega) (by omega)
  have r1 := h.2.2.1 z z0 (by omega)
  have r2 := h.2.2.1 (z + 1) (by omega) (by omega)
  rcases q with q | q
  · exact Or.inl q
  · right; have := p q.1; exact ⟨q.1, by omega⟩
/-- how many states are kept when the latest is put behind them; what is left of them -/
def eN (e : Int) : Int := if e = 20 then 19 else e
def pN (e : Int) (f : Nat → Int) : Nat → Int := if e = 20 then cpyI f f 166 0 3154 else f
theorem updI_updI (f : Nat → Int) (i : Nat) (x y : Int) : updI (updI f i x) i y = updI f i y := by
  funext z; unfold updI; split <;> rfl
theorem cpyI_stepL {hi h h2 : HI} {p : Nat} {n n' v j : Int} {a : Nat} (e : h = hput hi p (cpyI (hi p) (hi p) a 0 n.toNat)) (h0 : 0 ≤ n) (hn : n' = n + 1) (hj : j = a + n) (hv : v = h p j.toNat) (e2 : h2 = hput h p (updI (h p) n.toNat v)) : h2 = hput hi p (cpyI (hi p) (hi p) a 0 n'.toNat) := by
  have q : h p = cpyI (hi p) (hi p) a 0 n.toNat := by rw [e]; exact hput_same _ _ _
  rw [e2, hv, q, e, hput_hput]
  congr 1; funext z
  show (if z = n.toNat then _ else _) = _
  unfold cpyI
  by_cases q2 : z = n.toNat
  · rw [if_pos q2, if_neg (by omega), if_pos (by omega)]; congr 1; omega
  · rw [if_neg q2]
    by_cases q3 : 0 ≤ z ∧ z < 0 + n.toNat
    · rw [if_pos q3, if_pos (by omega)]
    · rw [if_neg q3, if_neg (by omega)]
def Bec (hi h2 : HI) : Prop := h2 39 = updI (hi 39) 6 (eN (hi 39 6) + 1) ∧ h2 40 = cpyI (hi 41) (hi 40) 0 0 166 ∧ h2 42 = cpyI (hi 40) (pN (hi 39 6) (hi 42)) 0 (166 * eN (hi 39 6)).toNat 166
theorem bec_B {hi h5 h8 h9 : HI} {v4 v7 : Int} (e20 : ¬ hi 39 6 = 20) (w67 : h5 = hput hi 42 (cpyI (hi 40) (hi 42) (Int.toNat 0) v4.toNat 166)) (w77 : h8 = hput h5 39 (updI (h5 39) 6 v7)) (w90 : h9 = hput h8 40 (cpyI (hi 41) (hi 40) (Int.toNat 0) (Int.toNat 0) 166)) (h4 : v4 = 166 * hi 39 6) (h7 : v7 = hi 39 6 + 1) : Bec hi h9 := by
  unfold Bec eN pN
  rw [if_neg e20, if_neg e20, ← h4, ← h7]
  refine ⟨?_, ?_, ?_⟩
  · rw [w90, hput_ne _ _ (by decide), w77, hput_same, w67, hput_ne _ _ (by decide)]
  · rw [w90, hput_same]; rfl
  · rw [w90, hput_ne _ _ (by decide), w77, hput_ne _ _ (by decide), w67, hput_same]; rfl
theorem bec_A {hi hb h3 h5 h8 h9 : HI} {k v3 v4 v7 : Int} (e20 : hi 39 6 = 20) (hk : k = 3154) (i1 : hb = hput hi 42 (cpyI (hi 42) (hi 42) 166 0 k.toNat)) (w47 : h3 = hput hb 39 (updI (hb 39) 6 v3)) (w67 : h5 = hput h3 42 (cpyI (hi 40) (hb 42) (Int.toNat 0) v4.toNat 166)) (w77 : h8 = hput h5 39 (updI (h5 39) 6 v7)) (w90 : h9 = hput h8 40 (cpyI (hi 41) (hi 40) (Int.toNat 0) (Int.toNat 0) 166)) (h3' : v3 = 19) (h4 : v4 = 166 * 19) (h7 : v7 = 19 + 1) : Bec hi h9 := by
  unfold Bec eN pN
  rw [if_pos e20, if_pos e20, ← h4, ← h7]
  subst hk
  refine ⟨?_, ?_, ?_⟩
  · rw [w90, hput_ne _ _ (by decide), w77, hput_same, w67, hput_ne _ _ (by decide), w47, hput_same, updI_updI, i1, hput_ne _ _ (by decide)]
  · rw [w90, hput_same]; rfl
  · rw [w90, hput_ne _ _ (by decide), w77, hput_ne _ _ (by decide), w67, hput_same, i1, hput_same]; rfl
abbrev kX8_sorts : Kd := (cX8_sorts, .code yX8_sorts cX8_sorts 6 none :: wsL_law0, rmL 3, RX8, none, 6)
theorem ct_X8_sorts : Ct kX8_sorts yX8_sorts (fun a hi Q => a = [AR 40] ∧ ((0 ≤ hi 41 0 ∧ hi 41 0 ≤ 40) ∧ Rng (hi 41) (hi 41 0) ∧ PW (hi 41) (hi 41 0)) ∧ ∀ h2 : HI, (Fr [41] hi h2 ∧ (SI (hi 41) (h2 41) (hi 41 0) ∧ RI (h2 41) (hi 41 0))) → Q AU h2) := by
  refine Ct.of (ws' := _) (by decide +kernel) rfl rfl ?_
  intro a hi Q hT
  obtain ⟨rfl, hpre, hQ⟩ := hT
  refine ⟨Nat.le_of_ble_eq_true rfl, ?_⟩
  show Z kX8_sorts Q 0 [(0, AR 40)] [] hi
  refine z_iconst (pc := 0) (v := 1) dX8_sorts_0 rfl ?_
  refine z_istore_n (pc := 1) (lv' := [(1, AI 1), (0, AR 40)]) dX8_sorts_1 rfl (by decide) rfl ?_
  have J2 : ∀ (N : Nat) (i : Int) (hk : HI), (1 ≤ i ∧ i ≤ 41) → (SI (hi 41) (hk 41) (hi 41 0)) → (∀ z y, 0 ≤ z → z < y → y < i → kl (hk 41) z y) → (Fr [41] hi hk) → ((hi 41 0 - i).toNat) < N → Z kX8_sorts Q 2 [(1, AI i), (0, AR 40)] [] hk := by
    intro N
    induction N with
    | zero => intro i hk _ _ _ _ _; exact absurd (by assumption) (Nat.not_lt_zero _)
    | succ N ih2 =>
      intro i hk i0 i1 i2 frlhk hm2
      have s0 := i1.1
      refine z_iload_n (pc := 2) dX8_sorts_2 rfl 0 rfl ?_
      refine z_aload_n (pc := 3) (x := 40) dX8_sorts_3 rfl 1 rfl ?_
      refine z_getR (pc := 4) (pl := 39) (f := 2) (ci := 7) (C := RX8) (T := TX8) (N := 33) hu_X8 (by decide) rfl rfl (by decide) rfl (List.mem_cons_of_mem _ (iw5 _ (List.mem_of_getElem? (i := 6) rfl))) rfl dX8_sorts_4 ?_
      refine z_iconst (pc := 7) (v := 0) dX8_sorts_7 rfl ?_
      refine z_iald (pc := 8) (pl := 41) (by decide) rfl (by decide) (by decide) (by decide) (by decide) dX8_sorts_8 (fun v1 ev1 rv1 => ?_)
      replace ev1 : v1 = hk 41 0 := ev1
      refine z_icmp_ge (pc := 9) (tgt := 99) dX8_sorts_9 (by decide) ⟨by omega, by omega⟩ ⟨by omega, by omega⟩ (fun c2 => ?_) (fun c2 => ?_)
      · refine z_vret (pc := 99) rfl dX8_sorts_99 ?_
        exact hQ hk ⟨frlhk, sort_fin hpre.1 i1 (by omega) i2⟩
      · refine z_iload_n (pc := 12) dX8_sorts_12 rfl 0 rfl ?_
        refine z_istore_n (pc := 13) (lv' := [(2, AI i), (1, AI i), (0, AR 40)]) dX8_sorts_13 rfl (by decide) rfl ?_
        have J14 : ∀ (N : Nat) (k : Int) (hm : HI), (0 ≤ k ∧ k ≤ i) → (SI (hi 41) (hm 41) (hi 41 0)) → (J2 (hm 41) i k) → (J3 (hm 41) i k) → (Fr [41] hi hm) → (k.toNat) < N → Z kX8_sorts Q 14 [(2, AI k), (1, AI i), (0, AR 40)] [] hm := by
          intro N
          induction N with
          | zero => intro k hm _ _ _ _ _ _; exact absurd (by assumption) (Nat.not_lt_zero _)
          | succ N ih14 =>
            intro k hm j0 j1 j2 j3 frlhm hm14
            refine z_iload_n (pc := 14) dX8_sorts_14 rfl 0 rfl ?_
            refine z_if_le (pc := 15) (tgt := 93) dX8_sorts_15 (by decide) ⟨by omega, by omega⟩ (fun c3 => ?_) (fun c3 => ?_)
            · refine z_iinc (pc := 93) (j := 1) (w := fun q => (1, AI q) :: [(2, AI k), (0, AR 40)]) dX8_sorts_93 rfl (by decide) (fun _ => rfl) (fun v4 ev4 => ?_)
              refine z_goto (pc := 96) (tgt := 2) dX8_sorts_96 (by decide) ?_
              refine z_sub (lv' := [(1, AI v4), (0, AR 40)]) [0, 2] rfl ?_
              exact ih2 v4 hm (by omega) (j1) (by first | exact sort_out0 (by omega) (by omega) j2 j3 | exact sort_out1 j1.2.2.1 j1.2.2.2.1 (by omega) (by omega) (by omega) (by omega) (by omega) j2 j3) (frlhm) (by omega)
            · refine z_aload_n (pc := 18) (x := 40) dX8_sorts_18 rfl 2 rfl ?_
              refine z_iload_n (pc := 19) dX8_sorts_19 rfl 0 rfl ?_
              refine z_iconst (pc := 20) (v := 1) dX8_sorts_20 rfl ?_
              refine z_isub (pc := 21) dX8_sorts_21 (fun v5 ev5 => ?_)
              refine z_iload_n (pc := 22) dX8_sorts_22 rfl 0 rfl ?_
              refine z_callV (pc := 23) (kc := kX8_isBehind) (n := 2) (pl := 39) (ci := 7) (C := RX8) (As := [AI v5, AI k]) (stk := []) ct_X8_isBehind (gdV rfl rfl (iw11 _ (List.mem_of_getElem? (i := 0) rfl)) (iw11 _ (List.mem_of_getElem? (i := 1) rfl)) (iw11 _ (List.mem_of_getElem? (i := 2) rfl)) (iw1 _ (List.mem_of_getElem? (i := 5) rfl)) (iw11 _ (List.mem_of_getElem? (i := 3) rfl))) rfl ⟨rfl, rfl⟩ (by decide +kernel) ⟨by decide, by decide⟩ (by decide) rfl rfl dX8_sorts_23 rfl rfl (Nat.le_of_ble_eq_true rfl) ?_
              refine ⟨_, _, rfl, ⟨by omega, (j1.2.2.1 v5 (by omega) (by omega)).1, (j1.2.2.1 k (by omega) (by omega)).1⟩, fun v6 ev6 => ?_⟩
              rw [show v5 = k - 1 by omega] at ev6
              refine z_if_eq (pc := 26) (tgt := 93) dX8_sorts_26 (by decide) ⟨by omega, by omega⟩ (fun c7 => ?_) (fun c7 => ?_)
              · refine z_iinc (pc := 93) (j := 1) (w := fun q => (1, AI q) :: [(2, AI k), (0, AR 40)]) dX8_sorts_93 rfl (by decide) (fun _ => rfl) (fun v8 ev8 => ?_)
                refine z_goto (pc := 96) (tgt := 2) dX8_sorts_96 (by decide) ?_
                refine z_sub (lv' := [(1, AI v8), (0, AR 40)]) [0, 2] rfl ?_
                exact ih2 v8 hm (by omega) (j1) (by first | exact sort_out0 (by omega) (by omega) j2 j3 | exact sort_out1 j1.2.2.1 j1.2.2.2.1 (by omega) (by omega) (by omega) (by omega) (by omega) j2 j3) (frlhm) (by omega)
              · refine z_iconst (pc := 29) (v := 0) dX8_sorts_29 rfl ?_
                refine z_istore_n (pc := 30) (lv' := [(3, AI 0), (2, AI k), (1, AI i), (0, AR 40)]) dX8_sorts_30 rfl (by decide) rfl ?_
                have J31 : ∀ (N : Nat) (w : Int) (hw : HI), (0 ≤ w ∧ w ≤ 4) → (hw = hput hm 41 (swpI (hm 41) k w)) → (Fr [41] hi hw) → ((4 - w).toNat) < N → Z kX8_sorts Q 31 [(3, AI w), (2, AI k), (1, AI i), (0, AR 40)] [] hw := by
                  intro N
                  induction N with
                  | zero => intro w hw _ _ _ _; exact absurd (by assumption) (Nat.not_lt_zero _)
                  | succ N ih31 =>
                    intro w hw l0 l1 frlhw hm31
                    refine z_iload_n (pc := 31) dX8_sorts_31 rfl 0 rfl ?_
                    refine z_iconst (pc := 32) (v := 4) dX8_sorts_32 rfl ?_
                    refine z_icmp_ge (pc := 33) (tgt := 87) dX8_sorts_33 (by decide) ⟨by omega, by omega⟩ ⟨by decide, by decide⟩ (fun c9 => ?_) (fun c9 => ?_)
                    · refine z_iinc (pc := 87) (j := 1) (w := fun q => (2, AI q) :: [(3, AI w), (1, AI i), (0, AR 40)]) dX8_sorts_87 rfl (by decide) (fun _ => rfl) (fun v10 ev10 => ?_)
                      refine z_goto (pc := 90) (tgt := 14) dX8_sorts_90 (by decide) ?_
                      refine z_sub (lv' := [(2, AI v10), (1, AI i), (0, AR 40)]) [0, 2, 3] rfl ?_
                      exact ih14 v10 hw (by omega) (SI.sw j1 (sw_of l1 (by omega) (by omega)) (by omega) (by omega)) (sw_j2 (sw_of l1 (by omega) (by omega)) (by omega) (by omega) j2) (sw_j3 (sw_of l1 (by omega) (by omega)) (by omega) (by omega) (by omega) j3) (frlhw) (by omega)
                    · refine z_iconst (pc := 36) (v := 2) dX8_sorts_36 rfl ?_
                      refine z_iconst (pc := 37) (v := 4) dX8_sorts_37 rfl ?_
                      refine z_iload_n (pc := 38) dX8_sorts_38 rfl 1 rfl ?_
                      refine z_imul (pc := 39) dX8_sorts_39 (fun v11 ev11 => ?_)
                      refine z_iadd (pc := 40) dX8_sorts_40 (fun v12 ev12 => ?_)
                      refine z_iload_n (pc := 41) dX8_sorts_41 rfl 0 rfl ?_
                      refine z_iadd (pc := 42) dX8_sorts_42 (fun v13 ev13 => ?_)
                      refine z_istore (pc := 43) (lv' := [(4, AI v13), (3, AI w), (2, AI k), (1, AI i), (0, AR 40)]) dX8_sorts_43 (by decide) rfl ?_
                      refine z_aload_n (pc := 45) (x := 40) dX8_sorts_45 rfl 4 rfl ?_
                      refine z_getR (pc := 46) (pl := 39) (f := 2) (ci := 7) (C := RX8) (T := TX8) (N := 33) hu_X8 (by decide) rfl rfl (by decide) rfl (List.mem_cons_of_mem _ (iw5 _ (List.mem_of_getElem? (i := 6) rfl))) rfl dX8_sorts_46 ?_
                      refine z_iload (pc := 49) dX8_sorts_49 0 rfl ?_
                      refine z_iald (pc := 51) (pl := 41) (by decide) rfl (by decide) (by decide) (by omega) (by omega) dX8_sorts_51 (fun v14 ev14 rv14 => ?_)
                      have w51 := ev14
                      refine z_istore (pc := 52) (lv' := [(5, AI v14), (4, AI v13), (3, AI w), (2, AI k), (1, AI i), (0, AR 40)]) dX8_sorts_52 (by decide) rfl ?_
                      refine z_aload_n (pc := 54) (x := 40) dX8_sorts_54 rfl 5 rfl ?_
                      refine z_getR (pc := 55) (pl := 39) (f := 2) (ci := 7) (C := RX8) (T := TX8) (N := 33) hu_X8 (by decide) rfl rfl (by decide) rfl (List.mem_cons_of_mem _ (iw5 _ (List.mem_of_getElem? (i := 6) rfl))) rfl dX8_sorts_55 ?_
                      refine z_iload (pc := 58) dX8_sorts_58 1 rfl ?_
                      refine z_aload_n (pc := 60) (x := 40) dX8_sorts_60 rfl 5 rfl ?_
                      refine z_getR (pc := 61) (pl := 39) (f := 2) (ci := 7) (C := RX8) (T := TX8) (N := 33) hu_X8 (by decide) rfl rfl (by decide) rfl (List.mem_cons_of_mem _ (iw5 _ (List.mem_of_getElem? (i := 6) rfl))) rfl dX8_sorts_61 ?_
                      refine z_iload (pc := 64) dX8_sorts_64 1 rfl ?_
                      refine z_iconst (pc := 66) (v := 4) dX8_sorts_66 rfl ?_
                      refine z_isub (pc := 67) dX8_sorts_67 (fun v15 ev15 => ?_)
                      refine z_iald (pc := 68) (pl := 41) (by decide) rfl (by decide) (by decide) (by omega) (by omega) dX8_sorts_68 (fun v16 ev16 rv16 => ?_)
                      have w68 := ev16
                      refine z_iast (pc := 69) (pl := 41) (by decide) rfl (by decide) (by omega) (by omega) ⟨by omega, by omega⟩ dX8_sorts_69 (fun h17 eh17 => ?_)
                      have frh17 : Fr [41] hi h17 := (Fr.put frlhw eh17 (by decide))
                      have w69 := eh17
                      refine z_aload_n (pc := 70) (x := 40) dX8_sorts_70 rfl 5 rfl ?_
                      refine z_getR (pc := 71) (pl := 39) (f := 2) (ci := 7) (C := RX8) (T := TX8) (N := 33) hu_X8 (by decide) rfl rfl (by decide) rfl (List.mem_cons_of_mem _ (iw5 _ (List.mem_of_getElem? (i := 6) rfl))) rfl dX8_sorts_71 ?_
                      refine z_iload (pc := 74) dX8_sorts_74 1 rfl ?_
                      refine z_iconst (pc := 76) (v := 4) dX8_sorts_76 rfl ?_
                      refine z_isub (pc := 77) dX8_sorts_77 (fun v18 ev18 => ?_)
                      refine z_iload (pc := 78) dX8_sorts_78 0 rfl ?_
                      refine z_iast (pc := 80) (pl := 41) (by decide) rfl (by decide) (by omega) (by omega) ⟨by omega, by omega⟩ dX8_sorts_80 (fun h19 eh19 => ?_)
                      have frh19 : Fr [41] hi h19 := (Fr.put frh17 eh19 (by decide))
                      refine z_iinc (pc := 81) (j := 2) (w := fun q => (3, AI q) :: [(5, AI v14), (4, AI v13), (2, AI k), (1, AI i), (0, AR 40)]) dX8_sorts_81 rfl (by decide) (fun _ => rfl) (fun v20 ev20 => ?_)
                      refine z_goto (pc := 84) (tgt := 31) dX8_sorts_84 (by decide) ?_
                      refine z_sub (lv' := [(3, AI v20), (2, AI k), (1, AI i), (0, AR 40)]) [0, 3, 4, 5] rfl ?_
                      exact ih31 v20 h19 (by omega) (swpI_step l1 (by omega) (by omega) (by omega) (by omega) (by omega) (by omega) w51 w68 w69 eh19) (frh19) (by omega)
                exact J31 _ 0 hm (by omega) (swpI_0 rfl) (frlhm) (Nat.lt_succ_self _)
        exact J14 _ i hk (by omega) (i1) (fun z y z0 z1 z2 z3 z4 => i2 z y z0 z1 (by omega)) (fun y y0 y1 => by omega) (frlhk) (Nat.lt_succ_self _)
  exact J2 _ 1 hi (by omega) (⟨rfl, rfl, hpre.2.1, hpre.2.2, SS.rf⟩) (fun z y z0 z1 z2 => by omega) ((Fr.rf)) (Nat.lt_succ_self _)

abbrev kX8_becomes : Kd := (cX8_becomes, .code yX8_becomes cX8_becomes 2 none :: wsL_law0, rmL 2, RX8, none, 2)
theorem ct_X8_becomes : Ct kX8_becomes yX8_becomes (fun a hi Q => a = [AR 40] ∧ (0 ≤ hi 39 6 ∧ hi 39 6 ≤ 20) ∧ ∀ h2 : HI, (Fr [39, 40, 42] hi h2 ∧ (Bec hi h2)) → Q AU h2) := by
  refine Ct.of (ws' := _) (by decide +kernel) rfl rfl ?_
  intro a hi Q hT
  obtain ⟨rfl, hpre, hQ⟩ := hT
  refine ⟨Nat.le_of_ble_eq_true rfl, ?_⟩
  show Z kX8_becomes Q 0 [(0, AR 40)] [] hi
  refine z_aload_n (pc := 0) (x := 40) dX8_becomes_0 rfl 0 rfl ?_
  refine z_getI (pc := 1) (pl := 39) (f := 6) (ci := 7) (C := RX8) (T := TX8) (N := 33) hu_X8 (by decide) rfl rfl (by decide) rfl (List.mem_cons_of_mem _ (iw11 _ (List.mem_of_getElem? (i := 8) rfl))) rfl (by decide) dX8_becomes_1 (fun v1 ev1 rv1 => ?_)
  refine z_bipush (pc := 4) (v := 20) dX8_becomes_4 (by decide +kernel) ?_
  refine z_icmp_ne (pc := 6) (tgt := 50) dX8_becomes_6 (by decide) ⟨by omega, by omega⟩ ⟨by decide, by decide⟩ (fun c2 => ?_) (fun c2 => ?_)
  · refine z_aload_n (pc := 50) (x := 40) dX8_becomes_50 rfl 0 rfl ?_
    refine z_getR (pc := 51) (pl := 39) (f := 1) (ci := 7) (C := RX8) (T := TX8) (N := 33) hu_X8 (by decide) rfl rfl (by decide) rfl (List.mem_cons_of_mem _ (iw5 _ (List.mem_of_getElem? (i := 5) rfl))) rfl dX8_becomes_51 ?_
    refine z_iconst (pc := 54) (v := 0) dX8_becomes_54 rfl ?_
    refine z_aload_n (pc := 55) (x := 40) dX8_becomes_55 rfl 0 rfl ?_
    refine z_getR (pc := 56) (pl := 39) (f := 3) (ci := 7) (C := RX8) (T := TX8) (N := 33) hu_X8 (by decide) rfl rfl (by decide) rfl (List.mem_cons_of_mem _ (iw5 _ (List.mem_of_getElem? (i := 7) rfl))) rfl dX8_becomes_56 ?_
    refine z_sipush (pc := 59) (v := 166) dX8_becomes_59 (by decide +kernel) ?_
    refine z_aload_n (pc := 62) (x := 40) dX8_becomes_62 rfl 0 rfl ?_
    refine z_getI (pc := 63) (pl := 39) (f := 6) (ci := 7) (C := RX8) (T := TX8) (N := 33) hu_X8 (by decide) rfl rfl (by decide) rfl (List.mem_cons_of_mem _ (iw11 _ (List.mem_of_getElem? (i := 8) rfl))) rfl (by decide) dX8_becomes_63 (fun v3 ev3 rv3 => ?_)
    refine z_imul (pc := 66) dX8_becomes_66 (fun v4 ev4 => ?_)
    refine z_callS (pc := 67) (kc := kX8_copies) (n := 4) (As := [AR 41, AI 0, AR 43, AI v4]) (stk := []) ct_X8_copies_np (gdS rfl rfl (iw9 _ (List.mem_of_getElem? (i := 16) rfl)) (iw9 _ (List.mem_of_getElem? (i := 17) rfl)) (iw1 _ (List.mem_of_getElem? (i := 5) rfl)) (iw9 _ (List.mem_of_getElem? (i := 18) rfl))) rfl ⟨rfl, rfl⟩ (by decide +kernel) ⟨by decide, by decide⟩ dX8_becomes_67 rfl rfl (Nat.le_of_ble_eq_true rfl) ?_
    refine ⟨_, _, rfl, by omega, fun h5 eh5 => ?_⟩
    have frh5 : Fr [39, 40, 42] hi h5 := (Fr.call (Fr.rf) eh5.1 (by decide))
    have w67 := eh5.2
    refine z_aload_n (pc := 70) (x := 40) dX8_becomes_70 rfl 0 rfl ?_
    refine z_dup (pc := 71) dX8_becomes_71 rfl ?_
    refine z_getI (pc := 72) (pl := 39) (f := 6) (ci := 7) (C := RX8) (T := TX8) (N := 33) hu_X8 (by decide) rfl rfl (by decide) rfl (List.mem_cons_of_mem _ (iw11 _ (List.mem_of_getElem? (i := 8) rfl))) rfl (by decide) dX8_becomes_72 (fun v6 ev6 rv6 => ?_)
    rw [(congrFun (eh5.1 39 (by decide)) 6 : h5 39 6 = hi 39 6)] at ev6
    refine z_iconst (pc := 75) (v := 1) dX8_becomes_75 rfl ?_
    refine z_iadd (pc := 76) dX8_becomes_76 (fun v7 ev7 => ?_)
    refine z_putI (pc := 77) (pl := 39) (f := 6) (ci := 7) (C := RX8) (T := TX8) (N := 33) hu_X8 tyX8_ok nmX8 (by decide) rfl rfl (by decide) rfl (List.mem_cons_of_mem _ (iw11 _ (List.mem_of_getElem? (i := 8) rfl))) rfl rfl (ty := .int) (by decide +kernel) rfl rfl ⟨by omega, by omega⟩ dX8_becomes_77 (fun h8 eh8 => ?_)
    have frh8 : Fr [39, 40, 42] hi h8 := (Fr.put frh5 eh8 (by decide))
    have w77 := eh8
    refine z_aload_n (pc := 80) (x := 40) dX8_becomes_80 rfl 0 rfl ?_
    refine z_getR (pc := 81) (pl := 39) (f := 2) (ci := 7) (C := RX8) (T := TX8) (N := 33) hu_X8 (by decide) rfl rfl (by decide) rfl (List.mem_cons_of_mem _ (iw5 _ (List.mem_of_getElem? (i := 6) rfl))) rfl dX8_becomes_81 ?_
    refine z_iconst (pc := 84) (v := 0) dX8_becomes_84 rfl ?_
    refine z_aload_n (pc := 85) (x := 40) dX8_becomes_85 rfl 0 rfl ?_
    refine z_getR (pc := 86) (pl := 39) (f := 1) (ci := 7) (C := RX8) (T := TX8) (N := 33) hu_X8 (by decide) rfl rfl (by decide) rfl (List.mem_cons_of_mem _ (iw5 _ (List.mem_of_getElem? (i := 5) rfl))) rfl dX8_becomes_86 ?_
    refine z_iconst (pc := 89) (v := 0) dX8_becomes_89 rfl ?_
    refine z_callS (pc := 90) (kc := kX8_copies) (n := 4) (As := [AR 42, AI 0, AR 41, AI 0]) (stk := []) ct_X8_copies_tn (gdS rfl rfl (iw9 _ (List.mem_of_getElem? (i := 16) rfl)) (iw9 _ (List.mem_of_getElem? (i := 17) rfl)) (iw1 _ (List.mem_of_getElem? (i := 5) rfl)) (iw9 _ (List.mem_of_getElem? (i := 18) rfl))) rfl ⟨rfl, rfl⟩ (by decide +kernel) ⟨by decide, by decide⟩ dX8_becomes_90 rfl rfl (Nat.le_of_ble_eq_true rfl) ?_
    refine ⟨_, _, rfl, by omega, fun h9 eh9 => ?_⟩
    have frh9 : Fr [39, 40, 42] hi h9 := (Fr.call frh8 eh9.1 (by decide))
    try rw [(by rw [eh8]; rfl : h8 41 = h5 41), (eh5.1 41 (by decide) : h5 41 = hi 41)] at eh9
    try rw [(by rw [eh8]; rfl : h8 40 = h5 40), (eh5.1 40 (by decide) : h5 40 = hi 40)] at eh9
    have w90 := eh9.2
    refine z_vret (pc := 93) rfl dX8_becomes_93 ?_
    exact hQ h9 ⟨frh9, by first | exact bec_B (by omega) w67 w77 w90 (by omega) (by omega) | exact bec_A (by omega) (by omega) i1 w47 w67 w77 w90 (by omega) (by omega) (by omega)⟩
  · refine z_iconst (pc := 9) (v := 0) dX8_becomes_9 rfl ?_
    refine z_istore_n (pc := 10) (lv' := [(1, AI 0), (0, AR 40)]) dX8_becomes_10 rfl (by decide) rfl ?_
    have J11 : ∀ (N : Nat) (k : Int) (hb : HI), (0 ≤ k ∧ k ≤ 3154) → (hb = hput hi 42 (cpyI (hi 42) (hi 42) 166 0 k.toNat)) → (Fr [39, 40, 42] hi hb) → ((3154 - k).toNat) < N → Z kX8_becomes Q 11 [(1, AI k), (0, AR 40)] [] hb := by
      intro N
      induction N with
      | zero => intro k hb _ _ _ _; exact absurd (by assumption) (Nat.not_lt_zero _)
      | succ N ih11 =>
        intro k hb i0 i1 frlhb hm11
        have m39 : hb 39 = hi 39 := by rw [i1]; rfl
        have m40 : hb 40 = hi 40 := by rw [i1]; rfl
        refine z_iload_n (pc := 11) dX8_becomes_11 rfl 0 rfl ?_
        refine z_sipush (pc := 12) (v := 3154) dX8_becomes_12 (by decide +kernel) ?_
        refine z_icmp_ge (pc := 15) (tgt := 40) dX8_becomes_15 (by decide) ⟨by omega, by omega⟩ ⟨by decide, by decide⟩ (fun c10 => ?_) (fun c10 => ?_)
        · refine z_aload_n (pc := 40) (x := 40) dX8_becomes_40 rfl 1 rfl ?_
          refine z_dup (pc := 41) dX8_becomes_41 rfl ?_
          refine z_getI (pc := 42) (pl := 39) (f := 6) (ci := 7) (C := RX8) (T := TX8) (N := 33) hu_X8 (by decide) rfl rfl (by decide) rfl (List.mem_cons_of_mem _ (iw11 _ (List.mem_of_getElem? (i := 8) rfl))) rfl (by decide) dX8_becomes_42 (fun v11 ev11 rv11 => ?_)
          rw [(congrFun m39 6 : hb 39 6 = hi 39 6)] at ev11
          refine z_iconst (pc := 45) (v := 1) dX8_becomes_45 rfl ?_
          refine z_isub (pc := 46) dX8_becomes_46 (fun v12 ev12 => ?_)
          refine z_putI (pc := 47) (pl := 39) (f := 6) (ci := 7) (C := RX8) (T := TX8) (N := 33) hu_X8 tyX8_ok nmX8 (by decide) rfl rfl (by decide) rfl (List.mem_cons_of_mem _ (iw11 _ (List.mem_of_getElem? (i := 8) rfl))) rfl rfl (ty := .int) (by decide +kernel) rfl rfl ⟨by omega, by omega⟩ dX8_becomes_47 (fun h13 eh13 => ?_)
          have frh13 : Fr [39, 40, 42] hi h13 := (Fr.put frlhb eh13 (by decide))
          have w47 := eh13
          refine z_aload_n (pc := 50) (x := 40) dX8_becomes_50 rfl 1 rfl ?_
          refine z_getR (pc := 51) (pl := 39) (f := 1) (ci := 7) (C := RX8) (T := TX8) (N := 33) hu_X8 (by decide) rfl rfl (by decide) rfl (List.mem_cons_of_mem _ (iw5 _ (List.mem_of_getElem? (i := 5) rfl))) rfl dX8_becomes_51 ?_
          refine z_iconst (pc := 54) (v := 0) dX8_becomes_54 rfl ?_
          refine z_aload_n (pc := 55) (x := 40) dX8_becomes_55 rfl 1 rfl ?_
          refine z_getR (pc := 56) (pl := 39) (f := 3) (ci := 7) (C := RX8) (T := TX8) (N := 33) hu_X8 (by decide) rfl rfl (by decide) rfl (List.mem_cons_of_mem _ (iw5 _ (List.mem_of_getElem? (i := 7) rfl))) rfl dX8_becomes_56 ?_
          refine z_sipush (pc := 59) (v := 166) dX8_becomes_59 (by decide +kernel) ?_
          refine z_aload_n (pc := 62) (x := 40) dX8_becomes_62 rfl 1 rfl ?_
          refine z_getI (pc := 63) (pl := 39) (f := 6) (ci := 7) (C := RX8) (T := TX8) (N := 33) hu_X8 (by decide) rfl rfl (by decide) rfl (List.mem_cons_of_mem _ (iw11 _ (List.mem_of_getElem? (i := 8) rfl))) rfl (by decide) dX8_becomes_63 (fun v14 ev14 rv14 => ?_)
          rw [(by rw [eh13]; rfl : h13 39 6 = v12)] at ev14
          refine z_imul (pc := 66) dX8_becomes_66 (fun v15 ev15 => ?_)
          refine z_callS (pc := 67) (kc := kX8_copies) (n := 4) (As := [AR 41, AI 0, AR 43, AI v15]) (stk := []) ct_X8_copies_np (gdS rfl rfl (iw9 _ (List.mem_of_getElem? (i := 16) rfl)) (iw9 _ (List.mem_of_getElem? (i := 17) rfl)) (iw1 _ (List.mem_of_getElem? (i := 5) rfl)) (iw9 _ (List.mem_of_getElem? (i := 18) rfl))) rfl ⟨rfl, rfl⟩ (by decide +kernel) ⟨by decide, by decide⟩ dX8_becomes_67 rfl rfl (Nat.le_of_ble_eq_true rfl) ?_
          refine ⟨_, _, rfl, by omega, fun h16 eh16 => ?_⟩
          have frh16 : Fr [39, 40, 42] hi h16 := (Fr.call frh13 eh16.1 (by decide))
          try rw [(by rw [eh13]; rfl : h13 40 = hb 40), (m40 : hb 40 = hi 40)] at eh16
          try rw [(by rw [eh13]; rfl : h13 42 = hb 42)] at eh16
          have w67 := eh16.2
          refine z_aload_n (pc := 70) (x := 40) dX8_becomes_70 rfl 1 rfl ?_
          refine z_dup (pc := 71) dX8_becomes_71 rfl ?_
          refine z_getI (pc := 72) (pl := 39) (f := 6) (ci := 7) (C := RX8) (T := TX8) (N := 33) hu_X8 (by decide) rfl rfl (by decide) rfl (List.mem_cons_of_mem _ (iw11 _ (List.mem_of_getElem? (i := 8) rfl))) rfl (by decide) dX8_becomes_72 (fun v17 ev17 rv17 => ?_)
          rw [(congrFun (eh16.1 39 (by decide)) 6 : h16 39 6 = h13 39 6), (by rw [eh13]; rfl : h13 39 6 = v12)] at ev17
          refine z_iconst (pc := 75) (v := 1) dX8_becomes_75 rfl ?_
          refine z_iadd (pc := 76) dX8_becomes_76 (fun v18 ev18 => ?_)
          refine z_putI (pc := 77) (pl := 39) (f := 6) (ci := 7) (C := RX8) (T := TX8) (N := 33) hu_X8 tyX8_ok nmX8 (by decide) rfl rfl (by decide) rfl (List.mem_cons_of_mem _ (iw11 _ (List.mem_of_getElem? (i := 8) rfl))) rfl rfl (ty := .int) (by decide +kernel) rfl rfl ⟨by omega, by omega⟩ dX8_becomes_77 (fun h19 eh19 => ?_)
          have frh19 : Fr [39, 40, 42] hi h19 := (Fr.put frh16 eh19 (by decide))
          have w77 := eh19
          refine z_aload_n (pc := 80) (x := 40) dX8_becomes_80 rfl 1 rfl ?_
          refine z_getR (pc := 81) (pl := 39) (f := 2) (ci := 7) (C := RX8) (T := TX8) (N := 33) hu_X8 (by decide) rfl rfl (by decide) rfl (List.mem_cons_of_mem _ (iw5 _ (List.mem_of_getElem? (i := 6) rfl))) rfl dX8_becomes_81 ?_
          refine z_iconst (pc := 84) (v := 0) dX8_becomes_84 rfl ?_
          refine z_aload_n (pc := 85) (x := 40) dX8_becomes_85 rfl 1 rfl ?_
          refine z_getR (pc := 86) (pl := 39) (f := 1) (ci := 7) (C := RX8) (T := TX8) (N := 33) hu_X8 (by decide) rfl rfl (by decide) rfl (List.mem_cons_of_mem _ (iw5 _ (List.mem_of_getElem? (i := 5) rfl))) rfl dX8_becomes_86 ?_
          refine z_iconst (pc := 89) (v := 0) dX8_becomes_89 rfl ?_
          refine z_callS (pc := 90) (kc := kX8_copies) (n := 4) (As := [AR 42, AI 0, AR 41, AI 0]) (stk := []) ct_X8_copies_tn (gdS rfl rfl (iw9 _ (List.mem_of_getElem? (i := 16) rfl)) (iw9 _ (List.mem_of_getElem? (i := 17) rfl)) (iw1 _ (List.mem_of_getElem? (i := 5) rfl)) (iw9 _ (List.mem_of_getElem? (i := 18) rfl))) rfl ⟨rfl, rfl⟩ (by decide +kernel) ⟨by decide, by decide⟩ dX8_becomes_90 rfl rfl (Nat.le_of_ble_eq_true rfl) ?_
          refine ⟨_, _, rfl, by omega, fun h20 eh20 => ?_⟩
          have frh20 : Fr [39, 40, 42] hi h20 := (Fr.call frh19 eh20.1 (by decide))
          try rw [(by rw [eh19]; rfl : h19 41 = h16 41), (eh16.1 41 (by decide) : h16 41 = h13 41), (by rw [eh13]; rfl : h13 41 = hb 41), (frlhb 41 (by decide) : hb 41 = hi 41)] at eh20
          try rw [(by rw [eh19]; rfl : h19 40 = h16 40), (eh16.1 40 (by decide) : h16 40 = h13 40), (by rw [eh13]; rfl : h13 40 = hb 40), (m40 : hb 40 = hi 40)] at eh20
          have w90 := eh20.2
          refine z_vret (pc := 93) rfl dX8_becomes_93 ?_
          exact hQ h20 ⟨frh20, by first | exact bec_B (by omega) w67 w77 w90 (by omega) (by omega) | exact bec_A (by omega) (by omega) i1 w47 w67 w77 w90 (by omega) (by omega) (by omega)⟩
        · refine z_aload_n (pc := 18) (x := 40) dX8_becomes_18 rfl 1 rfl ?_
          refine z_getR (pc := 19) (pl := 39) (f := 3) (ci := 7) (C := RX8) (T := TX8) (N := 33) hu_X8 (by decide) rfl rfl (by decide) rfl (List.mem_cons_of_mem _ (iw5 _ (List.mem_of_getElem? (i := 7) rfl))) rfl dX8_becomes_19 ?_
          refine z_iload_n (pc := 22) dX8_becomes_22 rfl 0 rfl ?_
          refine z_aload_n (pc := 23) (x := 40) dX8_becomes_23 rfl 1 rfl ?_
          refine z_getR (pc := 24) (pl := 39) (f := 3) (ci := 7) (C := RX8) (T := TX8) (N := 33) hu_X8 (by decide) rfl rfl (by decide) rfl (List.mem_cons_of_mem _ (iw5 _ (List.mem_of_getElem? (i := 7) rfl))) rfl dX8_becomes_24 ?_
          refine z_iload_n (pc := 27) dX8_becomes_27 rfl 0 rfl ?_
          refine z_sipush (pc := 28) (v := 166) dX8_becomes_28 (by decide +kernel) ?_
          refine z_iadd (pc := 31) dX8_becomes_31 (fun v21 ev21 => ?_)
          refine z_iald (pc := 32) (pl := 42) (by decide) rfl (by decide) (by decide) (by omega) (by omega) dX8_becomes_32 (fun v22 ev22 rv22 => ?_)
          have w32 := ev22
          refine z_iast (pc := 33) (pl := 42) (by decide) rfl (by decide) (by omega) (by omega) ⟨by omega, by omega⟩ dX8_becomes_33 (fun h23 eh23 => ?_)
          have frh23 : Fr [39, 40, 42] hi h23 := (Fr.put frlhb eh23 (by decide))
          refine z_iinc (pc := 34) (j := 0) (w := fun q => (1, AI q) :: [(0, AR 40)]) dX8_becomes_34 rfl (by decide) (fun _ => rfl) (fun v24 ev24 => ?_)
          refine z_goto (pc := 37) (tgt := 11) dX8_becomes_37 (by decide) ?_
          exact ih11 v24 h23 (by omega) (cpyI_stepL i1 (by omega) (by omega) (by omega) w32 eh23) (frh23) (by omega)
    exact J11 _ 0 hi (by omega) (cpyI_0 rfl) ((Fr.rf)) (Nat.lt_succ_self _)
