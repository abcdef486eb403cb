/-! questions and texts on both sides -/
theorem lifeF_same {f g : Nat → Int} {z : Int} (e : SameE f z g z) : lifeF f z = lifeF g z := by
  unfold lifeF; rw [e.1, e.2.1, e.2.2.1, e.2.2.2]
section RQA
variable {f g : Nat → Int}
theorem rq_sme (h : RQ f g) {z : Int} (z0 : 0 ≤ z) (z1 : z < ((f 1).toNat : Nat)) : SameE f z g z := h.2.2 z z0 (by omega)
theorem ite_iff {P Q : Prop} [Decidable P] [Decidable Q] {a b c : Int} (h : P ↔ Q) (hb : Q → a = b) : (if P then a else c) = (if Q then b else c) := by
  by_cases q : Q
  · rw [if_pos q, if_pos (h.mpr q), hb q]
  · rw [if_neg q, if_neg (fun z => q (h.mp z))]
theorem rq_cntA (h : RQ f g) (t : Int) : cntA f (f 1) t = cntA g (g 0) t := by
  unfold cntA
  rw [← h.1]
  exact sm_congr (fun z z0 z1 => ite_iff (rq_sme h z0 z1).al (fun _ => rfl))
theorem rq_worA (h : RQ f g) (t : Int) : worA f (f 1) t = worA g (g 0) t := by
  unfold worA
  rw [← h.1]
  exact sm_congr (fun z z0 z1 => ite_iff (by rw [(rq_sme h z0 z1).1]; exact and_congr (rq_sme h z0 z1).al Iff.rfl) (fun _ => (rq_sme h z0 z1).2.2.2))
theorem rq_lsF (h : RQ f g) (t : Int) : lsF f (f 1) t = lsF g (g 0) t := by
  unfold lsF
  rw [← h.1]
  have hp : ∀ z, 0 ≤ z → z < f 1 → ((0 ≤ nO f z ∧ al f z t) ↔ (0 ≤ nO g z ∧ al g z t)) := fun z z0 z1 => by rw [(h.2.2 z z0 z1).1]; exact and_congr Iff.rfl (h.2.2 z z0 z1).al
  have e : (fun v => ∃ k, Fst (fun z => 0 ≤ nO f z ∧ al f z t) (f 1) k ∧ ((k < 0 ∧ v = -1) ∨ (0 ≤ k ∧ v = nO f k))) = (fun v => ∃ k, Fst (fun z => 0 ≤ nO g z ∧ al g z t) (f 1) k ∧ ((k < 0 ∧ v = -1) ∨ (0 ≤ k ∧ v = nO g k))) := by
    funext v
    apply propext
    constructor
    · rintro ⟨k, a, b | b⟩
      · exact ⟨k, a.congr hp, Or.inl b⟩
      · exact ⟨k, a.congr hp, Or.inr ⟨b.1, by rw [← (h.2.2 k b.1 (a.pos b.1).1).1]; exact b.2⟩⟩
    · rintro ⟨k, a, b | b⟩
      · exact ⟨k, a.congr (fun z z0 z1 => (hp z z0 z1).symm), Or.inl b⟩
      · exact ⟨k, a.congr (fun z z0 z1 => (hp z z0 z1).symm), Or.inr ⟨b.1, by rw [(h.2.2 k b.1 (a.pos b.1).1).1]; exact b.2⟩⟩
  rw [e]
theorem rq_grF (h : RQ f g) (t : Int) : grF f (f 1) t = grF g (g 0) t := by
  unfold grF
  rw [← h.1]
  have hp : ∀ z, 0 ≤ z → z < f 1 → ((nO f z ≤ 999 ∧ al f z t) ↔ (nO g z ≤ 999 ∧ al g z t)) := fun z z0 z1 => by rw [(h.2.2 z z0 z1).1]; exact and_congr Iff.rfl (h.2.2 z z0 z1).al
  have e : (fun v => ∃ k, Lst (fun z => nO f z ≤ 999 ∧ al f z t) (f 1) k ∧ ((k < 0 ∧ v = -1) ∨ (0 ≤ k ∧ v = nO f k))) = (fun v => ∃ k, Lst (fun z => nO g z ≤ 999 ∧ al g z t) (f 1) k ∧ ((k < 0 ∧ v = -1) ∨ (0 ≤ k ∧ v = nO g k))) := by
    funext v
    apply propext
    constructor
    · rintro ⟨k, a, b | b⟩
      · exact ⟨k, a.congr hp, Or.inl b⟩
      · exact ⟨k, a.congr hp, Or.inr ⟨b.1, by rw [← (h.2.2 k b.1 (a.posL b.1)).1]; exact b.2⟩⟩
    · rintro ⟨k, a, b | b⟩
      · exact ⟨k, a.congr (fun z z0 z1 => (hp z z0 z1).symm), Or.inl b⟩
      · exact ⟨k, a.congr (fun z z0 z1 => (hp z z0 z1).symm), Or.inr ⟨b.1, by rw [(h.2.2 k b.1 (a.posL b.1)).1]; exact b.2⟩⟩
  rw [e]
theorem rq_hourF (h : RQ f g) (t : Int) : hourF f (f 1) t = hourF g (g 0) t := by
  unfold hourF
  rw [rq_cntA h, rq_worA h, rq_lsF h, rq_grF h]
theorem rq_ans (h : RQ f g) (S : Nat → Int) (x : Ex) : ansF S x f (f 1) = ansF S x g (g 0) := by
  unfold ansF
  have e : ∀ b : Int, sm (fun z => if x (lifeF f z) = 1 then (if b = 1 then wO f z else 1) else 0) (f 1).toNat = sm (fun z => if x (lifeF g z) = 1 then (if b = 1 then wO g z else 1) else 0) (f 1).toNat := fun b =>
    sm_congr (fun z z0 z1 => by rw [lifeF_same (rq_sme h z0 z1), (rq_sme h z0 z1).2.2.2])
  have e2 : (fun t : Int => x (hourF f (f 1) t)) = (fun t : Int => x (hourF g (g 0) t)) := funext (fun t => by rw [rq_hourF h])
  have e3 : (fun t : Int => if x (hourF f (f 1) t) = 1 then (1 : Int) else 0) = (fun t : Int => if x (hourF g (g 0) t) = 1 then 1 else 0) := funext (fun t => by rw [rq_hourF h])
  rw [e 0, e 1, e2, e3, h.1]
end RQA
def MAC : List Nat := [29, 31, 32, 33, 35, 36]
def MAM : List Nat := [39, 49, 50, 51, 52]
def JAM : List Nat := [0, 8, 9, 10, 11, 12, 13, 14, 15, 16, 17, 24, 26, 27, 28]
theorem act_ask {h h1 : HI} {n v : Int} (r : LwR h) (f1 : Fr MAC h h1) (c : AskC h h1 n v) : ∃ (S P V st : Nat → Int) (m : Nat), (0 ≤ n ∧ n ≤ h1 39 8 → TC (fM h1) n S P V st m) ∧ ∀ (h2 : HI) (u : Int), Fr MAM h1 h2 → FF 39 JAM h1 h2 → AskM h1 h2 S P V n u → v = u ∧ LwR h2 := by
  have k39 : h1 39 = h 39 := f1 39 (by decide)
  have k45 : h1 45 = h 45 := f1 45 (by decide)
  have l := r.2.2.1.1
  have b := r.2.2.1.2
  have bM : fM h1 = h 30 := by rw [b]; funext j; unfold fM; rw [k45]
  rw [k39, l.2]
  rcases c with ⟨c1, c2, c3⟩ | ⟨c1, c2, c3, S, P, V, st, m, tc, c4⟩
  · refine ⟨fun _ => 0, fun _ => 0, fun _ => 0, fun _ => 0, 0, fun q => absurd q c2, fun h2 u f2 g2 mm => ?_⟩
    rcases mm with ⟨m1, m2, m3⟩ | ⟨m1, -⟩
    · rw [m3, c3, c1, m1]; exact ⟨rfl, r.z0⟩
    · rw [k39, l.2] at m1; exact absurd m1 c2
  · refine ⟨S, P, V, st, m, fun _ => by rw [bM]; exact tc, fun h2 u f2 g2 mm => ?_⟩
    rcases mm with ⟨m1, m2, m3⟩ | ⟨m1, m8, m0, m51, m4⟩
    · rw [k39, l.2] at m2; exact absurd c1 m2
    · have k : ∀ p : Nat, p ∉ MAC ++ MAM → h2 p = h p := fun p hp => (f2 p (fun q => hp (List.mem_append_right _ q))).trans (f1 p (fun q => hp (List.mem_append_left _ q)))
      have z39 : ∀ j : Nat, j ∉ JAM → h2 39 j = h 39 j := fun j hj => (g2 j hj).trans (congrFun k39 j)
      have e29 : h2 29 1 = 0 := by rw [f2 29 (by decide)]; exact c2
      have b28 : ∀ i ∈ MAC ++ MAM, 28 < i := by decide
      refine ⟨?_, r.same (fun i i0 i1 => k i (fun q => by have := b28 i q; omega)) ⟨z39 6 (by decide), k 40 (by decide), k 42 (by decide), k 43 (by decide), k 44 (by decide)⟩ (fun j _ _ => by rw [k 0 (by decide)]) ⟨by omega, by omega⟩ (k 30 (by decide)) (k 45 (by decide)) (z39 21 (by decide)) (k 48 (by decide)) (fun j hj => by rw [f2 36 (by decide)]; exact c3 j hj) m51⟩
      have ea : ∀ x, ansF S x (h 2) (h 2 1) = ansF S x (h1 40) (h1 40 0) := fun x => by rw [f1 40 (by decide)]; exact rq_ans r.1.2.2.1 S x
      rcases c4 with ⟨k1, p1, c5, c6⟩ | ⟨x1, c5, c6, c7⟩ <;> rcases m4 with ⟨k2, p2, m5, m6⟩ | ⟨x2, m5, m6, m7⟩
      · have q := c5.symm.trans m5
        injection q with q
        injection q with q1 q2
        rw [c6, m6, q1, q2]
      · have q := c5.symm.trans m5
        cases q
      · have q := c5.symm.trans m5
        cases q
      · have q := c5.symm.trans m5
        injection q with q
        rw [c7, m7, q, ea]
def MTC : List Nat := [0, 2, 3, 5, 6, 7, 8, 9, 10, 11, 12, 13, 14, 15, 16, 17, 18, 19, 20, 21, 22, 23, 24, 29, 31, 32, 33, 34]
def MTM : List Nat := [39, 40, 41, 42, 46, 47, 48]
def JTM : List Nat := [0, 6, 8, 9, 10, 11, 12, 13, 14, 15, 16, 17, 20, 21]
theorem act_text {h h1 : HI} {n v : Int} (r : LwR h) (f1 : Fr MTC h h1) (c : TxtC h h1 n v) : ∃ (S P V st : Nat → Int) (m : Nat), (0 ≤ n ∧ n ≤ h1 39 8 → TC (fM h1) n S P V st m) ∧ ∀ (h2 : HI) (u : Int), Fr MTM h1 h2 → FF 39 JTM h1 h2 → TxtM h1 h2 S P V n u → v = u ∧ LwR h2 := by
  have k39 : h1 39 = h 39 := f1 39 (by decide)
  have k45 : h1 45 = h 45 := f1 45 (by decide)
  have l := r.2.2.1.1
  have b := r.2.2.1.2
  have bM : fM h1 = h 30 := by rw [b]; funext j; unfold fM; rw [k45]
  have em : EqM h h1 := eqm_fr f1 (by decide)
  rw [k39, l.2]
  rcases c with ⟨c1, c2, c3⟩ | ⟨c1, c2, S, P, V, st, m, tc, L, lc, c4⟩
  · refine ⟨fun _ => 0, fun _ => 0, fun _ => 0, fun _ => 0, 0, fun q => absurd q c2, fun h2 u f2 g2 mm => ?_⟩
    rcases mm with ⟨m1, m2, m3⟩ | ⟨m1, -⟩
    · rw [m3, c3, c1, m1]; exact ⟨rfl, r.z0⟩
    · rw [k39, l.2] at m1; exact absurd m1 c2
  · refine ⟨S, P, V, st, m, fun _ => by rw [bM]; exact tc, fun h2 u f2 g2 mm => ?_⟩
    rcases mm with ⟨m1, m2, m3⟩ | ⟨m1, m8, L2, lm, m4⟩
    · rw [k39, l.2] at m2; exact absurd c1 m2
    · have ec12 : EqC h1 h2 := eqc_fr f2 (by decide)
      have k : ∀ p : Nat, p ∉ MTC ++ MTM → h2 p = h p := fun p hp => (f2 p (fun q => hp (List.mem_append_right _ q))).trans (f1 p (fun q => hp (List.mem_append_left _ q)))
      have z39 : ∀ j : Nat, j ∉ JTM → h2 39 j = h 39 j := fun j hj => (g2 j hj).trans (congrFun k39 j)
      have e29 : h2 29 1 = 0 := by rw [f2 29 (by decide)]; exact c2
      have e0 : h2 0 = h1 0 := f2 0 (by decide)
      have fin : ∀ (cx : CX h1) (mx : MX h2) (rb : RB h1 h2) (rn : RN h2), LwR h2 := fun cx mx rb rn => by
        refine ⟨⟨cx.eq ec12, mx, rb.eqc ec12⟩, ⟨fun j hj => by rw [k 36 (by decide)]; exact r.2.1.1 j hj, fun j hj => by rw [k 51 (by decide)]; exact r.2.1.2 j hj⟩, ⟨⟨by omega, by omega⟩, ?_⟩, rn⟩
        rw [k 30 (by decide), b]; funext j; unfold fM; rw [k 45 (by decide)]
      rcases c4 with ⟨c5, ⟨p1, c6, c7⟩, c8, c9⟩ | ⟨c5, rr, c6, c7, c8, c9, c10⟩ <;> rcases m4 with ⟨m5, ⟨p2, m6, m7⟩, m9, m10, m11⟩ | ⟨m5, m6, ss, m7, m9, m10, m11, m12, m13, m14⟩
      · have q := lc.uq lm (Or.inr (by rw [c6]; rfl)) (Or.inr (by rw [m6]; rfl))
        subst q
        have q2 := c6.symm.trans m6
        have q3 : p1 = p2 := congrArg (fun t : LR => t.2.1) q2
        refine ⟨by rw [c7, m7, q3], fin (r.1.1.eq c8) ((r.1.2.1.eq em).eq m9) (((r.1.2.2.eqc c8).eqm em).eqm m9) ?_⟩
        exact r.2.2.2.same (fun j _ _ => by rw [e0, c9]) (by rw [m10, k39]) (by rw [m11, f1 48 (by decide)])
      · have q := lc.uq lm (Or.inr (by rw [c6]; rfl)) (Or.inl m5)
        subst q; exact absurd m5 c5
      · have q := lc.uq lm (Or.inl c5) (Or.inr (by rw [m6]; rfl))
        subst q; exact absurd c5 m5
      · have q := lc.uq lm (Or.inl c5) (Or.inl m5)
        subst q
        obtain ⟨q1, q2⟩ := rb_run (r.1.2.2.eqm em) r.1.1 (r.1.2.1.eq em) c6 m7
        subst q1
        refine ⟨by rw [c10, m14], fin (RunC.cx r.1.1 c6) (RunM.mx (r.1.2.1.eq em) m7) q2 ?_⟩
        refine Or.inr ⟨by omega, by rw [e0, c7]; decide, ?_⟩
        rw [e0, c8, c9.1, c9.2.1, c9.2.2, m10, m11, m12, m13]
        exact ⟨rfl, rfl, rfl, rfl⟩
