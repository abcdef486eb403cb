theorem two {R : Prop} {v u : Int} {A B : Prop} (c : (v = -1 ∧ ¬ R) ∨ (R ∧ A)) (m : (u = -1 ∧ ¬ R) ∨ (R ∧ B)) (k : A → B → v = u) : v = u := by
  rcases c with ⟨c1, c2⟩ | ⟨c1, c2⟩ <;> rcases m with ⟨m1, m2⟩ | ⟨m1, m2⟩
  · rw [c1, m1]
  · exact absurd m1 c2
  · exact absurd c1 m2
  · exact k c2 m2
theorem rq_sm {f g : Nat → Int} {A B : Int → Int} {v u : Int} (q : RQ f g) (hab : ∀ z, 0 ≤ z → z < f 1 → A z = B z) (c : v = sm A (f 1).toNat) (m : u = sm B (g 0).toNat) : v = u := by
  rw [c, m, ← q.1]; exact sm_congr (fun z z0 z1 => hab z z0 (by omega))
theorem rq_fn {f g : Nat → Int} {A B : Int → Prop} {v u : Int} (q : RQ f g) (hab : ∀ z, 0 ≤ z → z < f 1 → (A z ↔ B z)) (c : ∃ k, Fst A (f 1) k ∧ ((k < 0 ∧ v = -2) ∨ (0 ≤ k ∧ v = nO f k))) (m : ∃ l, Fst B (g 0) l ∧ ((l < 0 ∧ u = -2) ∨ (0 ≤ l ∧ u = nO g l))) : v = u := by
  obtain ⟨k, a, b⟩ := c
  obtain ⟨l, d, e⟩ := m
  have kl := q.fst hab a d
  subst kl
  rcases b with ⟨b1, b2⟩ | ⟨b1, b2⟩ <;> rcases e with ⟨e1, e2⟩ | ⟨e1, e2⟩
  · rw [b2, e2]
  · omega
  · omega
  · rw [b2, e2, (q.2.2 k b1 (a.pos b1).1).1]
theorem rq_fk {f g : Nat → Int} {A B : Int → Prop} {v u : Int} (q : RQ f g) (hab : ∀ z, 0 ≤ z → z < f 1 → (A z ↔ B z)) (c : ∃ k, Fst A (f 1) k ∧ ((k < 0 ∧ v = -2) ∨ (0 ≤ k ∧ v = k))) (m : ∃ l, Fst B (g 0) l ∧ ((l < 0 ∧ u = -2) ∨ (0 ≤ l ∧ u = l))) : v = u := by
  obtain ⟨k, a, b⟩ := c
  obtain ⟨l, d, e⟩ := m
  have kl := q.fst hab a d
  subst kl
  omega
theorem rq_ln {f g : Nat → Int} {A B : Int → Prop} {v u : Int} (q : RQ f g) (hab : ∀ z, 0 ≤ z → z < f 1 → (A z ↔ B z)) (c : ∃ k, Lst A (f 1) k ∧ ((k < 0 ∧ v = -2) ∨ (0 ≤ k ∧ v = nO f k))) (m : ∃ l, Lst B (g 0) l ∧ ((l < 0 ∧ u = -2) ∨ (0 ≤ l ∧ u = nO g l))) : v = u := by
  obtain ⟨k, a, b⟩ := c
  obtain ⟨l, d, e⟩ := m
  rw [← q.1] at d
  have kl := (a.congr hab).uniq d
  subst kl
  rcases b with ⟨b1, b2⟩ | ⟨b1, b2⟩ <;> rcases e with ⟨e1, e2⟩ | ⟨e1, e2⟩
  · rw [b2, e2]
  · omega
  · omega
  · rw [b2, e2, (q.2.2 k b1 (a.posL b1)).1]
theorem rq_an {f g : Nat → Int} (q : RQ f g) {t z : Int} (z1 : z ≤ f 1) : sm (fun z => if al f z t then 1 else 0) z.toNat = sm (fun z => if al g z t then 1 else 0) z.toNat := sm_congr (fun y y0 y1 => ite_iff (q.2.2 y y0 (by omega)).al (fun _ => rfl))
theorem rq_of2 {f g : Nat → Int} (q : RQ f g) {p z : Int} (z1 : z ≤ f 1) : sm (fun z => if ofP p (bO f z) (dO f z) then 1 else 0) z.toNat = sm (fun z => if ofP p (bO g z) (dO g z) then 1 else 0) z.toNat := sm_congr (fun y y0 y1 => by rw [(q.2.2 y y0 (by omega)).2.1, (q.2.2 y y0 (by omega)).2.2.1])
theorem rq_rg {f g : Nat → Int} (q : RQ f g) {x y t : Int} : (∃ j : Int, Fst (fun z => x + 1 ≤ nO f z ∧ al f z t) (f 1) j ∧ 0 ≤ j ∧ nO f j = y) ↔ (∃ j : Int, Fst (fun z => x + 1 ≤ nO g z ∧ al g z t) (g 0) j ∧ 0 ≤ j ∧ nO g j = y) := by
  rw [← q.1]
  have hp : ∀ z, 0 ≤ z → z < f 1 → ((x + 1 ≤ nO f z ∧ al f z t) ↔ (x + 1 ≤ nO g z ∧ al g z t)) := fun z z0 z1 => by rw [(q.2.2 z z0 z1).1]; exact and_congr Iff.rfl (q.2.2 z z0 z1).al
  constructor
  · rintro ⟨j, a, b, c⟩
    exact ⟨j, a.congr hp, b, by rw [← (q.2.2 j b (a.pos b).1).1]; exact c⟩
  · rintro ⟨j, a, b, c⟩
    exact ⟨j, a.congr (fun z z0 z1 => (hp z z0 z1).symm), b, by rw [(q.2.2 j b (a.pos b).1).1]; exact c⟩

theorem act_which {s s2 : HI} {x h v u : Int} (r : LwR s) (c : (v = -1 ∧ ¬ ((0 ≤ x ∧ x ≤ 999) ∧ (0 ≤ h ∧ h < 64))) ∨ (((0 ≤ x ∧ x ≤ 999) ∧ (0 ≤ h ∧ h < 64)) ∧ ∃ k : Int, Fst (fun z => nO (s 2) z = x ∧ al (s 2) z h) (s 2 1) k ∧ ((k < 0 ∧ v = -2) ∨ (0 ≤ k ∧ v = k)))) (m : s2 = Z0 s ∧ ((u = -1 ∧ ¬ ((0 ≤ x ∧ x ≤ 999) ∧ (0 ≤ h ∧ h < 64))) ∨ (((0 ≤ x ∧ x ≤ 999) ∧ (0 ≤ h ∧ h < 64)) ∧ ∃ k : Int, Fst (fun z => nO (s 40) z = x ∧ al (s 40) z h) (s 40 0) k ∧ ((k < 0 ∧ u = -2) ∨ (0 ≤ k ∧ u = k))))) : v = u ∧ LwR s2 := by
  obtain ⟨m0, m1⟩ := m
  have q := r.1.2.2.1
  exact ⟨two c m1 (fun c m => rq_fk q (fun z z0 z1 => by have e := q.2.2 z z0 z1; rw [e.1]; exact and_congr Iff.rfl e.al) c m), by rw [m0]; exact r.z0⟩

theorem act_alive {s s2 : HI} {h v u : Int} (r : LwR s) (c : (v = -1 ∧ ¬ (0 ≤ h ∧ h < 64)) ∨ ((0 ≤ h ∧ h < 64) ∧ v = sm (fun z => if al (s 2) z h then 1 else 0) (s 2 1).toNat)) (m : s2 = Z0 s ∧ ((u = -1 ∧ ¬ (0 ≤ h ∧ h < 64)) ∨ ((0 ≤ h ∧ h < 64) ∧ u = sm (fun z => if al (s 40) z h then 1 else 0) (s 40 0).toNat))) : v = u ∧ LwR s2 := by
  obtain ⟨m0, m1⟩ := m
  have q := r.1.2.2.1
  exact ⟨two c m1 (fun c m => c.trans ((rq_an q (Int.le_refl _)).trans (by rw [q.1]; exact m.symm))), by rw [m0]; exact r.z0⟩

theorem act_next {s s2 : HI} {x h v u : Int} (r : LwR s) (c : (v = -1 ∧ ¬ ((0 ≤ x ∧ x ≤ 999) ∧ (0 ≤ h ∧ h < 64))) ∨ (((0 ≤ x ∧ x ≤ 999) ∧ (0 ≤ h ∧ h < 64)) ∧ ∃ k : Int, Fst (fun z => x ≤ nO (s 2) z ∧ al (s 2) z h) (s 2 1) k ∧ ((k < 0 ∧ v = -2) ∨ (0 ≤ k ∧ v = nO (s 2) k)))) (m : s2 = Z0 s ∧ ((u = -1 ∧ ¬ ((0 ≤ x ∧ x ≤ 999) ∧ (0 ≤ h ∧ h < 64))) ∨ (((0 ≤ x ∧ x ≤ 999) ∧ (0 ≤ h ∧ h < 64)) ∧ ∃ k : Int, Fst (fun z => x ≤ nO (s 40) z ∧ al (s 40) z h) (s 40 0) k ∧ ((k < 0 ∧ u = -2) ∨ (0 ≤ k ∧ u = nO (s 40) k))))) : v = u ∧ LwR s2 := by
  obtain ⟨m0, m1⟩ := m
  have q := r.1.2.2.1
  exact ⟨two c m1 (fun c m => rq_fn q (fun z z0 z1 => by have e := q.2.2 z z0 z1; rw [e.1]; exact and_congr Iff.rfl e.al) c m), by rw [m0]; exact r.z0⟩

theorem act_before {s s2 : HI} {x h v u : Int} (r : LwR s) (c : (v = -1 ∧ ¬ ((0 ≤ x ∧ x ≤ 999) ∧ (0 ≤ h ∧ h < 64))) ∨ (((0 ≤ x ∧ x ≤ 999) ∧ (0 ≤ h ∧ h < 64)) ∧ ∃ k : Int, Lst (fun z => nO (s 2) z ≤ x ∧ al (s 2) z h) (s 2 1) k ∧ ((k < 0 ∧ v = -2) ∨ (0 ≤ k ∧ v = nO (s 2) k)))) (m : s2 = Z0 s ∧ ((u = -1 ∧ ¬ ((0 ≤ x ∧ x ≤ 999) ∧ (0 ≤ h ∧ h < 64))) ∨ (((0 ≤ x ∧ x ≤ 999) ∧ (0 ≤ h ∧ h < 64)) ∧ ∃ k : Int, Lst (fun z => nO (s 40) z ≤ x ∧ al (s 40) z h) (s 40 0) k ∧ ((k < 0 ∧ u = -2) ∨ (0 ≤ k ∧ u = nO (s 40) k))))) : v = u ∧ LwR s2 := by
  obtain ⟨m0, m1⟩ := m
  have q := r.1.2.2.1
  exact ⟨two c m1 (fun c m => rq_ln q (fun z z0 z1 => by have e := q.2.2 z z0 z1; rw [e.1]; exact and_congr Iff.rfl e.al) c m), by rw [m0]; exact r.z0⟩

theorem act_rank {s s2 : HI} {x h v u : Int} (r : LwR s) (c : (v = -1 ∧ ¬ ((0 ≤ x ∧ x ≤ 999) ∧ (0 ≤ h ∧ h < 64))) ∨ (((0 ≤ x ∧ x ≤ 999) ∧ (0 ≤ h ∧ h < 64)) ∧ v = sm (fun z => if al (s 2) z h ∧ nO (s 2) z < x then 1 else 0) (s 2 1).toNat)) (m : s2 = Z0 s ∧ ((u = -1 ∧ ¬ ((0 ≤ x ∧ x ≤ 999) ∧ (0 ≤ h ∧ h < 64))) ∨ (((0 ≤ x ∧ x ≤ 999) ∧ (0 ≤ h ∧ h < 64)) ∧ u = sm (fun z => if al (s 40) z h ∧ nO (s 40) z < x then 1 else 0) (s 40 0).toNat))) : v = u ∧ LwR s2 := by
  obtain ⟨m0, m1⟩ := m
  have q := r.1.2.2.1
  exact ⟨two c m1 (fun c m => rq_sm q (fun z z0 z1 => by have e := q.2.2 z z0 z1; exact ite_iff (by rw [e.1]; exact and_congr e.al Iff.rfl) (fun _ => rfl)) c m), by rw [m0]; exact r.z0⟩

theorem act_kth {s s2 : HI} {h k v u : Int} (r : LwR s) (c : (v = -1 ∧ ¬ ((0 ≤ h ∧ h < 64) ∧ 0 ≤ k)) ∨ (((0 ≤ h ∧ h < 64) ∧ 0 ≤ k) ∧ ∃ i : Int, Fst (fun z => (al (s 2) z h) ∧ sm (fun z => if al (s 2) z h then 1 else 0) z.toNat = k) (s 2 1) i ∧ ((i < 0 ∧ v = -2) ∨ (0 ≤ i ∧ v = nO (s 2) i)))) (m : s2 = Z0 s ∧ ((u = -1 ∧ ¬ ((0 ≤ h ∧ h < 64) ∧ 0 ≤ k)) ∨ (((0 ≤ h ∧ h < 64) ∧ 0 ≤ k) ∧ ∃ i : Int, Fst (fun z => (al (s 40) z h) ∧ sm (fun z => if al (s 40) z h then 1 else 0) z.toNat = k) (s 40 0) i ∧ ((i < 0 ∧ u = -2) ∨ (0 ≤ i ∧ u = nO (s 40) i))))) : v = u ∧ LwR s2 := by
  obtain ⟨m0, m1⟩ := m
  have q := r.1.2.2.1
  exact ⟨two c m1 (fun c m => rq_fn q (fun z z0 z1 => by have e := q.2.2 z z0 z1; rw [rq_an q (Int.le_of_lt z1)]; exact and_congr e.al Iff.rfl) c m), by rw [m0]; exact r.z0⟩

theorem act_sum {s s2 : HI} {h x y v u : Int} (r : LwR s) (c : (v = -1 ∧ ¬ ((0 ≤ h ∧ h < 64) ∧ (0 ≤ x ∧ x ≤ 999) ∧ (0 ≤ y ∧ y ≤ 999) ∧ x ≤ y)) ∨ (((0 ≤ h ∧ h < 64) ∧ (0 ≤ x ∧ x ≤ 999) ∧ (0 ≤ y ∧ y ≤ 999) ∧ x ≤ y) ∧ v = sm (fun z => if al (s 2) z h ∧ x ≤ nO (s 2) z ∧ nO (s 2) z ≤ y then wO (s 2) z else 0) (s 2 1).toNat)) (m : s2 = Z0 s ∧ ((u = -1 ∧ ¬ ((0 ≤ h ∧ h < 64) ∧ (0 ≤ x ∧ x ≤ 999) ∧ (0 ≤ y ∧ y ≤ 999) ∧ x ≤ y)) ∨ (((0 ≤ h ∧ h < 64) ∧ (0 ≤ x ∧ x ≤ 999) ∧ (0 ≤ y ∧ y ≤ 999) ∧ x ≤ y) ∧ u = sm (fun z => if al (s 40) z h ∧ x ≤ nO (s 40) z ∧ nO (s 40) z ≤ y then wO (s 40) z else 0) (s 40 0).toNat))) : v = u ∧ LwR s2 := by
  obtain ⟨m0, m1⟩ := m
  have q := r.1.2.2.1
  exact ⟨two c m1 (fun c m => rq_sm q (fun z z0 z1 => by have e := q.2.2 z z0 z1; exact ite_iff (by rw [e.1]; exact and_congr e.al Iff.rfl) (fun _ => e.2.2.2)) c m), by rw [m0]; exact r.z0⟩

theorem act_changes {s s2 : HI} {h y v u : Int} (r : LwR s) (c : (v = -1 ∧ ¬ ((0 ≤ h ∧ h ≤ 64) ∧ 0 ≤ y ∧ y ≤ 1)) ∨ (((0 ≤ h ∧ h ≤ 64) ∧ 0 ≤ y ∧ y ≤ 1) ∧ v = sm (fun z => if (if y = 0 then bO (s 2) z else dO (s 2) z) = h then 1 else 0) (s 2 1).toNat)) (m : s2 = Z0 s ∧ ((u = -1 ∧ ¬ ((0 ≤ h ∧ h ≤ 64) ∧ 0 ≤ y ∧ y ≤ 1)) ∨ (((0 ≤ h ∧ h ≤ 64) ∧ 0 ≤ y ∧ y ≤ 1) ∧ u = sm (fun z => if (if y = 0 then bO (s 40) z else dO (s 40) z) = h then 1 else 0) (s 40 0).toNat))) : v = u ∧ LwR s2 := by
  obtain ⟨m0, m1⟩ := m
  have q := r.1.2.2.1
  exact ⟨two c m1 (fun c m => rq_sm q (fun z z0 z1 => by have e := q.2.2 z z0 z1; rw [e.2.1, e.2.2.1]) c m), by rw [m0]; exact r.z0⟩

theorem act_on {s s2 : HI} {p v u : Int} (r : LwR s) (c : (v = -1 ∧ ¬ (1 ≤ p ∧ p ≤ 127)) ∨ ((1 ≤ p ∧ p ≤ 127) ∧ v = sm (fun z => if ofP p (bO (s 2) z) (dO (s 2) z) then 1 else 0) (s 2 1).toNat)) (m : s2 = Z0 s ∧ ((u = -1 ∧ ¬ (1 ≤ p ∧ p ≤ 127)) ∨ ((1 ≤ p ∧ p ≤ 127) ∧ u = sm (fun z => if ofP p (bO (s 40) z) (dO (s 40) z) then 1 else 0) (s 40 0).toNat))) : v = u ∧ LwR s2 := by
  obtain ⟨m0, m1⟩ := m
  have q := r.1.2.2.1
  exact ⟨two c m1 (fun c m => rq_sm q (fun z z0 z1 => by have e := q.2.2 z z0 z1; rw [e.2.1, e.2.2.1]) c m), by rw [m0]; exact r.z0⟩

theorem act_onAt {s s2 : HI} {p k v u : Int} (r : LwR s) (c : (v = -1 ∧ ¬ ((1 ≤ p ∧ p ≤ 127) ∧ 0 ≤ k)) ∨ (((1 ≤ p ∧ p ≤ 127) ∧ 0 ≤ k) ∧ ∃ i : Int, Fst (fun z => (ofP p (bO (s 2) z) (dO (s 2) z)) ∧ sm (fun z => if ofP p (bO (s 2) z) (dO (s 2) z) then 1 else 0) z.toNat = k) (s 2 1) i ∧ ((i < 0 ∧ v = -2) ∨ (0 ≤ i ∧ v = nO (s 2) i)))) (m : s2 = Z0 s ∧ ((u = -1 ∧ ¬ ((1 ≤ p ∧ p ≤ 127) ∧ 0 ≤ k)) ∨ (((1 ≤ p ∧ p ≤ 127) ∧ 0 ≤ k) ∧ ∃ i : Int, Fst (fun z => (ofP p (bO (s 40) z) (dO (s 40) z)) ∧ sm (fun z => if ofP p (bO (s 40) z) (dO (s 40) z) then 1 else 0) z.toNat = k) (s 40 0) i ∧ ((i < 0 ∧ u = -2) ∨ (0 ≤ i ∧ u = nO (s 40) i))))) : v = u ∧ LwR s2 := by
  obtain ⟨m0, m1⟩ := m
  have q := r.1.2.2.1
  exact ⟨two c m1 (fun c m => rq_fn q (fun z z0 z1 => by have e := q.2.2 z z0 z1; rw [rq_of2 q (Int.le_of_lt z1), e.2.1, e.2.2.1]) c m), by rw [m0]; exact r.z0⟩

theorem act_both {s s2 : HI} {x y v u : Int} (r : LwR s) (c : (v = -1 ∧ ¬ ((0 ≤ x ∧ x ≤ 999) ∧ (0 ≤ y ∧ y ≤ 999))) ∨ (((0 ≤ x ∧ x ≤ 999) ∧ (0 ≤ y ∧ y ≤ 999)) ∧ v = cntP (fun h => Hrs (s 2) (s 2 1) x (-1) h ∧ Hrs (s 2) (s 2 1) y (-1) h) 64)) (m : s2 = Z0 s ∧ ((u = -1 ∧ ¬ ((0 ≤ x ∧ x ≤ 999) ∧ (0 ≤ y ∧ y ≤ 999))) ∨ (((0 ≤ x ∧ x ≤ 999) ∧ (0 ≤ y ∧ y ≤ 999)) ∧ u = cntP (fun h => Hrs (s 40) (s 40 0) x (-1) h ∧ Hrs (s 40) (s 40 0) y (-1) h) 64))) : v = u ∧ LwR s2 := by
  obtain ⟨m0, m1⟩ := m
  have q := r.1.2.2.1
  exact ⟨two c m1 (fun c m => c.trans ((cntP_congr (fun t t0 t1 => and_congr (q.hrs _ _ _) (q.hrs _ _ _))).trans m.symm)), by rw [m0]; exact r.z0⟩

theorem act_reigns {s s2 : HI} {x y v u : Int} (r : LwR s) (c : (v = -1 ∧ ¬ ((0 ≤ x ∧ x ≤ 999) ∧ 0 ≤ y ∧ y ≤ 999)) ∨ (((0 ≤ x ∧ x ≤ 999) ∧ 0 ≤ y ∧ y ≤ 999) ∧ v = cntP (fun h => ∃ j : Int, Fst (fun z => x + 1 ≤ nO (s 2) z ∧ al (s 2) z h) (s 2 1) j ∧ 0 ≤ j ∧ nO (s 2) j = y) 64)) (m : s2 = Z0 s ∧ ((u = -1 ∧ ¬ ((0 ≤ x ∧ x ≤ 999) ∧ (0 ≤ y ∧ y ≤ 999))) ∨ (((0 ≤ x ∧ x ≤ 999) ∧ (0 ≤ y ∧ y ≤ 999)) ∧ u = cntP (fun h => ∃ j : Int, Fst (fun z => x + 1 ≤ nO (s 40) z ∧ al (s 40) z h) (s 40 0) j ∧ 0 ≤ j ∧ nO (s 40) j = y) 64))) : v = u ∧ LwR s2 := by
  obtain ⟨m0, m1⟩ := m
  have q := r.1.2.2.1
  exact ⟨two c m1 (fun c m => c.trans ((cntP_congr (fun t t0 t1 => rq_rg q)).trans m.symm)), by rw [m0]; exact r.z0⟩
