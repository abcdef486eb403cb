theorem ak_same {f g : Nat → Int} (q : RQ f g) {t : Int} : ∀ {n : Nat}, (n : Int) ≤ f 1 → ∀ i, ak f t n i = ak g t n i
  | 0, _, _ => rfl
  | n + 1, h, i => by
    have e := q.2.2 n (by omega) (by omega)
    have ec : cA f t n = cA g t n := rq_an q (z := n) (by omega)
    rw [ak_succ, ak_succ, ak_same q (n := n) (by omega) i, ec]
    by_cases z : cA g t n = i ∧ al g n t
    · rw [if_pos z, if_pos ⟨z.1, e.al.mpr z.2⟩, e.1]
    · rw [if_neg z, if_neg (fun w => z ⟨w.1, e.al.mp w.2⟩)]
theorem rq_gap {f g : Nat → Int} (q : RQ f g) (n0 : 0 ≤ f 1) (t : Int) : (gs (ak f t (f 1).toNat) (cA f t (f 1).toNat - 1).toNat).1 = (gs (ak g t (g 0).toNat) (cA g t (g 0).toNat - 1).toNat).1 := by
  have e1 : ak f t (f 1).toNat = ak g t (g 0).toNat := by
    rw [← q.1]; exact funext (ak_same q (by omega))
  have e2 : cA f t (f 1).toNat = cA g t (g 0).toNat := by rw [← q.1]; exact rq_an q (Int.le_refl _)
  rw [e1, e2]
theorem rq_all {f g : Nat → Int} (q : RQ f g) (x a b : Int) : AllH f (f 1) x a b ↔ AllH g (g 0) x a b :=
  ⟨fun h t t0 t1 => (q.hrs _ _ _).mp (h t t0 t1), fun h t t0 t1 => (q.hrs _ _ _).mpr (h t t0 t1)⟩
theorem rq_some {f g : Nat → Int} (q : RQ f g) (x a b : Int) : SomeH f (f 1) x a b ↔ SomeH g (g 0) x a b :=
  ⟨fun ⟨t, t0, t1, t2⟩ => ⟨t, t0, t1, (q.hrs _ _ _).mp t2⟩, fun ⟨t, t0, t1, t2⟩ => ⟨t, t0, t1, (q.hrs _ _ _).mpr t2⟩⟩
theorem rq_top {f g : Nat → Int} {A B : Int → Prop} {v u t : Int} (q : RQ f g) (hab : ∀ z, 0 ≤ z → z < f 1 → (A z ↔ B z)) (c : ∃ k, Fst A (f 1) k ∧ ((k < 0 ∧ v = -2) ∨ (0 ≤ k ∧ Top t (bO f k) (dO f k) v))) (m : ∃ l, Fst B (g 0) l ∧ ((l < 0 ∧ u = -2) ∨ (0 ≤ l ∧ Top t (bO g l) (dO g l) u))) : v = u := by
  obtain ⟨k, a, b⟩ := c
  obtain ⟨l, d, e⟩ := m
  have kl := q.fst hab a d
  subst kl
  rcases b with ⟨b1, b2⟩ | ⟨b1, b2⟩ <;> rcases e with ⟨e1, e2⟩ | ⟨e1, e2⟩
  · rw [b2, e2]
  · omega
  · omega
  · have s := q.2.2 k b1 (a.pos b1).1
    rw [s.2.1, s.2.2.1] at b2
    exact b2.uniq e2
theorem rq_crowd {f g F : Nat → Int} {y v u : Int} {X : Int → Int} (q : RQ f g) (hy : 0 ≤ y ∧ y ≤ 3) (h1 : y < 2 → X = cntA f (f 1)) (h2 : ¬ y < 2 → X = worA f (f 1)) (c : ∃ b : Int, Amx X 64 b ∧ v = if y = 0 ∨ y = 2 then b else X b) (m : (y < 2 ∧ ∃ b, Amx (cntA g (g 0)) 64 b ∧ u = if y = 0 then b else (cntA g (g 0)) b) ∨ (2 ≤ y ∧ ∃ b, Amx (worA g (g 0)) 64 b ∧ u = if y = 2 then b else (worA g (g 0)) b)) : v = u := by
  obtain ⟨b, a, e⟩ := c
  rcases m with ⟨m1, b2, a2, e2⟩ | ⟨m1, b2, a2, e2⟩
  · rw [h1 m1, show cntA f (f 1) = cntA g (g 0) from funext (rq_cntA q)] at a e
    have k := a.uniq a2
    subst k
    rw [e, e2]
    by_cases z : y = 0
    · rw [if_pos (Or.inl z), if_pos z]
    · rw [if_neg (by omega), if_neg z]
  · rw [h2 (by omega), show worA f (f 1) = worA g (g 0) from funext (rq_worA q)] at a e
    have k := a.uniq a2
    subst k
    rw [e, e2]
    by_cases z : y = 2
    · rw [if_pos (Or.inr z), if_pos z]
    · rw [if_neg (by omega), if_neg z]
theorem rq_nums {f g : Nat → Int} (q : RQ f g) : sm (fun z => if z = 0 ∨ nO f z ≠ nO f (z - 1) then 1 else 0) (f 1).toNat = sm (fun z => if z = 0 ∨ nO g z ≠ nO g (z - 1) then 1 else 0) (g 0).toNat := by
  rw [← q.1]
  refine sm_congr (fun z z0 z1 => ite_iff ?_ (fun _ => rfl))
  by_cases w : z = 0
  · exact ⟨fun _ => Or.inl w, fun _ => Or.inl w⟩
  · rw [(q.2.2 z z0 (by omega)).1, (q.2.2 (z - 1) (by omega) (by omega)).1]
theorem rq_pcs {f g : Nat → Int} (q : RQ f g) : sm (fun z => pcs (bO f z) (dO f z)) (f 1).toNat = sm (fun z => pcs (bO g z) (dO g z)) (g 0).toNat := by
  rw [← q.1]
  exact sm_congr (fun z z0 z1 => by rw [(q.2.2 z z0 (by omega)).2.1, (q.2.2 z z0 (by omega)).2.2.1])
theorem ran_eq {a b : Nat → Int} {y v u : Int} (n3 : a 9 = b 0) (n4 : a 10 = b 1) (n5 : a 11 = b 2) (n6 : a 12 = b 3) (c : (y = 0 ∧ v = a 9) ∨ (y = 1 ∧ v = a 10) ∨ (y = 2 ∧ v = a 11) ∨ (y = 3 ∧ v = a 12) ∨ ((y < 0 ∨ 3 < y) ∧ v = -1)) (m : (0 ≤ y ∧ y ≤ 3 ∧ u = b y.toNat) ∨ ((y < 0 ∨ 3 < y) ∧ u = -1)) : v = u := by
  rcases m with ⟨m1, m2, m3⟩ | ⟨m1, m2⟩
  · rcases c with ⟨c1, c2⟩ | ⟨c1, c2⟩ | ⟨c1, c2⟩ | ⟨c1, c2⟩ | ⟨c1, c2⟩
    · subst c1; rw [c2, m3, n3]; rfl
    · subst c1; rw [c2, m3, n4]; rfl
    · subst c1; rw [c2, m3, n5]; rfl
    · subst c1; rw [c2, m3, n6]; rfl
    · omega
  · rcases c with ⟨c1, c2⟩ | ⟨c1, c2⟩ | ⟨c1, c2⟩ | ⟨c1, c2⟩ | ⟨c1, c2⟩ <;> omega

theorem act_gap {s s2 : HI} {h v u : Int} (r : LwR s) (c : (v = -1 ∧ ¬ (0 ≤ h ∧ h < 64)) ∨ ((0 ≤ h ∧ h < 64) ∧ v = (gs (ak (s 2) h (s 2 1).toNat) (cA (s 2) h (s 2 1).toNat - 1).toNat).1)) (m : s2 = Z0 s ∧ ((u = -1 ∧ ¬ (0 ≤ h ∧ h < 64)) ∨ ((0 ≤ h ∧ h < 64) ∧ u = (gs (ak (s 40) h (s 40 0).toNat) (cA (s 40) h (s 40 0).toNat - 1).toNat).1))) : v = u ∧ LwR s2 := by
  obtain ⟨m0, m1⟩ := m
  have q := r.1.2.2.1
  exact ⟨two c m1 (fun c m => c.trans ((rq_gap q r.1.1.1.1.1.1 _).trans m.symm)), by rw [m0]; exact r.z0⟩

theorem act_always {s s2 : HI} {x a1 b1 v u : Int} (r : LwR s) (c : (v = -1 ∧ ¬ ((0 ≤ x ∧ x ≤ 999) ∧ (0 ≤ a1 ∧ a1 < 64) ∧ (0 ≤ b1 ∧ b1 < 64) ∧ a1 ≤ b1)) ∨ (((0 ≤ x ∧ x ≤ 999) ∧ (0 ≤ a1 ∧ a1 < 64) ∧ (0 ≤ b1 ∧ b1 < 64) ∧ a1 ≤ b1) ∧ ∃ k : Int, Fst (fun z => x ≤ nO (s 2) z ∧ AllH (s 2) (s 2 1) (nO (s 2) z) a1 b1) (s 2 1) k ∧ ((k < 0 ∧ v = -2) ∨ (0 ≤ k ∧ v = nO (s 2) k)))) (m : s2 = Z0 s ∧ ((u = -1 ∧ ¬ ((0 ≤ x ∧ x ≤ 999) ∧ (0 ≤ a1 ∧ a1 < 64) ∧ (0 ≤ b1 ∧ b1 < 64) ∧ a1 ≤ b1)) ∨ (((0 ≤ x ∧ x ≤ 999) ∧ (0 ≤ a1 ∧ a1 < 64) ∧ (0 ≤ b1 ∧ b1 < 64) ∧ a1 ≤ b1) ∧ ∃ k : Int, Fst (fun z => x ≤ nO (s 40) z ∧ AllH (s 40) (s 40 0) (nO (s 40) z) a1 b1) (s 40 0) k ∧ ((k < 0 ∧ u = -2) ∨ (0 ≤ k ∧ u = nO (s 40) k))))) : v = u ∧ LwR s2 := by
  obtain ⟨m0, m1⟩ := m
  have q := r.1.2.2.1
  exact ⟨two c m1 (fun c m => rq_fn q (fun z z0 z1 => by have e := q.2.2 z z0 z1; rw [e.1]; exact and_congr Iff.rfl (rq_all q _ _ _)) c m), by rw [m0]; exact r.z0⟩

theorem act_ever {s s2 : HI} {x a1 b1 v u : Int} (r : LwR s) (c : (v = -1 ∧ ¬ ((0 ≤ x ∧ x ≤ 999) ∧ (0 ≤ a1 ∧ a1 < 64) ∧ (0 ≤ b1 ∧ b1 < 64) ∧ a1 ≤ b1)) ∨ (((0 ≤ x ∧ x ≤ 999) ∧ (0 ≤ a1 ∧ a1 < 64) ∧ (0 ≤ b1 ∧ b1 < 64) ∧ a1 ≤ b1) ∧ ∃ k : Int, Fst (fun z => x ≤ nO (s 2) z ∧ SomeH (s 2) (s 2 1) (nO (s 2) z) a1 b1) (s 2 1) k ∧ ((k < 0 ∧ v = -2) ∨ (0 ≤ k ∧ v = nO (s 2) k)))) (m : s2 = Z0 s ∧ ((u = -1 ∧ ¬ ((0 ≤ x ∧ x ≤ 999) ∧ (0 ≤ a1 ∧ a1 < 64) ∧ (0 ≤ b1 ∧ b1 < 64) ∧ a1 ≤ b1)) ∨ (((0 ≤ x ∧ x ≤ 999) ∧ (0 ≤ a1 ∧ a1 < 64) ∧ (0 ≤ b1 ∧ b1 < 64) ∧ a1 ≤ b1) ∧ ∃ k : Int, Fst (fun z => x ≤ nO (s 40) z ∧ SomeH (s 40) (s 40 0) (nO (s 40) z) a1 b1) (s 40 0) k ∧ ((k < 0 ∧ u = -2) ∨ (0 ≤ k ∧ u = nO (s 40) k))))) : v = u ∧ LwR s2 := by
  obtain ⟨m0, m1⟩ := m
  have q := r.1.2.2.1
  exact ⟨two c m1 (fun c m => rq_fn q (fun z z0 z1 => by have e := q.2.2 z z0 z1; rw [e.1]; exact and_congr Iff.rfl (rq_some q _ _ _)) c m), by rw [m0]; exact r.z0⟩

theorem act_cover {s s2 : HI} {x h v u : Int} (r : LwR s) (c : (v = -1 ∧ ¬ ((0 ≤ x ∧ x ≤ 999) ∧ (0 ≤ h ∧ h < 64))) ∨ (((0 ≤ x ∧ x ≤ 999) ∧ (0 ≤ h ∧ h < 64)) ∧ ∃ k : Int, Fst (fun z => nO (s 2) z = x ∧ al (s 2) z h) (s 2 1) k ∧ ((k < 0 ∧ v = -2) ∨ (0 ≤ k ∧ Top h (bO (s 2) k) (dO (s 2) k) v)))) (m : s2 = Z0 s ∧ ((u = -1 ∧ ¬ ((0 ≤ x ∧ x ≤ 999) ∧ (0 ≤ h ∧ h < 64))) ∨ (((0 ≤ x ∧ x ≤ 999) ∧ (0 ≤ h ∧ h < 64)) ∧ ∃ k : Int, Fst (fun z => nO (s 40) z = x ∧ al (s 40) z h) (s 40 0) k ∧ ((k < 0 ∧ u = -2) ∨ (0 ≤ k ∧ Top h (bO (s 40) k) (dO (s 40) k) u))))) : v = u ∧ LwR s2 := by
  obtain ⟨m0, m1⟩ := m
  have q := r.1.2.2.1
  exact ⟨two c m1 (fun c m => rq_top q (fun z z0 z1 => by have e := q.2.2 z z0 z1; rw [e.1]; exact and_congr Iff.rfl e.al) c m), by rw [m0]; exact r.z0⟩

theorem act_crowd {s s2 : HI} {y v u : Int} (r : LwR s) (c : (v = -1 ∧ ¬ (0 ≤ y ∧ y ≤ 3)) ∨ ((0 ≤ y ∧ y ≤ 3) ∧ ∃ b : Int, Amx (fun h => (if y < 2 then sm (fun z => if al (s 2) z h then 1 else 0) (s 2 1).toNat else sm (fun z => if al (s 2) z h ∧ 0 ≤ nO (s 2) z ∧ nO (s 2) z ≤ 999 then wO (s 2) z else 0) (s 2 1).toNat)) 64 b ∧ v = if y = 0 ∨ y = 2 then b else (fun h => (if y < 2 then sm (fun z => if al (s 2) z h then 1 else 0) (s 2 1).toNat else sm (fun z => if al (s 2) z h ∧ 0 ≤ nO (s 2) z ∧ nO (s 2) z ≤ 999 then wO (s 2) z else 0) (s 2 1).toNat)) b)) (m : s2 = Z0 s ∧ ((u = -1 ∧ ¬ (0 ≤ y ∧ y ≤ 3)) ∨ ((0 ≤ y ∧ y ≤ 3) ∧ ((y < 2 ∧ ∃ b, Amx (cntA (s 40) (s 40 0)) 64 b ∧ u = if y = 0 then b else (cntA (s 40) (s 40 0)) b) ∨ (2 ≤ y ∧ ∃ b, Amx (worA (s 40) (s 40 0)) 64 b ∧ u = if y = 2 then b else (worA (s 40) (s 40 0)) b))))) : v = u ∧ LwR s2 := by
  obtain ⟨m0, m1⟩ := m
  have q := r.1.2.2.1
  exact ⟨by rcases c with ⟨c1, c2⟩ | ⟨c1, c2⟩ <;> rcases m1 with ⟨m1, m2⟩ | ⟨m1, m2⟩ <;> first | (rw [c1, m1]; done) | exact absurd m1 c2 | exact absurd c1 m2 | exact rq_crowd (F := s 2) q c1 (fun hy => funext (fun t => if_pos hy)) (fun hy => funext (fun t => if_neg hy)) c2 m2, by rw [m0]; exact r.z0⟩

theorem act_count {s s2 : HI} {y v u : Int} (r : LwR s) (c : (y = 0 ∧ v = s 2 1) ∨ (y = 1 ∧ v = sm (fun z => if z = 0 ∨ nO (s 2) z ≠ nO (s 2) (z - 1) then 1 else 0) (s 2 1).toNat) ∨ (y = 2 ∧ v = s 2 0) ∨ (y = 3 ∧ v = s 3 1) ∨ (y = 4 ∧ v = s 29 1) ∨ (y = 5 ∧ v = sm (fun z => pcs (bO (s 2) z) (dO (s 2) z)) (s 2 1).toNat) ∨ ((y < 0 ∨ 5 < y) ∧ v = -1)) (m : s2 = Z0 s ∧ ((y = 0 ∧ u = s 40 0) ∨ (y = 1 ∧ u = sm (fun z => if z = 0 ∨ nO (s 40) z ≠ nO (s 40) (z - 1) then 1 else 0) (s 40 0).toNat) ∨ (y = 2 ∧ u = s 40 1) ∨ (y = 3 ∧ u = s 39 6) ∨ (y = 4 ∧ u = s 39 8) ∨ (y = 5 ∧ u = sm (fun z => pcs (bO (s 40) z) (dO (s 40) z)) (s 40 0).toNat) ∨ ((y < 0 ∨ 5 < y) ∧ u = -1))) : v = u ∧ LwR s2 := by
  obtain ⟨m0, m1⟩ := m
  have q := r.1.2.2.1
  exact ⟨by have s1 := rq_nums q; have s5 := rq_pcs q; have e0 := q.1; have e2 := q.2.1; have e3 := r.1.2.2.2.1; have e4 := r.2.2.1.1.2; rcases c with ⟨c1, c2⟩ | ⟨c1, c2⟩ | ⟨c1, c2⟩ | ⟨c1, c2⟩ | ⟨c1, c2⟩ | ⟨c1, c2⟩ | ⟨c1, c2⟩ <;> rcases m1 with ⟨m1, m2⟩ | ⟨m1, m2⟩ | ⟨m1, m2⟩ | ⟨m1, m2⟩ | ⟨m1, m2⟩ | ⟨m1, m2⟩ | ⟨m1, m2⟩ <;> first | (exfalso; clear s1 s5; omega) | (rw [c2, m2]; first | done | exact s1 | exact s5 | omega), by rw [m0]; exact r.z0⟩

theorem act_ran {s s2 : HI} {y v u : Int} (r : LwR s) (c : (s 0 8 = 0 ∧ v = -1) ∨ (s 0 8 ≠ 0 ∧ ((y = 0 ∧ v = s 0 9) ∨ (y = 1 ∧ v = s 0 10) ∨ (y = 2 ∧ v = s 0 11) ∨ (y = 3 ∧ v = s 0 12) ∨ ((y < 0 ∨ 3 < y) ∧ v = -1)))) (m : s2 = Z0 s ∧ ((s 39 21 = 0 ∧ u = -1) ∨ (s 39 21 ≠ 0 ∧ ((0 ≤ y ∧ y ≤ 3 ∧ u = s 48 y.toNat) ∨ ((y < 0 ∨ 3 < y) ∧ u = -1))))) : v = u ∧ LwR s2 := by
  obtain ⟨m0, m1⟩ := m
  have q := r.1.2.2.1
  exact ⟨by rcases r.2.2.2 with ⟨n1, n2⟩ | ⟨n1, n2, n3, n4, n5, n6⟩ <;> rcases c with ⟨c1, c2⟩ | ⟨c1, c2⟩ <;> rcases m1 with ⟨m1, m2⟩ | ⟨m1, m2⟩ <;> first | (exfalso; omega) | (rw [c2, m2]; done) | exact ran_eq n3 n4 n5 n6 c2 m2, by rw [m0]; exact r.z0⟩
