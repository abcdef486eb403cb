theorem LwR.put0 {h : HI} (r : LwR h) (x : Int) : LwR (hput h 39 (updI (h 39) 0 x)) := by
  have p : ∀ q : Nat, q ≠ 39 → hput h 39 (updI (h 39) 0 x) q = h q := fun q hq => hput_ne _ _ hq
  have p39 : ∀ j : Nat, j ≠ 0 → hput h 39 (updI (h 39) 0 x) 39 j = h 39 j := fun j hj => by rw [hput_same, updI_ne _ _ hj]
  refine r.same (fun i i0 i1 => p i (by omega)) ⟨p39 6 (by decide), p 40 (by decide), p 42 (by decide), p 43 (by decide), p 44 (by decide)⟩ (fun j _ _ => by rw [p 0 (by decide)]) ?_ (p 30 (by decide)) (p 45 (by decide)) (p39 21 (by decide)) (p 48 (by decide)) ?_ ?_
  · rw [p 29 (by decide), p39 8 (by decide)]; exact r.2.2.1.1
  · exact fun j hj => by rw [p 36 (by decide)]; exact r.2.1.1 j hj
  · exact fun j hj => by rw [p 51 (by decide)]; exact r.2.1.2 j hj
theorem LwR.fr54 {h h1 : HI} (r : LwR h) (f : Fr [54] h h1) : LwR h1 := by
  have p : ∀ q : Nat, q ≠ 54 → h1 q = h q := fun q hq => f q (by simp; exact hq)
  refine r.same (fun i i0 i1 => p i (by omega)) ⟨by rw [p 39 (by decide)], p 40 (by decide), p 42 (by decide), p 43 (by decide), p 44 (by decide)⟩ (fun j _ _ => by rw [p 0 (by decide)]) ?_ (p 30 (by decide)) (p 45 (by decide)) (by rw [p 39 (by decide)]) (p 48 (by decide)) ?_ ?_
  · rw [p 29 (by decide), p 39 (by decide)]; exact r.2.2.1.1
  · exact fun j hj => by rw [p 36 (by decide)]; exact r.2.1.1 j hj
  · exact fun j hj => by rw [p 51 (by decide)]; exact r.2.1.2 j hj
theorem act_life {s s1 s2 : HI} {k y j u : Int} (r : LwR s) (f1 : Fr [54] s s1) (c : (j = 0 ∧ ((0 ≤ k ∧ k < s 2 1) ∧ 0 ≤ y ∧ y ≤ 4) ∧ ((y = 4 ∧ s1 54 0 = pcs (bO (s 2) k) (dO (s 2) k)) ∨ (y < 4 ∧ s1 54 0 = eO (s 2) k y))) ∨ (j = 1 ∧ ((k < 0 ∨ s 2 1 ≤ k) ∨ y < 0 ∨ 4 < y))) (m : (((k < 0 ∨ s1 40 0 ≤ k) ∨ y < 0 ∨ 4 < y) ∧ u = 0 ∧ s2 = hput s1 39 (updI (s1 39) 0 1)) ∨ (((0 ≤ k ∧ k < s1 40 0) ∧ 0 ≤ y ∧ y ≤ 4) ∧ s2 = Z0 s1 ∧ ((y = 4 ∧ u = pcs (bO (s1 40) k) (dO (s1 40) k)) ∨ (y < 4 ∧ u = eO (s1 40) k y)))) : s2 39 0 = j ∧ (j = 0 → s2 54 0 = u) ∧ LwR s2 := by
  have r1 := r.fr54 f1
  have q := r.1.2.2.1
  have o40 : s1 40 = s 40 := f1 40 (by decide)
  rw [o40] at m
  rcases c with ⟨c1, ⟨c2, c3⟩, c4⟩ | ⟨c1, c2⟩ <;> rcases m with ⟨m1, m2, m3⟩ | ⟨⟨m1, m2⟩, m3, m4⟩
  · exfalso; have := q.1; omega
  · have e := q.2.2 k c2.1 c2.2
    refine ⟨by rw [m3]; unfold Z0; rw [hput_same, updI_same]; exact c1.symm, fun _ => ?_, by rw [m3]; exact r1.z0⟩
    rw [m3, z0_p (by decide)]
    rcases c4 with ⟨c4, c5⟩ | ⟨c4, c5⟩ <;> rcases m4 with ⟨m4, m5⟩ | ⟨m4, m5⟩
    · rw [c5, m5, e.2.1, e.2.2.1]
    · omega
    · omega
    · rw [c5, m5]
      rcases (show y = 0 ∨ y = 1 ∨ y = 2 ∨ y = 3 by omega) with z | z | z | z <;> subst z
      · exact e.1
      · exact e.2.1
      · exact e.2.2.1
      · exact e.2.2.2
  · refine ⟨by rw [m3, hput_same, updI_same]; exact c1.symm, fun z => by omega, by rw [m3]; exact r1.put0 1⟩
  · exfalso; have := q.1; omega

abbrev kX8_thrown : Kd := (cX8_thrown, .code yX8_thrown cX8_thrown 1 (some .int) :: wsL_law0, rmL 1, RX8, (some .int), 1)
theorem ct_X8_thrown : Ct kX8_thrown yX8_thrown (fun a hi Q => a = [AR 40] ∧ (True) ∧ ∀ v : Int, (v = hi 39 0 ∧ inR v) → Q (AI v) hi) := by
  refine Ct.of (ws' := _) (by decide +kernel) rfl rfl ?_
  intro a hi Q hT
  obtain ⟨rfl, hpre, hQ⟩ := hT
  refine ⟨Nat.le_of_ble_eq_true rfl, ?_⟩
  show Z kX8_thrown Q 0 [(0, AR 40)] [] hi
  refine z_aload_n (pc := 0) (x := 40) dX8_thrown_0 rfl 0 rfl ?_
  refine z_getI (pc := 1) (pl := 39) (f := 0) (ci := 7) (C := RX8) (T := TX8) (N := 33) hu_X8 (by decide) rfl rfl (by decide) rfl (List.mem_cons_of_mem _ (iw8 _ (List.mem_of_getElem? (i := 22) rfl))) rfl (by decide) dX8_thrown_1 (fun v1 ev1 rv1 => ?_)
  refine z_iret (pc := 4) rfl dX8_thrown_4 ?_
  exact hQ v1 (⟨by assumption, by assumption⟩)
