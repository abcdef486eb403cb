/-! the two objects of the law, as one relation of the heap -/
def RN (h : HI) : Prop := (h 39 21 = 0 ∧ h 0 8 = 0) ∨ (h 39 21 ≠ 0 ∧ h 0 8 ≠ 0 ∧ h 0 9 = h 48 0 ∧ h 0 10 = h 48 1 ∧ h 0 11 = h 48 2 ∧ h 0 12 = h 48 3)
def LwR (h : HI) : Prop := (CX h ∧ MX h ∧ RB h h) ∧ (FBx h ∧ FBm h) ∧ (((0 ≤ h 29 1 ∧ h 29 1 ≤ 600) ∧ h 39 8 = h 29 1) ∧ h 30 = fM h) ∧ RN h
theorem eqc_fr {M : List Nat} {h h1 : HI} (f : Fr M h h1) (hM : ∀ m ∈ M, m = 0 ∨ 28 < m) : EqC h h1 := fun i i0 i1 => f i (fun q => by have := hM i q; omega)
theorem eqm_fr {M : List Nat} {h h1 : HI} (f : Fr M h h1) (hM : ∀ m ∈ M, m < 39 ∨ 44 < m) : EqM h h1 :=
  ⟨congrFun (f 39 (fun q => by have := hM 39 q; omega)) 6, f 40 (fun q => by have := hM 40 q; omega), f 42 (fun q => by have := hM 42 q; omega), f 43 (fun q => by have := hM 43 q; omega), f 44 (fun q => by have := hM 44 q; omega)⟩
theorem RN.same {h h2 : HI} (r : RN h) (e0 : ∀ j : Nat, 8 ≤ j → j ≤ 12 → h2 0 j = h 0 j) (e21 : h2 39 21 = h 39 21) (e48 : h2 48 = h 48) : RN h2 := by
  unfold RN
  rw [e21, e48, e0 8 (by decide) (by decide), e0 9 (by decide) (by decide), e0 10 (by decide) (by decide), e0 11 (by decide) (by decide), e0 12 (by decide) (by decide)]; exact r
theorem LwR.same {h h2 : HI} (r : LwR h) (e1 : EqC h h2) (e2 : EqM h h2) (e0 : ∀ j : Nat, 8 ≤ j → j ≤ 12 → h2 0 j = h 0 j) (l : (0 ≤ h2 29 1 ∧ h2 29 1 ≤ 600) ∧ h2 39 8 = h2 29 1) (e30 : h2 30 = h 30) (e45 : h2 45 = h 45) (e21 : h2 39 21 = h 39 21) (e48 : h2 48 = h 48) (fx : FBx h2) (fm : FBm h2) : LwR h2 := by
  obtain ⟨⟨cx, mx, rb⟩, -, ⟨-, b⟩, rn⟩ := r
  refine ⟨⟨cx.eq e1, mx.eq e2, (rb.eqc e1).eqm e2⟩, ⟨fx, fm⟩, ⟨l, ?_⟩, rn.same e0 e21 e48⟩
  rw [e30, b]; funext j; unfold fM; rw [e45]
theorem z0_39 {h : HI} {j : Nat} (hj : j ≠ 0) : Z0 h 39 j = h 39 j := by unfold Z0; rw [hput_same, updI_ne _ _ hj]
theorem z0_p {h : HI} {p : Nat} (hp : p ≠ 39) : Z0 h p = h p := by unfold Z0; rw [hput_ne _ _ hp]
/-- an asking that leaves no trace but the sign of a throw -/
theorem LwR.z0 {h : HI} (r : LwR h) : LwR (Z0 h) := by
  refine r.same (fun i i0 i1 => z0_p (by omega)) ⟨z0_39 (by decide), z0_p (by decide), z0_p (by decide), z0_p (by decide), z0_p (by decide)⟩ (fun j _ _ => by rw [z0_p (by decide)]) ?_ (z0_p (by decide)) (z0_p (by decide)) (z0_39 (by decide)) (z0_p (by decide)) ?_ ?_
  · rw [z0_p (p := 29) (by decide), z0_39 (by decide)]; exact r.2.2.1.1
  · exact fun j hj => by rw [z0_p (p := 36) (by decide)]; exact r.2.1.1 j hj
  · exact fun j hj => by rw [z0_p (p := 51) (by decide)]; exact r.2.1.2 j hj
/-- an edit on both sides -/
theorem LwR.edit {h h1 h2 : HI} {M1 M2 : List Nat} (r : LwR h) (f1 : Fr M1 h h1) (hM : ∀ m ∈ M1, 2 ≤ m ∧ m ≤ 28) (f2 : Fr M2 h1 h2) (hN : ∀ m ∈ M2, 39 ≤ m ∧ m ≤ 44) (cx : CX h1) (mx : MX h2) (rb : RB h1 h2) (e8 : h2 39 8 = h1 39 8) (e21 : h2 39 21 = h1 39 21) : LwR h2 := by
  obtain ⟨-, ⟨fx, fm⟩, ⟨⟨l1, l2⟩, l3⟩, rn⟩ := r
  have k : ∀ p : Nat, (p < 2 ∨ (28 < p ∧ p < 39) ∨ 44 < p) → h2 p = h p := fun p hp => (f2 p (fun q => by have := hN p q; omega)).trans (f1 p (fun q => by have := hM p q; omega))
  have k39 : h1 39 = h 39 := f1 39 (fun q => by have := hM 39 q; omega)
  have ec : EqC h1 h2 := eqc_fr f2 (fun m q => by have := hN m q; omega)
  refine ⟨⟨cx.eq ec, mx, rb.eqc ec⟩, ⟨fun j hj => by rw [k 36 (by omega)]; exact fx j hj, fun j hj => by rw [k 51 (by omega)]; exact fm j hj⟩, ⟨⟨by rw [k 29 (by omega)]; exact l1, by rw [k 29 (by omega), e8, k39]; exact l2⟩, ?_⟩, rn.same (fun j _ _ => by rw [k 0 (by omega)]) (by rw [e21, k39]) (k 48 (by omega))⟩
  rw [k 30 (by omega), l3]; funext j; unfold fM; rw [k 45 (by omega)]
theorem act_do {h h1 h2 : HI} {M1 : List Nat} {ve n t o w v u : Int} (r : LwR h) (f1 : Fr M1 h h1) (hM : ∀ m ∈ M1, 2 ≤ m ∧ m ≤ 28) (c : DoC h h1 ve n t o w v) (m : DoM h1 h2 ve n t o w u) (f2 : Fr [39, 40, 41, 42] h1 h2) : v = u ∧ LwR h2 := by
  have em : EqM h h1 := eqm_fr f1 (fun m q => by have := hM m q; omega)
  have mx1 := r.1.2.1.eq em
  obtain ⟨e, rb⟩ := rb_do (r.1.2.2.eqm em) r.1.1 mx1 c m f2
  exact ⟨e, r.edit f1 hM f2 (by decide) (DoC.cx r.1.1 c) (DoM.mx mx1 m f2) rb (m.ff 8 (by decide)) (m.ff 21 (by decide))⟩
theorem act_lock {h h1 h2 : HI} {x v u : Int} (r : LwR h) (f1 : Fr [2] h h1) (c : C_lock h h1 x v) (m : M_lock h1 h2 x u) (f2 : Fr [39, 40] h1 h2) : v = u ∧ LwR h2 := by
  have em : EqM h h1 := eqm_fr f1 (by decide)
  have mx1 := r.1.2.1.eq em
  obtain ⟨e, rb⟩ := rb_lock (r.1.2.2.eqm em) c m
  have f3 : Fr [39, 40, 41, 42] h1 h2 := fun i hi => f2 i (fun q => hi (by simp at q ⊢; omega))
  have dc : DoC h h1 21 0 x 0 0 (if v = -1 then 1 else 0) := DoC.lock ⟨v, c, rfl⟩
  have dm : DoM h1 h2 21 0 x 0 0 (if u = -1 then 1 else 0) := DoM.lock ⟨u, m, rfl⟩
  exact ⟨e, r.edit f1 (by decide) f3 (by decide) (DoC.cx r.1.1 dc) (DoM.mx mx1 dm f3) rb (dm.ff 8 (by decide)) (dm.ff 21 (by decide))⟩
theorem act_undo {h h1 h2 : HI} {v u : Int} (r : LwR h) (f1 : Fr [2, 3] h h1) (c : C_undo h h1 v) (m : M_undo h1 h2 u) (f2 : Fr [39, 40] h1 h2) : v = u ∧ LwR h2 := by
  have em : EqM h h1 := eqm_fr f1 (by decide)
  have mx1 := r.1.2.1.eq em
  have f3 : Fr [39, 40, 41, 42] h1 h2 := fun i hi => f2 i (fun q => hi (by simp at q ⊢; omega))
  obtain ⟨e, rb⟩ := rb_undo (r.1.2.2.eqm em) r.1.1 c m f3
  have dc : DoC h h1 22 0 0 0 0 (if v = -1 then 2 else 0) := DoC.undo ⟨v, c, rfl⟩
  have dm : DoM h1 h2 22 0 0 0 0 (if u = -1 then 2 else 0) := DoM.undo ⟨u, m, rfl⟩
  exact ⟨e, r.edit f1 (by decide) f3 (by decide) (DoC.cx r.1.1 dc) (DoM.mx mx1 dm f3) rb (dm.ff 8 (by decide)) (dm.ff 21 (by decide))⟩
/-! rows alike: the same answers -/
theorem lifeB_same {f g : Nat → Int} {z : Int} (e : SameE f z g z) : lifeB f z = lifeB g z := by
  unfold lifeB; rw [e.1, e.2.1, e.2.2.1, e.2.2.2]
theorem repB_same {f g : Nat → Int} : ∀ {n : Nat}, (∀ z : Int, 0 ≤ z → z < n → SameE f z g z) → repB f n = repB g n
  | 0, _ => rfl
  | n + 1, h => by
    show repB f n ++ lifeB f n = repB g n ++ lifeB g n
    rw [repB_same (n := n) (fun z z0 z1 => h z z0 (by omega)), lifeB_same (h n (by omega) (by omega))]
theorem RQ.rep {f g : Nat → Int} (h : RQ f g) (n0 : 0 ≤ f 1) (i : Int) : repV f (f 1) i = repV g (g 0) i := by
  have e : repB f (f 1).toNat = repB g (f 1).toNat := repB_same (fun z z0 z1 => h.2.2 z z0 (by omega))
  unfold repV; rw [← h.1, e]
theorem act_report {h h1 h2 : HI} {x v u : Int} (r : LwR h) (f1 : Fr [37, 38] h h1) (c : v = repV (h 2) (h 2 1) x) (f2 : Fr [39, 53] h1 h2) (g2 : FF 39 [0, 32] h1 h2) (m : u = repV (h1 40) (h1 40 0) x ∧ h2 39 0 = 0) : v = u ∧ LwR h2 := by
  have k : ∀ p : Nat, p ∉ [37, 38, 39, 53] → h2 p = h p := fun p hp => (f2 p (fun q => hp (by simp at q ⊢; omega))).trans (f1 p (fun q => hp (by simp at q ⊢; omega)))
  have k39 : ∀ j : Nat, j ∉ [0, 32] → h2 39 j = h 39 j := fun j hj => (g2 j hj).trans (congrFun (f1 39 (by decide)) j)
  refine ⟨?_, r.same (fun i i0 i1 => k i (fun q => by simp at q; omega)) ⟨k39 6 (by decide), k 40 (by decide), k 42 (by decide), k 43 (by decide), k 44 (by decide)⟩ (fun j _ _ => by rw [k 0 (by decide)]) ?_ (k 30 (by decide)) (k 45 (by decide)) (k39 21 (by decide)) (k 48 (by decide)) ?_ ?_⟩
  · rw [c, m.1, f1 40 (by decide)]; exact r.1.2.2.1.rep r.1.1.1.1.1.1 x
  · rw [k 29 (by decide), k39 8 (by decide)]; exact r.2.2.1.1
  · exact fun j hj => by rw [k 36 (by decide)]; exact r.2.1.1 j hj
  · exact fun j hj => by rw [k 51 (by decide)]; exact r.2.1.2 j hj
/-! feeding -/
theorem f4_eq {f g f2 g2 : Nat → Int} {n x : Int} (h : ∀ j, f j = g j % 256) (a : F4 f f2 n x) (b : F4m g g2 n x) : ∀ j, f2 j = g2 j % 256 := fun j => by
  by_cases q : n ≤ j ∧ (j : Int) < n + 4
  · rw [(a j).1 q, (b j).1 q]
  · rw [(a j).2 q, (b j).2 q]; exact h j
theorem act_feed {h h1 h2 : HI} {v u x1 x2 x3 x4 x5 : Int} (r : LwR h) (f1 : Fr [29, 30] h h1) (c : (600 < h 29 1 + 20 ∧ v = -1 ∧ h1 = h) ∨ (h 29 1 + 20 ≤ 600 ∧ v = h 29 1 + 20 ∧ h1 29 = updI (h 29) 1 (h 29 1 + 20) ∧ ∃ g1 g2 g3 g4 : Nat → Int, F4 (h 30) g1 (h 29 1) x1 ∧ F4 g1 g2 (h 29 1 + 4) x2 ∧ F4 g2 g3 (h 29 1 + 8) x3 ∧ F4 g3 g4 (h 29 1 + 12) x4 ∧ F4 g4 (h1 30) (h 29 1 + 16) x5)) (f2 : Fr [39, 45] h1 h2) (m : (600 < h1 39 8 + 20 ∧ u = -1 ∧ h2 = Z0 h1) ∨ (h1 39 8 + 20 ≤ 600 ∧ u = h1 39 8 + 20 ∧ h2 39 = updI ((Z0 h1) 39) 8 (h1 39 8 + 20) ∧ ∃ g1 g2 g3 g4 : Nat → Int, F4m (h1 45) g1 (h1 39 8) x1 ∧ F4m g1 g2 (h1 39 8 + 4) x2 ∧ F4m g2 g3 (h1 39 8 + 8) x3 ∧ F4m g3 g4 (h1 39 8 + 12) x4 ∧ F4m g4 (h2 45) (h1 39 8 + 16) x5)) : v = u ∧ LwR h2 := by
  have k39 : h1 39 = h 39 := f1 39 (by decide)
  have k45 : h1 45 = h 45 := f1 45 (by decide)
  have l := r.2.2.1.1
  rw [k39, l.2, k45] at m
  rcases c with ⟨c1, c2, c3⟩ | ⟨c1, c2, c3, g1, g2, g3, g4, c4, c5, c6, c7, c8⟩
  · rcases m with ⟨m1, m2, m3⟩ | ⟨m1, -⟩
    · rw [m3, c3, c2, m2]; exact ⟨rfl, r.z0⟩
    · omega
  · rcases m with ⟨m1, -⟩ | ⟨m1, m2, m3, e1, e2, e3, e4, m4, m5, m6, m7, m8⟩
    · omega
    · have b := r.2.2.1.2
      have w0 : ∀ j, h 30 j = h 45 j % 256 := fun j => by rw [b]; rfl
      have w5 := f4_eq (f4_eq (f4_eq (f4_eq (f4_eq w0 c4 m4) c5 m5) c6 m6) c7 m7) c8 m8
      have k : ∀ p : Nat, p ∉ [29, 30, 39, 45] → h2 p = h p := fun p hp => (f2 p (fun q => hp (by simp at q ⊢; omega))).trans (f1 p (fun q => hp (by simp at q ⊢; omega)))
      have z39 : ∀ j : Nat, j ≠ 0 → j ≠ 8 → h2 39 j = h 39 j := fun j j0 j8 => by rw [m3, updI_ne _ _ j8, z0_39 j0, k39]
      obtain ⟨⟨cx, mx, rb⟩, ⟨fx, fm⟩, -, rn⟩ := r
      have ec : EqC h h2 := fun i i0 i1 => k i (fun q => by simp at q; omega)
      have em : EqM h h2 := ⟨z39 6 (by decide) (by decide), k 40 (by decide), k 42 (by decide), k 43 (by decide), k 44 (by decide)⟩
      have e29 : h2 29 1 = h 29 1 + 20 := by rw [f2 29 (by decide), c3, updI_same]
      refine ⟨by rw [c2, m2], ⟨cx.eq ec, mx.eq em, (rb.eqc ec).eqm em⟩, ⟨fun j hj => by rw [k 36 (by decide)]; exact fx j hj, fun j hj => by rw [k 51 (by decide)]; exact fm j hj⟩, ⟨⟨by omega, by rw [e29, m3, updI_same]⟩, ?_⟩, rn.same (fun j _ _ => by rw [k 0 (by decide)]) (z39 21 (by decide) (by decide)) (k 48 (by decide))⟩
      rw [f2 30 (by decide)]; funext j; exact w5 j
