/-! keeping on both sides -/
theorem keep_put {h h1 h2 : HI} {K : Nat} (hK : K < 2) (r : LwR h) (e : h1 = hput (hput h (26 + K) (cpyI (h 2) (h (26 + K)) 0 0 162)) 28 (updI (h 28) K 1)) (e39 : h2 39 = (Z0 h1) 39) (e40 : h2 40 = h1 40) (e42 : h2 42 = h1 42) (e43 : h2 43 = cpyI (h1 40) (h1 43) 0 (166 * K) 166) (e44 : h2 44 = updI (h1 44) K 1) : CX h1 ∧ MX h2 ∧ RB h1 h2 := by
  obtain ⟨⟨cx, mx, rb⟩, -⟩ := r
  have o : ∀ p : Nat, p ≠ 26 + K → p ≠ 28 → h1 p = h p := fun p p1 p2 => by rw [e, hput_ne _ _ p2, hput_ne _ _ p1]
  have o28 : h1 28 = updI (h 28) K 1 := by rw [e, hput_same]
  have oK : h1 (26 + K) = cpyI (h 2) (h (26 + K)) 0 0 162 := by rw [e, hput_ne _ _ (by omega), hput_same]
  have cK : ∀ j : Nat, j < 162 → h1 (26 + K) j = h 2 j := fun j hj => by rw [oK, cpy_in ⟨Nat.zero_le _, by omega⟩, Nat.zero_add, Nat.sub_zero]
  have b := rg_bd
  have o2 : h1 2 = h 2 := o 2 (by omega) (by decide)
  have o3 : h1 3 = h 3 := o 3 (by omega) (by decide)
  have m40 : h2 40 = h 40 := by rw [e40, o 40 (by omega) (by decide)]
  have m42 : h2 42 = h 42 := by rw [e42, o 42 (by omega) (by decide)]
  have m6 : h2 39 6 = h 39 6 := by rw [e39, z0_39 (by decide), o 39 (by omega) (by decide)]
  have m43 : h2 43 = cpyI (h 40) (h 43) 0 (166 * K) 166 := by rw [e43, o 40 (by omega) (by decide), o 43 (by omega) (by decide)]
  have m44 : h2 44 = updI (h 44) K 1 := by rw [e44, o 44 (by omega) (by decide)]
  have rK : ∀ j : Nat, j < 162 → rowA (h2 43) (166 * K) j = h 40 j := fun j hj => by
    show h2 43 (166 * K + j) = h 40 j
    rw [m43, cpy_in ⟨by omega, by omega⟩]; congr 1; omega
  have rj : ∀ i : Nat, i < 2 → i ≠ K → ∀ j : Nat, j < 162 → rowA (h2 43) (166 * i) j = rowA (h 43) (166 * i) j := fun i hi hne j hj => by
    show h2 43 (166 * i + j) = h 43 (166 * i + j)
    rw [m43, cpy_out (by omega)]
  refine ⟨⟨by rw [o2]; exact cx.1, by rw [o3]; exact cx.2.1, fun j j0 j1 => ?_, fun i hi hne => ?_⟩, ⟨by rw [m40]; exact mx.1, by rw [m6]; exact mx.2.1, fun j hj => by rw [m42]; rw [m6] at hj; exact mx.2.2.1 j hj, fun i hi hne => ?_⟩, by rw [o2, m40]; exact rb.1, by rw [o3, m6]; exact rb.2.1, fun j j0 j1 => ?_, fun i hi => ⟨?_, fun hne => ?_⟩⟩
  · rw [o3] at j1 ⊢
    rw [o _ (by have := b (h 3 2) j; omega) (by have := b (h 3 2) j; omega)]; exact cx.2.2.1 j j0 j1
  · by_cases q : i = K
    · subst q; exact GC.cong cx.1 cK
    · rw [o28, updI_ne _ _ q] at hne
      rw [o (26 + i) (by omega) (by omega)]; exact cx.2.2.2 i hi hne
  · by_cases q : i = K
    · subst q; exact GM.cong mx.1 rK
    · rw [m44, updI_ne _ _ q] at hne
      exact GM.cong (mx.2.2.2 i hi hne) (rj i hi q)
  · rw [o3] at j1 ⊢
    rw [m42, m6, o _ (by have := b (h 3 2) j; omega) (by have := b (h 3 2) j; omega)]; exact rb.2.2.1 j j0 j1
  · rw [o28, m44]
    by_cases q : i = K
    · subst q; rw [updI_same, updI_same]
    · rw [updI_ne _ _ q, updI_ne _ _ q]; exact (rb.2.2.2 i hi).1
  · by_cases q : i = K
    · subst q; exact RQ.cong rb.1 cx.1 cK rK
    · rw [o28, updI_ne _ _ q] at hne
      rw [o (26 + i) (by omega) (by omega)]
      exact RQ.cong ((rb.2.2.2 i hi).2 hne) (cx.2.2.2 i hi hne) (fun _ _ => rfl) (rj i hi q)
theorem keep_get {h h1 h2 : HI} {K : Nat} (hK : K < 2) (r : LwR h) (hne : h 28 K ≠ 0) (e : h1 = hput (hput h 2 (cpyI (h (26 + K)) (h 2) 0 0 162)) 3 (updI (h 3) 1 0)) (e39 : h2 39 = updI ((Z0 h1) 39) 6 0) (e40 : h2 40 = cpyI (h1 43) (h1 40) (166 * K) 0 166) (e42 : h2 42 = h1 42) (e43 : h2 43 = h1 43) (e44 : h2 44 = h1 44) : CX h1 ∧ MX h2 ∧ RB h1 h2 := by
  obtain ⟨⟨cx, mx, rb⟩, -⟩ := r
  have o : ∀ p : Nat, p ≠ 2 → p ≠ 3 → h1 p = h p := fun p p1 p2 => by rw [e, hput_ne _ _ p2, hput_ne _ _ p1]
  have o3 : h1 3 = updI (h 3) 1 0 := by rw [e, hput_same]
  have o2 : h1 2 = cpyI (h (26 + K)) (h 2) 0 0 162 := by rw [e, hput_ne _ _ (by decide), hput_same]
  have c2 : ∀ j : Nat, j < 162 → h1 2 j = h (26 + K) j := fun j hj => by rw [o2, cpy_in ⟨Nat.zero_le _, by omega⟩, Nat.zero_add, Nat.sub_zero]
  have m40 : h2 40 = cpyI (h 43) (h 40) (166 * K) 0 166 := by rw [e40, o 43 (by decide) (by decide), o 40 (by decide) (by decide)]
  have r2 : ∀ j : Nat, j < 162 → h2 40 j = rowA (h 43) (166 * K) j := fun j hj => by
    rw [m40, cpy_in ⟨Nat.zero_le _, by omega⟩, Nat.sub_zero]; rfl
  have m6 : h2 39 6 = 0 := by rw [e39, updI_same]
  have o31 : h1 3 1 = 0 := by rw [o3, updI_same]
  have o32 : h1 3 2 = h 3 2 := by rw [o3, updI_ne _ _ (by decide)]
  have kk := rb.2.2.2 K hK
  have m43 : h2 43 = h 43 := by rw [e43, o 43 (by decide) (by decide)]
  have m44 : h2 44 = h 44 := by rw [e44, o 44 (by decide) (by decide)]
  have o28 : h1 28 = h 28 := o 28 (by decide) (by decide)
  refine ⟨⟨GC.cong (cx.2.2.2 K hK hne) c2, by rw [o31, o32]; exact ⟨by decide, cx.2.1.2⟩, fun j j0 j1 => by omega, fun i hi hq => ?_⟩, ⟨GM.cong (mx.2.2.2 K hK (by rw [← kk.1]; exact hne)) r2, by rw [m6]; decide, fun j hj => by omega, fun i hi hq => ?_⟩, RQ.cong (kk.2 hne) (cx.2.2.2 K hK hne) c2 r2, by rw [o31, m6], fun j j0 j1 => by omega, fun i hi => ?_⟩
  · rw [o28] at hq
    rw [o (26 + i) (by omega) (by omega)]; exact cx.2.2.2 i hi hq
  · rw [m44] at hq
    rw [m43]; exact mx.2.2.2 i hi hq
  · rw [o28, m44, m43, o (26 + i) (by omega) (by omega)]; exact rb.2.2.2 i hi
theorem act_keep {h h1 h2 : HI} {k b v u : Int} (r : LwR h) (f1 : Fr [2, 3, 26, 27, 28] h h1) (c : (v = 0 ∧ (¬ (0 ≤ k ∧ k < 2) ∨ (b = 1 ∧ h 28 k.toNat = 0)) ∧ h1 = h) ∨ (v = 1 ∧ (0 ≤ k ∧ k < 2) ∧ b = 0 ∧ h1 = hput (hput h (26 + k.toNat) (cpyI (h 2) (h (26 + k.toNat)) 0 0 162)) 28 (updI (h 28) k.toNat 1)) ∨ (v = 1 ∧ (0 ≤ k ∧ k < 2) ∧ b = 1 ∧ h 28 k.toNat ≠ 0 ∧ h1 = hput (hput h 2 (cpyI (h (26 + k.toNat)) (h 2) 0 0 162)) 3 (updI (h 3) 1 0))) (f2 : Fr [39, 40, 43, 44] h1 h2) (m : (u = 0 ∧ (¬ (0 ≤ k ∧ k ≤ 1) ∨ (b = 1 ∧ h1 44 k.toNat = 0)) ∧ h2 = Z0 h1) ∨ (u = 1 ∧ (0 ≤ k ∧ k ≤ 1) ∧ b = 1 ∧ h1 44 k.toNat ≠ 0 ∧ h2 39 = updI ((Z0 h1) 39) 6 0 ∧ h2 40 = cpyI (h1 43) (h1 40) (166 * k).toNat 0 166 ∧ h2 43 = h1 43 ∧ h2 44 = h1 44) ∨ (u = 1 ∧ (0 ≤ k ∧ k ≤ 1) ∧ b = 0 ∧ h2 39 = (Z0 h1) 39 ∧ h2 40 = h1 40 ∧ h2 43 = cpyI (h1 40) (h1 43) 0 (166 * k).toNat 166 ∧ h2 44 = updI (h1 44) k.toNat 1)) : v = u ∧ LwR h2 := by
  have k44 : h1 44 = h 44 := f1 44 (by decide)
  rw [k44] at m
  have kk : 0 ≤ k ∧ k < 2 → h 28 k.toNat = h 44 k.toNat := fun q => (r.1.2.2.2.2.2 k.toNat (by omega)).1
  rcases c with ⟨c1, c2, c3⟩ | ⟨c1, c2, c3, c4⟩ | ⟨c1, c2, c3, c4, c5⟩ <;> rcases m with ⟨m1, m2, m3⟩ | ⟨m1, m2, m3, m4, m5, m6, m7, m8⟩ | ⟨m1, m2, m3, m4, m5, m6, m7⟩
  · rw [m3, c3, c1, m1]; exact ⟨rfl, r.z0⟩
  · exfalso
    rcases c2 with c2 | ⟨c2, c4⟩
    · omega
    · exact m4 (by rw [← kk (by omega)]; exact c4)
  · exfalso
    rcases c2 with c2 | ⟨c2, c4⟩ <;> omega
  · exfalso
    rcases m2 with m2 | ⟨m2, m4⟩ <;> omega
  · omega
  · obtain ⟨a1, a2, a3⟩ := keep_put (K := k.toNat) (by omega) r c4 m4 m5 (f2 42 (by decide)) (by rw [show 166 * k.toNat = (166 * k).toNat by omega]; exact m6) (by rw [k44]; exact m7)
    exact ⟨by omega, r.edit f1 (by decide) f2 (by decide) a1 a2 a3 (by rw [m4, z0_39 (by decide)]) (by rw [m4, z0_39 (by decide)])⟩
  · exfalso
    rcases m2 with m2 | ⟨m2, m4⟩
    · omega
    · exact c4 (by rw [kk c2]; exact m4)
  · obtain ⟨a1, a2, a3⟩ := keep_get (K := k.toNat) (by omega) r c4 c5 m5 (by rw [show 166 * k.toNat = (166 * k).toNat by omega]; exact m6) (f2 42 (by decide)) m7 (by rw [k44]; exact m8)
    exact ⟨by omega, r.edit f1 (by decide) f2 (by decide) a1 a2 a3 (by rw [m5, updI_ne _ _ (by decide), z0_39 (by decide)]) (by rw [m5, updI_ne _ _ (by decide), z0_39 (by decide)])⟩
  · omega
