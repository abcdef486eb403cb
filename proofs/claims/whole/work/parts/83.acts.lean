/-! the edits asked for one by one, and the start -/
def MED : List Nat := [2, 3, 5, 6, 7, 8, 9, 10, 11, 12, 13, 14, 15, 16, 17, 18, 19, 20, 21, 22, 23, 24]
theorem med_rg : ∀ m ∈ MED, 2 ≤ m ∧ m ≤ 28 := by decide
section ACTS
variable {h h1 h2 : HI} {x t y b d w v u : Int}
theorem act_born (r : LwR h) (f1 : Fr MED h h1) (c : SpP h h1 x b 64 w v) (f2 : Fr [39, 40, 41, 42] h1 h2) (m : SpM (Z0 h1) h2 x b 64 w u) : v = u ∧ LwR h2 := act_do r f1 med_rg (DoC.born (o := 0) c) (DoM.born (o := 0) m) f2
theorem act_span (r : LwR h) (f1 : Fr MED h h1) (c : SpP h h1 x b d w v) (f2 : Fr [39, 40, 41, 42] h1 h2) (m : SpM (Z0 h1) h2 x b d w u) : v = u ∧ LwR h2 := act_do r f1 med_rg (DoC.span c) (DoM.span m) f2
theorem act_died (r : LwR h) (f1 : Fr MED h h1) (c : C_died h h1 x t v) (f2 : Fr [39, 40, 41, 42] h1 h2) (m : M_died h1 h2 x t u) : v = u ∧ LwR h2 := act_do r f1 med_rg (DoC.died (o := 0) (w := 0) c) (DoM.died (o := 0) (w := 0) m) f2
theorem act_unborn (r : LwR h) (f1 : Fr MED h h1) (c : C_unborn h h1 x t v) (f2 : Fr [39, 40, 41, 42] h1 h2) (m : M_unborn h1 h2 x t u) : v = u ∧ LwR h2 := act_do r f1 med_rg (DoC.unborn (o := 0) (w := 0) c) (DoM.unborn (o := 0) (w := 0) m) f2
theorem act_revived (r : LwR h) (f1 : Fr MED h h1) (c : C_revived h h1 x t v) (f2 : Fr [39, 40, 41, 42] h1 h2) (m : M_revived h1 h2 x t u) : v = u ∧ LwR h2 := act_do r f1 med_rg (DoC.revived (o := 0) (w := 0) c) (DoM.revived (o := 0) (w := 0) m) f2
theorem act_shifted (r : LwR h) (f1 : Fr MED h h1) (c : C_shifted h h1 x t y v) (f2 : Fr [39, 40, 41, 42] h1 h2) (m : M_shifted h1 h2 x t y u) : v = u ∧ LwR h2 := act_do r f1 med_rg (DoC.shifted (w := 0) c) (DoM.shifted (w := 0) m) f2
theorem act_worthed (r : LwR h) (f1 : Fr MED h h1) (c : C_worthed h h1 x t w v) (f2 : Fr [39, 40, 41, 42] h1 h2) (m : M_worthed h1 h2 x t w u) : v = u ∧ LwR h2 := act_do r f1 med_rg (DoC.worthed (o := 0) c) (DoM.worthed (o := 0) m) f2
end ACTS
theorem ri_0 {f : Nat → Int} {n : Int} (h : n = 0) : RI f n := ⟨by omega, fun z z0 z1 => by omega, fun z z0 z1 => by omega⟩
/-- two new objects -/
theorem law_0 {h : HI} (a0 : h 2 0 = 0) (a1 : h 2 1 = 0) (b1 : h 3 1 = 0) (b2 : 0 ≤ h 3 2 ∧ h 3 2 < 20) (c : ∀ k : Nat, k < 2 → h 28 k = 0) (d0 : h 40 0 = 0) (d1 : h 40 1 = 0) (e6 : h 39 6 = 0) (g : ∀ k : Nat, k < 2 → h 44 k = 0) (fx : ∀ j : Nat, j < 6 → h 36 j = 0) (fm : ∀ j : Nat, j < 6 → h 51 j = 0) (l1 : h 29 1 = 0) (l2 : h 39 8 = 0) (bt : ∀ j : Nat, h 30 j = h 45 j % 256) (r1 : h 39 21 = 0) (r2 : h 0 8 = 0) : LwR h :=
  ⟨⟨⟨⟨ri_0 a1, by omega⟩, by omega, fun j j0 j1 => by omega, fun k hk hne => absurd (c k hk) hne⟩, ⟨⟨ri_0 d0, by omega⟩, by omega, fun j hj => by omega, fun k hk hne => absurd (g k hk) hne⟩, ⟨by omega, by omega, fun z z0 z1 => by omega⟩, by omega, fun j j0 j1 => by omega, fun k hk => ⟨by rw [c k hk, g k hk], fun hne => absurd (c k hk) hne⟩⟩,
   ⟨fun j hj => by rw [fx j hj]; decide, fun j hj => by rw [fm j hj]; decide⟩, ⟨by omega, funext bt⟩, Or.inl ⟨r1, r2⟩⟩
