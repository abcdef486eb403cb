theorem ck_of {U : State} {c : ClassId} {k : Class} {comp : ClassId} {ty : FieldType} (h1 : U.vm.classes[c]? = some k) (h2 : k.kind = .array comp ty) : ArrOfT U c ty := fun n z => ⟨fun k h => (by cases h), k, h1, comp, h2⟩
theorem px_K {args : Array Value} {s : State} (hts : ∀ w ∈ lw_tbl, w.before args s = true) (hw : ∀ w ∈ wsL_law0, w.before args s = true) : ∃ (D : va_G) (cy : Nat → ClassId), va_K D vwCl (tysOf cy) s := by
  have tb : ∀ {w : Cond}, w ∈ tables_1 → w.before args s = true := fun e => hts _ (List.mem_append_right _ e)
  obtain ⟨c0, i0, k0⟩ := u_known (C := RX0) (T := TX0) (N := 6) (n := 6) hw iu_X0 (tb (tn1 (List.mem_of_getElem? (i := 98) rfl)))
  obtain ⟨c1, i1, k1⟩ := u_known (C := RX1) (T := TX1) (N := 1) (n := 1) hw iu_X1 (tb (tn1 (List.mem_of_getElem? (i := 31) rfl)))
  obtain ⟨c2, i2, k2⟩ := u_known (C := RX2) (T := TX2) (N := 2) (n := 2) hw iu_X2 (tb (tn1 (List.mem_of_getElem? (i := 149) rfl)))
  obtain ⟨c3, i3, k3⟩ := u_known (C := RX3) (T := TX3) (N := 3) (n := 3) hw iu_X3 (tb (tn1 (List.mem_of_getElem? (i := 42) rfl)))
  obtain ⟨c4, i4, k4⟩ := u_known (C := RX4) (T := TX4) (N := 5) (n := 5) hw iu_X4 (tb (tn1 (List.mem_of_getElem? (i := 125) rfl)))
  obtain ⟨c5, i5, k5⟩ := u_known (C := RX6) (T := TX6) (N := 9) (n := 9) hw iu_X6 (tb (tn1 (List.mem_of_getElem? (i := 61) rfl)))
  obtain ⟨c6, i6, k6⟩ := u_known (C := RX7) (T := TX7) (N := 13) (n := 13) hw iu_X7 (tb (tn1 (List.mem_of_getElem? (i := 23) rfl)))
  obtain ⟨c7, i7, k7⟩ := u_known (C := RX8) (T := TX8) (N := 33) (n := 33) hw iu_X8 (tb (tn4 (List.mem_of_getElem? (i := 220) rfl)))
  have z0 : (Cond.arrayClass .int).before args s = true := tb (tn1 (List.mem_of_getElem? (i := 40) rfl))
  obtain ⟨a0, ka0, co0, f0, g0, h0⟩ := Cond.arrayClass_spec z0
  have z1 : (Cond.arrayClass .boolean).before args s = true := tb (tn1 (List.mem_of_getElem? (i := 96) rfl))
  obtain ⟨a1, ka1, co1, f1, g1, h1⟩ := Cond.arrayClass_spec z1
  have z2 : (Cond.arrayClass .byte).before args s = true := tb (tn4 (List.mem_of_getElem? (i := 38) rfl))
  obtain ⟨a2, ka2, co2, f2, g2, h2⟩ := Cond.arrayClass_spec z2
  have z3 : (Cond.arrayClass .long).before args s = true := tb (tn7 (List.mem_of_getElem? (i := 49) rfl))
  obtain ⟨a3, ka3, co3, f3, g3, h3⟩ := Cond.arrayClass_spec z3
  have z4 : (Cond.arrayOver (.array .int)).before args s = true := tb (tn1 (List.mem_of_getElem? (i := 48) rfl))
  obtain ⟨co4, a4, ka4, w4, f4, g4, h4⟩ := Cond.arrayOver_specA z4
  have z5 : (Cond.arrayOver (.object "LateSet$Sign")).before args s = true := tb (tn1 (List.mem_of_getElem? (i := 67) rfl))
  obtain ⟨co5, a5, ka5, w5, x5, f5, g5, h5⟩ := Cond.arrayOver_spec z5
  refine ⟨(fun k => if k = 0 then c0 else if k = 1 then c1 else if k = 2 then c2 else if k = 3 then c3 else if k = 4 then c4 else if k = 5 then c5 else if k = 6 then c6 else c7, fun k => if k = 0 then i0 else if k = 1 then i1 else if k = 2 then i2 else if k = 3 then i3 else if k = 4 then i4 else if k = 5 then i5 else if k = 6 then i6 else i7), fun k => if k = 0 then a0 else if k = 1 then a1 else if k = 2 then a2 else if k = 3 then a4 else if k = 4 then a5 else a3, fun k q hq => ?_, fun k q hq => ?_⟩
  · match k, hq with
    | 0, hq => cases hq; exact k0
    | 1, hq => cases hq; exact k1
    | 2, hq => cases hq; exact k2
    | 3, hq => cases hq; exact k3
    | 4, hq => cases hq; exact k4
    | 5, hq => cases hq; exact k5
    | 6, hq => cases hq; exact k6
    | 7, hq => cases hq; exact k7
    | k + 8, hq => simp [vwCl] at hq
  · match k, hq with
    | 0, hq => have e := Option.some.inj (show some ((a0 : ClassId), FieldType.int) = some q from hq); subst e; exact ⟨ck_of g0 h0, f0⟩
    | 1, hq => have e := Option.some.inj (show some ((a1 : ClassId), FieldType.boolean) = some q from hq); subst e; exact ⟨ck_of g1 h1, f1⟩
    | 2, hq => have e := Option.some.inj (show some ((a2 : ClassId), FieldType.byte) = some q from hq); subst e; exact ⟨ck_of g2 h2, f2⟩
    | 3, hq => have e := Option.some.inj (show some ((a4 : ClassId), FieldType.array FieldType.int) = some q from hq); subst e; exact ⟨ck_of f4 g4, h4⟩
    | 4, hq => have e := Option.some.inj (show some ((a5 : ClassId), FieldType.object "LateSet$Sign") = some q from hq); subst e; exact ⟨ck_of f5 g5, ka5, co5, f5, g5, w5, h5⟩
    | 5, hq => have e := Option.some.inj (show some ((a3 : ClassId), FieldType.long) = some q from hq); subst e; exact ⟨ck_of g3 h3, f3⟩
    | k + 6, hq => exact absurd hq (by simp [tysOf])
