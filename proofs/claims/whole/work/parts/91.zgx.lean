section ZGX
variable {k : Kd} {ee : Code → State → (Nat → Nat) → (Nat → Prop) → Prop} {QQ : QE} {cells slots : Nat} {pc : Nat} {lv : List (Nat × AV)} {stk : List AV} {hi : HI}
/-- where the callee has thrown -/
def ZT (k : Kd) (ee : Code → State → (Nat → Nat) → (Nat → Prop) → Prop) (QQ : QE) (cells slots : Nat) (pc : Nat) (lv : List (Nat × AV)) (stk : List AV) (hi : HI) : Prop :=
  ∀ (l : Launch) (p : Program) (e : Env) (s : State) (m : MethodId) (args : Array Value) (below : List Frame) (meth : Method) (c : Code) (D : va_G) (ad : Nat → Nat) (cy : Nat → ClassId) (A : Nat → Prop) (H : Heap) (locs : List Loc) (ls : Array Slot) (q9 : Addr) (ce : Cell), ZC k p s m args meth c D ad cy A H locs ls lv hi → (l.stackTraces = false ∧ XSt A s s.heap ∧ ee c s ad A) → H[q9]? = some ce → ce.vm = .none → s.vm.findClass "java/util/NoSuchElementException" = some ce.cls →
    vx_W p l e k.2.2.1 s m args below meth c H locs cells slots (QQ D ad cy A below args s) (F0 m pc ls (stk.map (cv ad))) q9
theorem wld_D {A : Nat → Prop} {ad : Nat → Nat} {cy : Nat → ClassId} {hi h2 : HI} (hD : va_D A (wld ad cy hi)) : va_D A (wld ad cy h2) := by
  have key : ∀ (i : Nat) (x : Nat × va_E), (wld ad cy h2)[i]? = some x → ∃ y : Nat × va_E, (wld ad cy hi)[i]? = some y ∧ y.1 = x.1 := by
    intro i x hx9
    by_cases hi9 : i < NW
    · rw [wld_at hi9] at hx9; cases hx9
      exact ⟨_, wld_at hi9, rfl⟩
    · rw [List.getElem?_eq_none (by rw [wld_len]; omega)] at hx9; cases hx9
  refine ⟨fun i j x y hi9 hj9 hxy => ?_, fun i x hx9 => ?_⟩
  · obtain ⟨x0, g1, g2⟩ := key i x hi9
    obtain ⟨y0, g3, g4⟩ := key j y hj9
    exact hD.1 i j x0 y0 g1 g3 (g2.trans (hxy.trans g4.symm))
  · obtain ⟨x0, g1, g2⟩ := key i x hx9
    rw [← g2]; exact hD.2 i x0 g1
end ZGX
