section ZGX2
variable {k : Kd} {ee : Code → State → (Nat → Nat) → (Nat → Prop) → Prop} {QQ : QE} {cells slots : Nat} {pc : Nat} {lv : List (Nat × AV)} {stk : List AV} {hi : HI}
theorem zg_behindX {a : List AV} {stk' : List AV} {T : List AV → HI → (AV → HI → Prop) → (HI → Prop) → Prop}
    (hT : T a hi (fun r h2 => ZG k ee QQ (cells + 1) (slots + 6) (pc + 3) lv (pu r stk) h2) (fun h2 => ZT k ee QQ (cells + 1) (slots + 6) pc lv stk h2))
    (hrun : ∀ (l : Launch) (p : Program) (e : Env) (s : State) (m : MethodId) (args : Array Value) (below : List Frame) (meth : Method) (c : Code) (D : va_G) (ad : Nat → Nat) (cy : Nat → ClassId) (A : Nat → Prop) (H : Heap) (locs : List Loc) (ls : Array Slot), ZC k p s m args meth c D ad cy A H locs ls lv hi → (l.stackTraces = false ∧ XSt A s s.heap ∧ ee c s ad A) →
      vx_Run p l e k.2.2.1 s m args below meth c H locs cells slots 1 6 (F0 m pc ls (stk'.map (cv ad))) (stk.map (cv ad)) (PQ (fun r h2 => ZG k ee QQ (cells + 1) (slots + 6) (pc + 3) lv (pu r stk) h2) D ad cy A ((a.map (cv ad)).toArray)) (XCx (fun h2 => ZT k ee QQ (cells + 1) (slots + 6) pc lv stk h2) D ad cy A) A) : ZG k ee QQ cells slots pc lv stk' hi := by
  intro l p e s m args below meth c D ad cy A H locs ls hc hx9
  have hr := hrun l p e s m args below meth c D ad cy A H locs ls hc hx9
  obtain ⟨hx, hb, hr0, hml, hown, hlk, hts, hA, hst, hld, hK, hP, hD, hS, hR, hl⟩ := id hc
  intro T0 hT0 X
  have hSS : ∀ (T' t st₀ : State) (L : List Loc), st₀.heap = H → T'.heap = t.heap → (∀ q ∈ L, A q.base) → st₀.heap.size ≤ t.heap.size → (∀ q : Nat, q < st₀.heap.size → ¬ A q → t.heap[q]? = st₀.heap[q]?) → va_S A s.heap T'.heap (locs ++ L) := fun T' t st₀ L h0 e1 hL hz hk => by
    rw [h0] at hz hk
    exact ⟨Nat.le_trans hS.1 (by rw [e1]; exact hz), fun q h1 h3 => by rw [e1, hk q (Nat.lt_of_lt_of_le h1 hS.1) h3]; exact hS.2.1 q h1 h3, fun q hq => by
      rcases List.mem_append.mp hq with h | h
      · exact hS.2.2 q h
      · exact hL q h⟩
  rcases hr T0 hT0 X with ⟨v, st₀, t, T', L, h0, X', hL, e1, e2, ⟨⟨r, h2, hv, hp, hR2, hP2⟩, hz, hk⟩, st⟩ | ⟨q, st₀, t, T', L, E, ce, h0, X', hL, e1, e2, ⟨h2, hp, ⟨hE, hR2, hP2⟩, hz, hk⟩, hce, hcv, hcl, st⟩
  · cases hv
    have hk2 := hp l p e s m args below meth c D ad cy A T'.heap (locs ++ L) ls (hc.heap (by rw [e1]; exact hP2) (wld_D hD) (hSS T' t st₀ L h0 e1 hL hz hk) hR2) hx9
    rw [← pu_map] at hk2
    obtain ⟨t2, a1, b1⟩ := hk2 T' rfl X'
    exact ⟨t2, st t2 a1, b1⟩
  · subst hE
    have hk2 := hp l p e s m args below meth c D ad cy A T'.heap (locs ++ L) ls q ce (hc.heap (by rw [e1]; exact hP2) (wld_D hD) (hSS T' t st₀ L h0 e1 hL hz hk) hR2) hx9 (by rw [e1]; exact hce) hcv hcl
    obtain ⟨t2, a1, b1⟩ := hk2 T' rfl X'
    exact ⟨t2, st.trans a1, b1⟩
end ZGX2
