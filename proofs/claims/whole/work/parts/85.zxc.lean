section ZXC
variable {k : Kd} {post : AV → HI → Prop} {px : HI → Prop} {pc : Nat} {lv : List (Nat × AV)} {stk : List AV} {hi : HI}
theorem zx_behind {kc : Kd} {T : List AV → HI → (AV → HI → Prop) → Prop} {a : List AV} {stk0 stk' : List AV}
    (hT : T a hi (fun r h2 => ZX k post px (pc + 3) lv (pu r stk) h2))
    (hrun : ∀ (l : Launch) (p : Program) (e : Env) (s : State) (m : MethodId) (args : Array Value) (below : List Frame) (meth : Method) (c : Code) (D : va_G) (ad : Nat → Nat) (cy : Nat → ClassId) (A : Nat → Prop) (H : Heap) (locs : List Loc) (ls : Array Slot), ZC k p s m args meth c D ad cy A H locs ls lv hi →
      va_Run p l e k.2.2.1 s m args below meth c H locs 0 0 0 0 (F0 m pc ls (stk'.map (cv ad))) (stk.map (cv ad)) (PQ (fun r h2 => ZX k post px (pc + 3) lv (pu r stk) h2) D ad cy A ((a.map (cv ad)).toArray)) A) : ZX k post px pc lv stk' hi := by
  intro l p e s m args below meth c D ad cy A H locs ls hc hl0 hxs hno
  have hr := hrun l p e s m args below meth c D ad cy A H locs ls hc
  obtain ⟨hx, hb, hr0, hml, hown, hlk, hts, hA, hst, hld, hK, hP, hD, hS, hR, hl⟩ := id hc
  intro T0 hT0 X
  obtain ⟨v, st₀, t, T', L, h0, X', hL, e1, e2, ⟨⟨r, h2, hv, hp, hR2, hP2⟩, hz, hk⟩, st⟩ := hr T0 hT0 X
  cases hv
  rw [h0] at hz hk
  have hD2 : va_D A (wld ad cy h2) := by
    have key : ∀ (i : Nat) (x : Nat × va_E), (wld ad cy h2)[i]? = some x → ∃ y : Nat × va_E, (wld ad cy hi)[i]? = some y ∧ y.1 = x.1 := by
      intro i x hx9
      by_cases hi9 : i < NW
      · rw [wld_at hi9] at hx9; cases hx9
        exact ⟨_, wld_at hi9, rfl⟩
      · rw [List.getElem?_eq_none (by rw [wld_len]; omega)] at hx9; cases hx9
    refine ⟨fun i j x y hi9 hj9 hxy => ?_, fun i x hx9 => ?_⟩
    · obtain ⟨x0, g1, g2⟩ := key i x hi9
      obtain ⟨y0, g3, g4⟩ := key j y hj9
      exact hD.1 i j x0 y0 g1 g3 (g2.trans (hxy.trans g4.symm))
    · obtain ⟨x0, g1, g2⟩ := key i x hx9
      rw [← g2]; exact hD.2 i x0 g1
  have hS2 : va_S A s.heap T'.heap (locs ++ L) := ⟨Nat.le_trans hS.1 (by rw [e1]; exact hz), fun q h1 h3 => by rw [e1, hk q (Nat.lt_of_lt_of_le h1 hS.1) h3]; exact hS.2.1 q h1 h3, fun q hq => by
      rcases List.mem_append.mp hq with h | h
      · exact hS.2.2 q h
      · exact hL q h⟩
  have hk2 := hp l p e s m args below meth c D ad cy A T'.heap (locs ++ L) ls (hc.heap (by rw [e1]; exact hP2) hD2 hS2 hR2) hl0 hxs hno
  rw [← pu_map] at hk2
  obtain ⟨t2, a1, b1⟩ := hk2 T' rfl X'
  exact ⟨t2, st t2 a1, b1⟩
theorem zx_callV {kc : Kd} {y : MethodName} {T : List AV → HI → (AV → HI → Prop) → Prop} {ws' : List Cond} {idx n pl ci N0 : Nat} {C : String} {T0 : u_T} {fl : List (Nat × Nat)} {As stk' : List AV} (hC : Ct kc y T) (hg : GoodIn k.2.1 (wsV k.2.2.2.1 idx C y kc.2.1)) (hw : kc.2.1 = Cond.code y kc.1 kc.2.2.2.2.2 kc.2.2.2.2.1 :: ws') (hrm : kc.2.2.1.cells = 0 ∧ kc.2.2.1.slots = 0)
    (hy : y.cls = C ∧ y.cls ≠ "java/lang/invoke/MethodHandle" ∧ y.cls ≠ "java/lang/invoke/VarHandle" ∧ (parseMethodDescriptor y.desc).map (fun d => d.parameters.length) = some n) (hR : kc.2.2.1.frames + 1 ≤ k.2.2.1.frames ∧ 8 + (kc.2.2.2.2.2 + 11) + kc.2.2.1.locals ≤ k.2.2.1.locals)
    (hpl : pl < NW) (hsh : sh pl = .inl (ci, fl)) (hc0 : vwCl[ci]? = some (C, T0, N0)) (hd : decode k.1 pc = .ok (.invokevirtual idx, 3)) (hn : As.length = n) (hstk : stk' = As.reverse ++ AR (pl + 1) :: stk) (hsz : szS stk ≤ 8) (hT : T (AR (pl + 1) :: As) hi (fun r h2 => ZX k post px (pc + 3) lv (pu r stk) h2)) : ZX k post px pc lv stk' hi := by
  refine zx_behind (kc := kc) (stk0 := stk) hT (fun l p e s m args below meth c D ad cy A H locs ls hc => ?_)
  obtain ⟨hx, hb, hr, hml, hown, hlk, hts, hA, hst, hld, hK, hP, hD, hS, hRG, hl⟩ := id hc
  have hM := hC l D ad cy A (AR (pl + 1) :: As) hi _ hT
  have hcw : CallW k.2.2.1 s args k.2.2.2.1 C idx y kc.1 kc.2.2.2.2.2 kc.2.2.2.2.1 kc.2.1 kc.2.2.1 0 0 n := cwV n hts hg hw hrm.1 hrm.2 hy hR
  exact va_runV (b := ad pl) (As := As.map (cv ad)) (rest := stk.map (cv ad)) (g := F0 m pc ls (stk'.map (cv ad))) (R := k.2.2.1) (cells := 0) (slots := 0) ⟨hx, hb, hml, hown, hts⟩ hM hcw ⟨PC.blind, va_recv hK hP hc0 (wld_obj hpl hsh), fun U hU hW => PC.use (k := k) (lv := lv) hc hU hW⟩ rfl (by rw [List.length_map]; exact hn) hl.1 (by rw [hstk]; simp [cv, rv, rc, va_re, va_rf]) (by rw [szS_sum]; show 2 * 0 + szS stk ≤ 8; omega) hd ⟨Nat.zero_le _, Nat.zero_le _⟩
end ZXC
/-- a contract with two ends -/
def CtX (k : Kd) (y : MethodName) (T : List AV → HI → (AV → HI → Prop) → (HI → Prop) → Prop) : Prop :=
  ∀ (l : Launch) (D : va_G) (ad : Nat → Nat) (cy : Nat → ClassId) (A : Nat → Prop) (a : List AV) (hi : HI) (post : AV → HI → Prop) (px : HI → Prop), l.stackTraces = false → T a hi post px → vx_Met l y k.2.1 k.2.2.1 (fun v U => PC D ad cy A a hi v U ∧ XSt A U U.heap) (PQ post D ad cy A) (XCx px D ad cy A) 1 6 A
theorem CtX.of {k : Kd} {y : MethodName} {ws' : List Cond} {T : List AV → HI → (AV → HI → Prop) → (HI → Prop) → Prop} (hy : plainName y.cls = true) (hw : k.2.1 = Cond.code y k.1 k.2.2.2.2.2 k.2.2.2.2.1 :: ws') (hown : k.2.2.2.1 = y.cls)
    (h : ∀ a hi post px, T a hi post px → szA a ≤ k.2.2.2.2.2 ∧ ZX k post px 0 (lva 0 a) [] hi) : CtX k y T := by
  intro l D ad cy A a hi post px hl0 hT
  refine vx_ofW (cc := k.1) (maxL := k.2.2.2.2.2) (ret := k.2.2.2.2.1) hy hw ?_
  intro p e s m args below meth c s₁ B hml hno hv
  obtain ⟨⟨rfl, hA, hSt, hLd, hK, hP, hD, hR⟩, hxs⟩ := hv
  obtain ⟨hsz, hZ⟩ := h a hi post px hT
  have hts := atoms_spec (ws := k.2.1) B.pre
  have hown2 : s.vm.findClass k.2.2.2.1 = some m.cls := by rw [hown]; exact findClass_of_methodNamed B.named
  have hl := lv_entry (a.map (cv ad)) (n := k.2.2.2.2.2) (by rw [szA_len]; exact hsz)
  rw [lg_entry_eq]
  generalize (lg_sl (a.map (cv ad)) ++ List.replicate (k.2.2.2.2.2 - (lg_sl (a.map (cv ad))).length) Slot.unset).toArray = ls at hl ⊢
  rw [← lva_map] at hl
  exact hZ l p e s m _ below meth c D ad cy A s.heap [] ls ⟨B.exec, B.bytes, B.returns, hml, hown2, B.notSynchronized, hts, hA, hSt, hLd, hK, hP, hD, va_S.rf, hR, hl⟩ hl0 hxs hno
