section ZGX3
variable {k : Kd} {ee : Code → State → (Nat → Nat) → (Nat → Prop) → Prop} {QQ : QE} {cells slots : Nat} {pc : Nat} {lv : List (Nat × AV)} {stk : List AV} {hi : HI}
theorem PCX.blind {D : va_G} {ad : Nat → Nat} {cy : Nat → ClassId} {A : Nat → Prop} {a : List AV} {hi : HI} : FrameBlind (fun v U => PC D ad cy A a hi v U ∧ XSt A U U.heap) := by
  intro v U g mk h
  refine ⟨PC.blind v U g mk h.1, vx_Zq.moved (u := U) (U := U.calling g mk v) (Vm.Alike.refl U.vm) h.2.1, vx_Zq.moved (u := U) (U := U.calling g mk v) (Vm.Alike.refl U.vm) h.2.2.1, fun w hw => ?_⟩
  have e : U.vm = (U.calling g mk v).vm := rfl
  exact va_tabs (ns_on hw) e (h.2.2.2 w hw)
theorem zg_callVX {kc : Kd} {y : MethodName} {T : List AV → HI → (AV → HI → Prop) → (HI → Prop) → Prop} {ws' : List Cond} {idx n pl ci N0 : Nat} {C : String} {T0 : u_T} {fl : List (Nat × Nat)} {As stk' : List AV} (hC : CtX kc y T) (hg : GoodIn k.2.1 (wsV k.2.2.2.1 idx C y kc.2.1)) (hw : kc.2.1 = Cond.code y kc.1 kc.2.2.2.2.2 kc.2.2.2.2.1 :: ws') (hrm : kc.2.2.1.cells = 1 ∧ kc.2.2.1.slots = 6)
    (hy : y.cls = C ∧ y.cls ≠ "java/lang/invoke/MethodHandle" ∧ y.cls ≠ "java/lang/invoke/VarHandle" ∧ (parseMethodDescriptor y.desc).map (fun d => d.parameters.length) = some n) (hR : kc.2.2.1.frames + 1 ≤ k.2.2.1.frames ∧ 8 + (kc.2.2.2.2.2 + 11) + kc.2.2.1.locals ≤ k.2.2.1.locals)
    (hcs : cells + 1 ≤ k.2.2.1.cells ∧ slots + 6 ≤ k.2.2.1.slots) (hpl : pl < NW) (hsh : sh pl = .inl (ci, fl)) (hc0 : vwCl[ci]? = some (C, T0, N0)) (hd : decode k.1 pc = .ok (.invokevirtual idx, 3)) (hn : As.length = n) (hstk : stk' = As.reverse ++ AR (pl + 1) :: stk) (hsz : szS stk ≤ 8)
    (hT : T (AR (pl + 1) :: As) hi (fun r h2 => ZG k ee QQ (cells + 1) (slots + 6) (pc + 3) lv (pu r stk) h2) (fun h2 => ZT k ee QQ (cells + 1) (slots + 6) pc lv stk h2)) : ZG k ee QQ cells slots pc lv stk' hi := by
  refine zg_behindX (T := T) hT (fun l p e s m args below meth c D ad cy A H locs ls hc hx9 => ?_)
  obtain ⟨hx, hb, hr, hml, hown, hlk, hts, hA, hst, hld, hK, hP, hD, hS, hRG, hl⟩ := id hc
  have hM := hC l D ad cy A (AR (pl + 1) :: As) hi _ _ hx9.1 hT
  have hcw : CallW k.2.2.1 s args k.2.2.2.1 C idx y kc.1 kc.2.2.2.2.2 kc.2.2.2.2.1 kc.2.1 kc.2.2.1 1 6 n := cwV n hts hg hw hrm.1 hrm.2 hy hR
  exact vx_runV (b := ad pl) (As := As.map (cv ad)) (rest := stk.map (cv ad)) (g := F0 m pc ls (stk'.map (cv ad))) (R := k.2.2.1) (cells := cells) (slots := slots) ⟨hx, hb, hml, hown, hts⟩ hM hcw ⟨PCX.blind, va_recv hK hP hc0 (wld_obj hpl hsh), fun U hU hW => ⟨PC.use (k := k) (lv := lv) hc hU hW, hx9.2.1.use hS hU hW⟩⟩ rfl (by rw [List.length_map]; exact hn) hl.1 (by rw [hstk]; simp [cv, rv, rc, va_re, va_rf]) (by rw [szS_sum]; show 2 * 0 + szS stk ≤ 8; omega) hd hcs
end ZGX3
