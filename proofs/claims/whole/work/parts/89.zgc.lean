section ZGC
variable {k : Kd} {ee : Code → State → (Nat → Nat) → (Nat → Prop) → Prop} {QQ : QE} {cells slots : Nat} {pc : Nat} {lv : List (Nat × AV)} {stk : List AV} {hi : HI}
theorem zg_behind {kc : Kd} {T : List AV → HI → (AV → HI → Prop) → Prop} {a : List AV} {stk0 stk' : List AV}
    (hT : T a hi (fun r h2 => ZG k ee QQ cells slots (pc + 3) lv (pu r stk) h2))
    (hrun : ∀ (l : Launch) (p : Program) (e : Env) (s : State) (m : MethodId) (args : Array Value) (below : List Frame) (meth : Method) (c : Code) (D : va_G) (ad : Nat → Nat) (cy : Nat → ClassId) (A : Nat → Prop) (H : Heap) (locs : List Loc) (ls : Array Slot), ZC k p s m args meth c D ad cy A H locs ls lv hi →
      va_Run p l e k.2.2.1 s m args below meth c H locs cells slots 0 0 (F0 m pc ls (stk'.map (cv ad))) (stk.map (cv ad)) (PQ (fun r h2 => ZG k ee QQ cells slots (pc + 3) lv (pu r stk) h2) D ad cy A ((a.map (cv ad)).toArray)) A) : ZG k ee QQ cells slots pc lv stk' hi := by
  intro l p e s m args below meth c D ad cy A H locs ls hc hx9
  have hr := hrun l p e s m args below meth c D ad cy A H locs ls hc
  obtain ⟨hx, hb, hr0, hml, hown, hlk, hts, hA, hst, hld, hK, hP, hD, hS, hR, hl⟩ := id hc
  intro T0 hT0 X
  obtain ⟨v, st₀, t, T', L, h0, X', hL, e1, e2, ⟨⟨r, h2, hv, hp, hR2, hP2⟩, hz, hk⟩, st⟩ := hr T0 hT0 X
  cases hv
  rw [h0] at hz hk
  have hD2 : va_D A (wld ad cy h2) := by
    have key : ∀ (i : Nat) (x : Nat × va_E), (wld ad cy h2)[i]? = some x → ∃ y : Nat × va_E, (wld ad cy hi)[i]? = some y ∧ y.1 = x.1 := by
      intro i x hx9
      by_cases hi9 : i < NW
      · rw [wld_at hi9] at hx9; cases hx9
        exact ⟨_, wld_at hi9, rfl⟩
      · rw [List.getElem?_eq_none (by rw [wld_len]; omega)] at hx9; cases hx9
    refine ⟨fun i j x y hi9 hj9 hxy => ?_, fun i x hx9 => ?_⟩
    · obtain ⟨x0, g1, g2⟩ := key i x hi9
      obtain ⟨y0, g3, g4⟩ := key j y hj9
      exact hD.1 i j x0 y0 g1 g3 (g2.trans (hxy.trans g4.symm))
    · obtain ⟨x0, g1, g2⟩ := key i x hx9
      rw [← g2]; exact hD.2 i x0 g1
  have hS2 : va_S A s.heap T'.heap (locs ++ L) := ⟨Nat.le_trans hS.1 (by rw [e1]; exact hz), fun q h1 h3 => by rw [e1, hk q (Nat.lt_of_lt_of_le h1 hS.1) h3]; exact hS.2.1 q h1 h3, fun q hq => by
      rcases List.mem_append.mp hq with h | h
      · exact hS.2.2 q h
      · exact hL q h⟩
  have hk2 := hp l p e s m args below meth c D ad cy A T'.heap (locs ++ L) ls (hc.heap (by rw [e1]; exact hP2) hD2 hS2 hR2) hx9
  rw [← pu_map] at hk2
  obtain ⟨t2, a1, b1⟩ := hk2 T' rfl X'
  exact ⟨t2, st t2 a1, b1⟩
theorem zg_callV {kc : Kd} {y : MethodName} {T : List AV → HI → (AV → HI → Prop) → Prop} {ws' : List Cond} {idx n pl ci N0 : Nat} {C : String} {T0 : u_T} {fl : List (Nat × Nat)} {As stk' : List AV} (hC : Ct kc y T) (hg : GoodIn k.2.1 (wsV k.2.2.2.1 idx C y kc.2.1)) (hw : kc.2.1 = Cond.code y kc.1 kc.2.2.2.2.2 kc.2.2.2.2.1 :: ws') (hrm : kc.2.2.1.cells = 0 ∧ kc.2.2.1.slots = 0)
    (hy : y.cls = C ∧ y.cls ≠ "java/lang/invoke/MethodHandle" ∧ y.cls ≠ "java/lang/invoke/VarHandle" ∧ (parseMethodDescriptor y.desc).map (fun d => d.parameters.length) = some n) (hR : kc.2.2.1.frames + 1 ≤ k.2.2.1.frames ∧ 8 + (kc.2.2.2.2.2 + 11) + kc.2.2.1.locals ≤ k.2.2.1.locals)
    (hcs : cells + 0 ≤ k.2.2.1.cells ∧ slots + 0 ≤ k.2.2.1.slots) (hpl : pl < NW) (hsh : sh pl = .inl (ci, fl)) (hc0 : vwCl[ci]? = some (C, T0, N0)) (hd : decode k.1 pc = .ok (.invokevirtual idx, 3)) (hn : As.length = n) (hstk : stk' = As.reverse ++ AR (pl + 1) :: stk) (hsz : szS stk ≤ 8) (hT : T (AR (pl + 1) :: As) hi (fun r h2 => ZG k ee QQ cells slots (pc + 3) lv (pu r stk) h2)) : ZG k ee QQ cells slots pc lv stk' hi := by
  refine zg_behind (kc := kc) (stk0 := stk) hT (fun l p e s m args below meth c D ad cy A H locs ls hc => ?_)
  obtain ⟨hx, hb, hr, hml, hown, hlk, hts, hA, hst, hld, hK, hP, hD, hS, hRG, hl⟩ := id hc
  have hM := hC l D ad cy A (AR (pl + 1) :: As) hi _ hT
  have hcw : CallW k.2.2.1 s args k.2.2.2.1 C idx y kc.1 kc.2.2.2.2.2 kc.2.2.2.2.1 kc.2.1 kc.2.2.1 0 0 n := cwV n hts hg hw hrm.1 hrm.2 hy hR
  exact va_runV (b := ad pl) (As := As.map (cv ad)) (rest := stk.map (cv ad)) (g := F0 m pc ls (stk'.map (cv ad))) (R := k.2.2.1) (cells := cells) (slots := slots) ⟨hx, hb, hml, hown, hts⟩ hM hcw ⟨PC.blind, va_recv hK hP hc0 (wld_obj hpl hsh), fun U hU hW => PC.use (k := k) (lv := lv) hc hU hW⟩ rfl (by rw [List.length_map]; exact hn) hl.1 (by rw [hstk]; simp [cv, rv, rc, va_re, va_rf]) (by rw [szS_sum]; show 2 * 0 + szS stk ≤ 8; omega) hd hcs
theorem zg_callS {kc : Kd} {y : MethodName} {T : List AV → HI → (AV → HI → Prop) → Prop} {ws' : List Cond} {idx n : Nat} {As stk' : List AV} (hC : Ct kc y T) (hg : GoodIn k.2.1 (va_wsS k.2.2.2.1 idx y kc.2.1)) (hw : kc.2.1 = Cond.code y kc.1 kc.2.2.2.2.2 kc.2.2.2.2.1 :: ws') (hrm : kc.2.2.1.cells = 0 ∧ kc.2.2.1.slots = 0)
    (hy : y.cls ≠ "java/lang/invoke/MethodHandle" ∧ y.cls ≠ "java/lang/invoke/VarHandle" ∧ (parseMethodDescriptor y.desc).map (fun d => d.parameters.length) = some n) (hR : kc.2.2.1.frames + 1 ≤ k.2.2.1.frames ∧ 8 + (kc.2.2.2.2.2 + 11) + kc.2.2.1.locals ≤ k.2.2.1.locals)
    (hcs : cells + 0 ≤ k.2.2.1.cells ∧ slots + 0 ≤ k.2.2.1.slots) (hd : decode k.1 pc = .ok (.invokestatic idx, 3)) (hn : As.length = n) (hstk : stk' = As.reverse ++ stk) (hsz : szS stk ≤ 8) (hT : T As hi (fun r h2 => ZG k ee QQ cells slots (pc + 3) lv (pu r stk) h2)) : ZG k ee QQ cells slots pc lv stk' hi := by
  refine zg_behind (kc := kc) (stk0 := stk) hT (fun l p e s m args below meth c D ad cy A H locs ls hc => ?_)
  obtain ⟨hx, hb, hr, hml, hown, hlk, hts, hA, hst, hld, hK, hP, hD, hS, hRG, hl⟩ := id hc
  have hM := hC l D ad cy A As hi _ hT
  have hcw := va_cwS (R := k.2.2.1) (args := args) (s := s) n hts hg hw hrm.1 hrm.2 hy hR
  exact va_runS (As := As.map (cv ad)) (rest := stk.map (cv ad)) (g := F0 m pc ls (stk'.map (cv ad))) (R := k.2.2.1) (cells := cells) (slots := slots) ⟨hx, hb, hml, hown, hts⟩ hM hcw ⟨PC.blind, fun U hU hW => PC.use (k := k) (lv := lv) hc hU hW⟩ rfl (by rw [List.length_map]; exact hn) hl.1 (by rw [hstk]; simp) (by rw [szS_sum]; show 2 * 0 + szS stk ≤ 8; omega) hd hcs
def tgg (k : Kd) (ee : Code → State → (Nat → Nat) → (Nat → Prop) → Prop) (QQ : QE) (cells slots : Nat) (lv : List (Nat × AV)) (stk : List AV) (hi : HI) (x : Int) : Int → List Nat → Prop
  | _, [] => True
  | lo, t :: r => (x = lo → ZG k ee QQ cells slots t lv stk hi) ∧ tgg k ee QQ cells slots lv stk hi x (lo + 1) r
theorem tgg_at {x : Int} : ∀ {tg : List Nat} {lo : Int} {j t : Nat}, tgg k ee QQ cells slots lv stk hi x lo tg → tg[j]? = some t → x = lo + j → ZG k ee QQ cells slots t lv stk hi
  | [], _, _, _, _, h, _ => by simp at h
  | t0 :: r, lo, 0, t, h, h2, h3 => by simp at h2; subst h2; exact h.1 (by omega)
  | t0 :: r, lo, j + 1, t, h, h2, h3 => tgg_at h.2 (by simpa using h2) (by omega)
theorem zg_tsw {x : Int} {df lo0 hi0 : Int} {offs : Array Int} {len dtgt : Nat} {tg : List Nat} (hd : decode k.1 pc = .ok (.tableswitch df lo0 hi0 offs, len)) (hx0 : inR x) (ht : (pc : Int) + df = (dtgt : Int)) (hg : hi0 - lo0 + 1 = (tg.length : Int) ∧ offs.size = tg.length ∧ (offs.toList.zip tg).all (fun q => (pc : Int) + q.1 == (q.2 : Int)) = true) (kd : x < lo0 ∨ hi0 < x → ZG k ee QQ cells slots dtgt lv stk hi) (kk : tgg k ee QQ cells slots lv stk hi x lo0 tg) : ZG k ee QQ cells slots pc lv (AI x :: stk) hi := by
  intro l p e s m args below meth c D ad cy A H locs ls hc hx9
  by_cases h : x < lo0 ∨ hi0 < x
  · exact lv_tableOut (x := iI x) hc.1 hc.2.1 hd (by rw [iI_toInt hx0]; exact h) ht (kd h l p e s m args below meth c D ad cy A H locs ls hc hx9)
  · have h1 : ¬ x < lo0 := fun q => h (Or.inl q)
    have h2 : ¬ hi0 < x := fun q => h (Or.inr q)
    obtain ⟨g1, g2, g3⟩ := hg
    have hj : (x - lo0).toNat < tg.length := by omega
    obtain ⟨t, ht2⟩ : ∃ t, tg[(x - lo0).toNat]? = some t := ⟨_, List.getElem?_eq_getElem hj⟩
    obtain ⟨o, ho⟩ : ∃ o, offs[(x - lo0).toNat]? = some o := ⟨_, Array.getElem?_eq_getElem (by omega)⟩
    have ho2 : offs.toList[(x - lo0).toNat]? = some o := by rw [Array.getElem?_toList]; exact ho
    have hz : (offs.toList.zip tg)[(x - lo0).toNat]? = some (o, t) := by rw [List.getElem?_zip_eq_some]; exact ⟨ho2, ht2⟩
    have hz2 := List.all_eq_true.mp g3 _ (List.mem_of_getElem? hz)
    exact lv_tableIn (x := iI x) (off := o) (tgt := t) hc.1 hc.2.1 hd (by rw [iI_toInt hx0]; exact h1) (by rw [iI_toInt hx0]; exact h2) (by rw [iI_toInt hx0]; exact ho) (by simpa using hz2) (tgg_at kk ht2 (by omega) l p e s m args below meth c D ad cy A H locs ls hc hx9)
end ZGC
