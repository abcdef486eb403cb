/-! the law's own life: it catches what the class throws -/
def CST (U : State) : Prop := (Cond.castable "java/util/NoSuchElementException" "java/util/NoSuchElementException").before #[] U = true
theorem CST.use {s U : State} (h : CST s) (hW : s.WarmedH U.vm) : CST U := by
  have c : (Cond.castable "java/util/NoSuchElementException" "java/util/NoSuchElementException").before #[] (s.setVm U.vm) = true := by
    rw [Cond.castable_setVm hW.alike]; exact h
  exact va_tabs (u := s.setVm U.vm) (U := U) rfl rfl c
theorem CST.same {u U : State} (h : CST u) (e : u.vm = U.vm) : CST U := va_tabs rfl e h
abbrev kL_life : Kd := (cL_life, .codeWith yL_life cL_life 5 (some .int) [(0, 10, 13, 13)] :: wsL_law, { frames := 40, cells := 1, slots := 6, locals := 1600 }, RL, some .int, 5)
def eeL (c : Code) (s : State) (_ : Nat → Nat) (_ : Nat → Prop) : Prop := c.exceptionTable.toList = tableOf [(0, 10, 13, 13)] ∧ CST s
theorem uwx_good : ∀ w ∈ wsL_law, goodWord w = true := fun w h => (List.mem_append.mp h).elim (uw_good w) (fun h => (List.mem_filter.mp h).2)
theorem gdVx {k kc : Kd} {own C : String} {idx : Nat} {y : MethodName} {ck cd : Cond} (hk : k.2.1 = ck :: wsL_law) (hc : kc.2.1 = cd :: wsL_law) (h1 : Cond.methodLink own idx y ∈ wsL_law) (h2 : Cond.instanceMethod y ∈ wsL_law) (h3 : Cond.selects C y y ∈ wsL_law) (h4 : Cond.initialized C ∈ wsL_law) (h5 : cd ∈ wsL_law) : GoodIn k.2.1 (wsV own idx C y kc.2.1) := by
  rw [hk, hc]
  intro w hw
  have h : w ∈ wsL_law := by
    unfold wsV at hw
    simp only [List.mem_append, List.mem_cons, List.not_mem_nil, or_false] at hw
    rcases hw with (rfl | rfl | rfl | rfl) | rfl | hw
    · exact h1
    · exact h2
    · exact h3
    · exact h4
    · exact h5
    · exact hw
  exact ⟨List.mem_cons_of_mem _ h, good_of_word (uwx_good w h)⟩
section ZL
variable {k : Kd} {ee : Code → State → (Nat → Nat) → (Nat → Prop) → Prop} {QQ : QE} {cells slots : Nat} {pc : Nat} {lv : List (Nat × AV)} {stk : List AV} {hi : HI}
theorem zg_rg (kk : RG hi → ZG k ee QQ cells slots pc lv stk hi) : ZG k ee QQ cells slots pc lv stk hi := by
  intro l p e s m args below meth c D ad cy A H locs ls hc hx9
  exact kk hc.2.2.2.2.2.2.2.2.2.2.2.2.2.2.1 l p e s m args below meth c D ad cy A H locs ls hc hx9
theorem zl_iret {post : AV → HI → Prop} {x : Int} (hr0 : k.2.2.2.2.1 = some .int) (hd : decode k.1 pc = .ok (.ireturn, 1)) (hp : post (AI x) hi) : ZG k ee (fun D ad cy A below args s => vx_MQ below (PQ post D ad cy A) (fun _ _ _ => False) args s cells slots A) cells slots pc lv [AI x] hi := by
  intro l p e s m args below meth c D ad cy A H locs ls hc hx9
  obtain ⟨hx, hb, hr, hml, hown, hlk, hts, hA, hst, hld, hK, hP, hD, hS, hR, hl⟩ := id hc
  exact vx_ret (W.iret (v := iI x) hx hb (hr.trans hr0) (fun t ht hW => ⟨⟨AI x, hi, rfl, hp, hR, by rw [ht]; exact hP⟩, hS.F ht⟩) hS.2.2 hd hlk)
end ZL
theorem ct_L_life (l : Launch) (D : va_G) (ad : Nat → Nat) (cy : Nat → ClassId) (A : Nat → Prop) (hi : HI) (k y : Int) (post : AV → HI → Prop) (hl0 : l.stackTraces = false) (hpre : RI (hi 2) (hi 2 1) ∧ inR k ∧ inR y)
    (hQ : ∀ (h1 : HI) (j : Int), Fr [54] hi h1 → (j = 0 ∧ ((0 ≤ k ∧ k < hi 2 1) ∧ 0 ≤ y ∧ y ≤ 4) ∧ ((y = 4 ∧ h1 54 0 = pcs (bO (hi 2) k) (dO (hi 2) k)) ∨ (y < 4 ∧ h1 54 0 = eO (hi 2) k y))) ∨ (j = 1 ∧ ((k < 0 ∨ hi 2 1 ≤ k) ∨ y < 0 ∨ 4 < y)) → post (AI j) h1) :
    vx_Met l yL_life kL_life.2.1 kL_life.2.2.1 (fun v U => PC D ad cy A [AR 1, AI k, AI y, AR 55] hi v U ∧ XSt A U U.heap ∧ CST U) (PQ post D ad cy A) (fun _ _ _ => False) 1 6 A := by
  refine vx_ofWH (cc := cL_life) (maxL := 5) (ret := some .int) (hh := [(0, 10, 13, 13)]) (by decide +kernel) rfl ?_
  intro p e s m args below meth c s₁ B hml hv
  obtain ⟨⟨rfl, hA, hSt, hLd, hK, hP, hD, hR⟩, hxs, hcs⟩ := hv
  have hts := atoms_spec (ws := kL_life.2.1) B.pre
  have htab := vx_table (x := yL_life) B (hts _ List.mem_cons_self)
  have hown2 : s.vm.findClass RL = some m.cls := findClass_of_methodNamed B.named
  have hl := lv_entry (([AR 1, AI k, AI y, AR 55] : List AV).map (cv ad)) (n := 5) (by rw [szA_len]; exact (by decide : 4 ≤ 5))
  rw [lg_entry_eq]
  generalize (lg_sl (([AR 1, AI k, AI y, AR 55] : List AV).map (cv ad)) ++ List.replicate (5 - (lg_sl (([AR 1, AI k, AI y, AR 55] : List AV).map (cv ad))).length) Slot.unset).toArray = ls at hl ⊢
  rw [← lva_map] at hl
  have main : ZG kL_life eeL (fun D ad cy A below args s => vx_MQ below (PQ post D ad cy A) (fun _ _ _ => False) args s 1 6 A) 0 0 0 [(0, AR 1), (1, AI k), (2, AI y), (3, AR 55)] [] hi := by
    refine zg_aload_n (pc := 0) (x := 55) dL_life_0 rfl 3 rfl ?_
    refine zg_iconst (pc := 1) (v := 0) dL_life_1 rfl ?_
    refine zg_aload_n (pc := 2) (x := 1) dL_life_2 rfl 0 rfl ?_
    refine zg_iload_n (pc := 3) dL_life_3 rfl 1 rfl ?_
    refine zg_iload_n (pc := 4) dL_life_4 rfl 2 rfl ?_
    refine zg_callVX (pc := 5) (kc := kX7_life) (n := 2) (pl := 0) (ci := 6) (As := [AI k, AI y]) (stk := [AI 0, AR 55]) ct_X7_life (gdVx rfl rfl (List.mem_append_left _ (iw43 _ (List.mem_of_getElem? (i := 18) rfl))) (List.mem_append_left _ (iw43 _ (List.mem_of_getElem? (i := 19) rfl))) (List.mem_append_left _ (iw43 _ (List.mem_of_getElem? (i := 20) rfl))) (List.mem_append_left _ (iw1 _ (List.mem_of_getElem? (i := 2) rfl))) (List.mem_append_left _ (iw43 _ (List.mem_of_getElem? (i := 21) rfl)))) rfl ⟨rfl, rfl⟩ (by decide +kernel) ⟨by decide, by decide⟩ ⟨by decide, by decide⟩ (by decide) rfl rfl dL_life_5 rfl rfl (Nat.le_of_ble_eq_true rfl) ?_
    refine ⟨k, y, rfl, hpre, fun v hv => ?_, fun hx => ?_⟩
    · show ZG kL_life eeL _ 1 6 8 [(0, AR 1), (1, AI k), (2, AI y), (3, AR 55)] [AI v, AI 0, AR 55] hi
      refine zg_rg (fun hRG => ?_)
      have rv : inR v := by
        obtain ⟨⟨v0, v1⟩, v2⟩ := hv
        rcases v2 with ⟨v3, v4⟩ | ⟨v3, v4⟩
        · have rk := (toRng hpre.1 v0).2.1
          have := pcs_bd rk.1 rk.2.1 rk.2.2
          rw [v4]; exact ⟨by omega, by omega⟩
        · rw [v4]; exact hRG.2 2 _ (by omega) (by decide)
      refine zg_i2l (pc := 8) dL_life_8 rv ?_
      refine zg_last54 (pc := 9) ⟨by have := rv.1; omega, by have := rv.2; omega⟩ dL_life_9 (fun h2 e2 => ?_)
      refine zg_goto (pc := 10) (tgt := 17) dL_life_10 (by decide) ?_
      refine zg_iconst (pc := 17) (v := 0) dL_life_17 rfl ?_
      refine zl_iret (pc := 18) rfl dL_life_18 (hQ h2 0 (fun q hq => by rw [e2]; exact hput_ne _ _ (fun e => hq (by simp [e]))) (Or.inl ⟨rfl, hv.1, ?_⟩))
      rw [e2, hput_same, updI_same]; exact hv.2
    · intro l p e s m args below meth c D ad cy A H locs ls q9 ce hc hx9 hce hcv hcl
      obtain ⟨hx1, hb, hr, hml, hown, hlk, hts, hA, hst, hld, hK, hP, hD, hS, hR, hl⟩ := id hc
      refine vx_catch (own := RL) (name := "java/util/NoSuchElementException") (E := "java/util/NoSuchElementException") hown [] ⟨0, 10, 13, 13⟩ [] (hx9.2.2.1.trans rfl) (fun z hz => absurd hz List.not_mem_nil) (by decide) (by decide) (hts _ (List.mem_cons_of_mem _ (List.mem_append_left _ (iw43 _ (List.mem_of_getElem? (i := 17) rfl))))) (va_tabs rfl rfl hx9.2.2.2) hce hcv hcl ?_
      show W p l e _ s m args below meth c H locs 1 6 _ (F0 m 13 ls [.ref q9])
      refine lv_astore (x := q9) (cc := cL_life) hx1 hb dL_life_13 hl (by decide) rfl (fun ls' hl' => ?_)
      have fin : ZG kL_life eeL (fun D ad cy A below args s => vx_MQ below (PQ post D ad cy A) (fun _ _ _ => False) args s 1 6 A) 1 6 15 [(0, AR 1), (1, AI k), (2, AI y), (3, AR 55)] [] hi := by
        refine zg_iconst (pc := 15) (v := 1) dL_life_15 rfl ?_
        exact zl_iret (pc := 16) rfl dL_life_16 (hQ hi 1 Fr.rf (Or.inr ⟨rfl, hx⟩))
      exact fin l p e s m args below meth c D ad cy A H locs ls' ⟨hx1, hb, hr, hml, hown, hlk, hts, hA, hst, hld, hK, hP, hD, hS, hR, lv_sub hl' [1, 2, 3, 4] rfl⟩ hx9
  exact main l p e s m _ below meth c D ad cy A s.heap [] ls ⟨B.exec, B.bytes, B.returns, hml, hown2, B.notSynchronized, hts, hA, hSt, hLd, hK, hP, hD, va_S.rf, hR, hl⟩ ⟨hl0, hxs, htab, hcs⟩
section ZLC
variable {k : Kd} {ee : Code → State → (Nat → Nat) → (Nat → Prop) → Prop} {QQ : QE} {cells slots : Nat} {pc : Nat} {lv : List (Nat × AV)} {stk : List AV} {hi : HI}
/-- the law's call of its life -/
theorem zg_callL {kk0 yy : Int} {idx : Nat} {stk' : List AV} (hg : GoodIn k.2.1 (va_wsS k.2.2.2.1 idx yL_life kL_life.2.1)) (hR : 41 ≤ k.2.2.1.frames ∧ 1624 ≤ k.2.2.1.locals) (hee : ∀ c s ad A, ee c s ad A → CST s)
    (hcs : cells + 1 ≤ k.2.2.1.cells ∧ slots + 6 ≤ k.2.2.1.slots) (hd : decode k.1 pc = .ok (.invokestatic idx, 3)) (hstk : stk' = AR 55 :: AI yy :: AI kk0 :: AR 1 :: stk) (hsz : szS stk ≤ 8) (hpre : RI (hi 2) (hi 2 1) ∧ inR kk0 ∧ inR yy)
    (hT : ∀ (h1 : HI) (j : Int), Fr [54] hi h1 → (j = 0 ∧ ((0 ≤ kk0 ∧ kk0 < hi 2 1) ∧ 0 ≤ yy ∧ yy ≤ 4) ∧ ((yy = 4 ∧ h1 54 0 = pcs (bO (hi 2) kk0) (dO (hi 2) kk0)) ∨ (yy < 4 ∧ h1 54 0 = eO (hi 2) kk0 yy))) ∨ (j = 1 ∧ ((kk0 < 0 ∨ hi 2 1 ≤ kk0) ∨ yy < 0 ∨ 4 < yy)) → ZG k ee QQ (cells + 1) (slots + 6) (pc + 3) lv (AI j :: stk) h1) : ZG k ee QQ cells slots pc lv stk' hi := by
  refine zg_behindX (a := [AR 1, AI kk0, AI yy, AR 55]) (stk := stk) (T := fun _ h0 Q _ => h0 = hi ∧ ∀ (h1 : HI) (j : Int), Fr [54] hi h1 → (j = 0 ∧ ((0 ≤ kk0 ∧ kk0 < hi 2 1) ∧ 0 ≤ yy ∧ yy ≤ 4) ∧ ((yy = 4 ∧ h1 54 0 = pcs (bO (hi 2) kk0) (dO (hi 2) kk0)) ∨ (yy < 4 ∧ h1 54 0 = eO (hi 2) kk0 yy))) ∨ (j = 1 ∧ ((kk0 < 0 ∨ hi 2 1 ≤ kk0) ∨ yy < 0 ∨ 4 < yy)) → Q (AI j) h1) ⟨rfl, hT⟩ (fun l p e s m args below meth c D ad cy A H locs ls hc hx9 => ?_)
  obtain ⟨hx, hb, hr, hml, hown, hlk, hts, hA, hst, hld, hK, hP, hD, hS, hRG, hl⟩ := id hc
  have hM := ct_L_life l D ad cy A hi kk0 yy (fun r h2 => ZG k ee QQ (cells + 1) (slots + 6) (pc + 3) lv (pu r stk) h2) hx9.1 hpre hT
  have hcw : vx_CSW k.2.2.1 s args k.2.2.2.1 idx yL_life cL_life 5 (some .int) [(0, 10, 13, 13)] kL_life.2.1 kL_life.2.2.1 1 6 4 := vx_cwSW 4 hts hg rfl rfl rfl (by decide +kernel) ⟨hR.1, hR.2⟩
  have hrun := vx_runSX (As := [AR 1, AI kk0, AI yy, AR 55].map (cv ad)) (rest := stk.map (cv ad)) (g := F0 m pc ls (stk'.map (cv ad))) (R := k.2.2.1) (cells := cells) (slots := slots) (l := l) (p := p) (e := e) (below := below) (meth := meth) (locs := locs) (H := H) (nL := k.2.2.2.2.2) (own := k.2.2.2.1) (cc := k.1) (Ts := k.2.1) ⟨hx, hb, hml, hown, hts⟩ hM hcw ⟨fun v U g mk h => by
      have q := PCX.blind v U g mk ⟨h.1, h.2.1⟩
      exact ⟨q.1, q.2, CST.same h.2.2 rfl⟩, fun U hU hW => ⟨PC.use (k := k) (lv := lv) hc hU hW, hx9.2.1.use hS hU hW, (hee _ _ _ _ hx9.2.2).use hW⟩⟩ rfl (by rw [List.length_map]; rfl) hl.1 (by rw [hstk]; simp [cv, rv, rc, va_re, va_rf]) (by rw [szS_sum]; show 2 * 0 + szS stk ≤ 8; omega) hd hcs
  intro T0 hT0 X
  rcases hrun T0 hT0 X with h | ⟨q, st₀, t, T', L, E, ce, h0, X', hL, e1, e2, hF, h9⟩
  · exact Or.inl h
  · exact hF.elim
end ZLC
