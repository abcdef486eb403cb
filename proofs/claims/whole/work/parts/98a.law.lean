/-! THE CLAIM OUT OF ONE WALK OF THE LAW'S BODY. Your part is whole_start (and what it stands on); all else here is the same for every law, but numbers. -/
def R_law : String := "LateSetLaw"
def lw_P (b : Addr) (xs : List Int32) (args : Array Value) (s : State) : Prop := args = #[.ref b] ∧ s.IntsAt b xs ∧ xs.length ≤ 3072 ∧ (Jvm.Cond.and given_1 narrow_1).before args s = true
def lw_Q (_ : Array Value) (s : State) (o : Outcome) (t : State) : Prop := o = .returned (some (.int 1)) ∧ Framed s o t [] 601024 7293034
def lw_Z (below : List Frame) (a : Array Value) (s : State) : State → Prop := fun t => ∃ o, t.status = .running ∧ Ended t below o ∧ lw_Q a s o t
/-- the law's own end, with 1 on the stack, nothing written that was there before, its room as the claim has it -/
theorem lw_ret {p : Program} {l : Launch} {e : Env} {s : State} {m : MethodId} {below : List Frame} {meth : Method} {c : Code} {b : Nat} (hx : p.tables.exec = Jvm.exec) (hb : c.code = code) (hr : meth.sig.returnType = ret) (hlocks : meth.locks = false) {pc : Nat} {H : Heap} {ls : Array Slot} (hdg : decode code pc = .ok (.ireturn, 1)) : W p l e room_1 s m #[Value.ref b] below meth c H [] 601024 7293034 (lw_Z below #[Value.ref b] s) (F0 m pc ls [.int 1]) := by
  intro T hT X
  obtain ⟨fs, hret, hrun, hended, hW, hframe⟩ := X.leave (v := some (.int 1)) (hlocks := hlocks) (fun h => by rw [hr] at h; cases h)
  have hmeth' : T.vm.method? m = some meth := X.method'
  refine ⟨T.setFrames fs, ?_, .returned (some (.int 1)), hrun, hended, rfl, ⟨_, rfl⟩, hW, hframe⟩
  jvm_step X.here [X.here.top, hx, hb, hdg, hmeth', hr, ret, narrow_b1]
  (try refine ⟨rfl, ?_⟩); (try refine ⟨rfl, ?_⟩)
  first | (intro acts; rw [hret _ acts rfl rfl rfl]) | rw [hret _ _ rfl rfl rfl]
  exact Steps.refl _
/-- what holds at the law's entry: the machine, the code, the tables' words (any of lw_tbl by 'hts w (by decide +kernel)'), the script of L ints xs at the cell b, what the Statement gives of the start (any of its parts by flat_of_before) -/
def lw_At (p : Program) (s : State) (m : MethodId) (meth : Method) (c : Code) (b L : Nat) (xs : Nat → Int32) : Prop :=
  p.tables.exec = Jvm.exec ∧ c.code = code ∧ meth.sig.returnType = ret ∧ c.maxLocals = 7 ∧ s.vm.findClass R_law = some m.cls ∧ (∀ w ∈ lw_tbl, w.before #[Value.ref b] s = true) ∧ va_X b L xs s s.heap ∧ b < s.heap.size ∧ meth.locks = false ∧ (Jvm.Cond.and given_1 narrow_1).before #[Value.ref b] s = true
/-! the law's walk -/
abbrev X5 (xs : Nat → Int32) (i j : Nat) : Int := (xs (i + j)).toInt
def eeW (L : Nat) (xs : Nat → Int32) (_ : Code) (s : State) (ad : Nat → Nat) (A : Nat → Prop) : Prop := CST s ∧ SCR L xs s ad A ∧ ∀ q, A q → s.heap.size ≤ q
abbrev kLaw : Kd := (cL_law, Cond.tt :: wsL_law, room_1, RL, some .boolean, 7)
def k0Law : Kd := (cL_law, Cond.tt :: wsL_law0, room_1, RL, some .boolean, 7)
abbrev lvL (i : Nat) : List (Nat × AV) := [(4, AI (i : Int)), (3, AR 55), (2, AR 40), (1, AR 1), (0, AR 500)]
def QW (b : Nat) : QE := fun _ _ _ _ below args s t => args = #[Value.ref b] → lw_Z below #[Value.ref b] s t
theorem gdSx {k kc : Kd} {own : String} {idx : Nat} {y : MethodName} {ck cd : Cond} (hk : k.2.1 = ck :: wsL_law) (hc : kc.2.1 = cd :: wsL_law) (h1 : Cond.methodLink own idx y ∈ wsL_law) (h2 : Cond.static y ∈ wsL_law) (h4 : Cond.initialized y.cls ∈ wsL_law) (h5 : cd ∈ wsL_law) : GoodIn k.2.1 (va_wsS own idx y kc.2.1) := by
  rw [hk, hc]
  intro w hw
  have h : w ∈ wsL_law := by
    unfold va_wsS at hw
    simp only [List.mem_append, List.mem_cons, List.not_mem_nil, or_false] at hw
    rcases hw with (rfl | rfl | rfl) | rfl | hw
    · exact h1
    · exact h2
    · exact h4
    · exact h5
    · exact hw
  exact ⟨List.mem_cons_of_mem _ h, good_of_word (uwx_good w h)⟩
section LAW1
variable {k : Kd} {ee : Code → State → (Nat → Nat) → (Nat → Prop) → Prop} {QQ : QE} {cells slots : Nat} {pc : Nat} {lv : List (Nat × AV)} {stk : List AV} {hi : HI}
theorem zg_lv {lv' : List (Nat × AV)} (ks : List Nat) (h : ∀ ad : Nat → Nat, lv_pick (lv.map (fun q => (q.1, cv ad q.2))) ks = lv'.map (fun q => (q.1, cv ad q.2))) (kk : ZG k ee QQ cells slots pc lv' stk hi) : ZG k ee QQ cells slots pc lv stk hi := by
  intro l p e s m args below meth c D ad cy A H locs ls hc hx9
  obtain ⟨hx, hb, hr, hml, hown, hlk, hts, hA, hst, hld, hK, hP, hD, hS, hR, hl⟩ := id hc
  exact kk l p e s m args below meth c D ad cy A H locs ls ⟨hx, hb, hr, hml, hown, hlk, hts, hA, hst, hld, hK, hP, hD, hS, hR, lv_sub hl ks (h ad)⟩ hx9
theorem zg_same {x y : Int} {off : Int} {tgt : Nat} (hd : decode k.1 pc = .ok (.if_icmp .eq off, 3)) (ht : (pc : Int) + off = (tgt : Int)) (e : x = y) (kt : ZG k ee QQ cells slots tgt lv stk hi) : ZG k ee QQ cells slots pc lv (AI y :: AI x :: stk) hi := by
  subst e
  intro l p e s m args below meth c D ad cy A H locs ls hc hx9
  exact lv_icmp_eq (x := iI x) (y := iI x) hc.1 hc.2.1 hd ht (fun _ => kt l p e s m args below meth c D ad cy A H locs ls hc hx9) (fun q => absurd rfl q)
theorem zw_ret {L b : Nat} {xs : Nat → Int32} (hd : decode cL_law pc = .ok (.ireturn, 1)) (h1 : cells ≤ 601024) (h2 : slots ≤ 7293034) : ZG kLaw (eeW L xs) (QW b) cells slots pc lv [AI 1] hi := by
  intro l p e s m args below meth c D ad cy A H locs ls hc hx9
  obtain ⟨hx, hb, hr, hml, hown, hlk, hts, hA, hst, hld, hK, hP, hD, hS, hR, hl⟩ := id hc
  have e1 : iI 1 = 1 := by decide +kernel
  by_cases hb9 : args = #[Value.ref b]
  · subst hb9
    have k1 := lw_ret (p := p) (l := l) (e := e) (s := s) (m := m) (below := below) (meth := meth) (c := c) (b := b) hx hb hr hlk (pc := pc) (H := H) (ls := ls) hd
    have k2 := va_forget (locs := locs) (fun q hq => hx9.2.2.2.2 _ (hS.2.2 q hq)) (W.widen h1 h2 k1)
    intro T hT X
    obtain ⟨t, a1, a2⟩ := k2 T hT X
    refine ⟨t, ?_, fun _ => a2⟩
    rw [← e1] at a1
    exact a1
  · intro T hT X
    exact ⟨_, Steps.refl _, fun h => absurd h hb9⟩
end LAW1
theorem ciof {h : HI} (c : CX h) : CI h := ⟨c.1.1, ⟨c.1.2.1, c.1.2.2⟩, c.2.1.1, c.2.1.2.1, c.2.1.2.2⟩
theorem miof {h : HI} (m : MX h) : MI h := ⟨m.1.1, ⟨m.1.2.1, m.1.2.2⟩, m.2.1.1, m.2.1.2⟩
theorem LwR.mx {h h1 : HI} {M : List Nat} (r : LwR h) (f : Fr M h h1) (hM : ∀ m ∈ M, m < 39 ∨ 44 < m) : MX h1 := r.1.2.1.eq (eqm_fr f hM)
theorem LwR.l8 {h h1 : HI} (r : LwR h) (e : h1 39 = h 39) : 0 ≤ h1 39 8 ∧ h1 39 8 ≤ 600 := by
  have q := r.2.2.1.1
  rw [e]; omega
section LAW2
variable {L : Nat} {xs : Nat → Int32} {QQ : QE} {cells slots i : Nat} {hi : HI} {pc : Nat} {stk : List AV}
theorem zg_rd {j : Nat} (hL : L ≤ 3072) (h6 : i + 6 ≤ L) (hj : j ≤ 5) (d0 : decode cL_law pc = .ok (.aload_n 0, 1)) (d1 : decode cL_law (pc + 1) = .ok (.iload 4, 2)) (d2 : decode cL_law (pc + 1 + 2) = .ok (.iconst (j : Int), 1)) (d3 : decode cL_law (pc + 1 + 2 + 1) = .ok (.iadd, 1)) (d4 : decode cL_law (pc + 1 + 2 + 1 + 1) = .ok (.iaload, 1)) (kk : ZG kLaw (eeW L xs) QQ cells slots (pc + 6) (lvL i) (AI (X5 xs i j) :: stk) hi) : ZG kLaw (eeW L xs) QQ cells slots pc (lvL i) stk hi := by
  refine zg_aload_n (x := 500) d0 rfl 4 rfl ?_
  refine zg_iload (i := 4) (x := (i : Int)) d1 0 rfl ?_
  refine zg_iconst (v := (j : Int)) d2 rfl ?_
  refine zg_iadd d3 (fun v ev => ?_)
  refine zg_sld (L := L) (xs := xs) (fun c s ad A h => h.2.1) (by omega) (by omega) (by omega) d4 (fun w ew rw => ?_)
  rw [show v.toNat = i + j by omega] at ew
  subst ew
  exact kk
/-- on to the next call -/
def Tail (L : Nat) (xs : Nat → Int32) (QQ : QE) (cells slots i : Nat) : Prop := ∀ (h2 : HI) (c2 s2 : Nat), LwR h2 → c2 ≤ cells + 1 → s2 ≤ slots + 6 → ZG kLaw (eeW L xs) QQ c2 s2 1485 (lvL i) [] h2
end LAW2
