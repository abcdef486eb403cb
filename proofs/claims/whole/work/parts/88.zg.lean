/-- the midst of a method, whatever its end and its room used so far -/
abbrev QE : Type := va_G → (Nat → Nat) → (Nat → ClassId) → (Nat → Prop) → List Frame → Array Value → State → State → Prop
def ZG (k : Kd) (ee : Code → State → (Nat → Nat) → (Nat → Prop) → Prop) (QQ : QE) (cells slots : Nat) (pc : Nat) (lv : List (Nat × AV)) (stk : List AV) (hi : HI) : Prop :=
  ∀ (l : Launch) (p : Program) (e : Env) (s : State) (m : MethodId) (args : Array Value) (below : List Frame) (meth : Method) (c : Code) (D : va_G) (ad : Nat → Nat) (cy : Nat → ClassId) (A : Nat → Prop) (H : Heap) (locs : List Loc) (ls : Array Slot), ZC k p s m args meth c D ad cy A H locs ls lv hi → (l.stackTraces = false ∧ XSt A s s.heap ∧ ee c s ad A) →
    W p l e k.2.2.1 s m args below meth c H locs cells slots (QQ D ad cy A below args s) (F0 m pc ls (stk.map (cv ad)))
section ZGR
variable {k : Kd} {ee : Code → State → (Nat → Nat) → (Nat → Prop) → Prop} {QQ : QE} {cells slots : Nat} {pc : Nat} {lv : List (Nat × AV)} {stk : List AV} {hi : HI}
theorem zg_iconst {n : Int} {v : Int} (hd : decode k.1 pc = .ok (.iconst n, 1)) (hv : n = v) (kk : ZG k ee QQ cells slots (pc + 1) lv (AI v :: stk) hi) : ZG k ee QQ cells slots pc lv stk hi := by
  subst hv
  intro l p e s m args below meth c D ad cy A H locs ls hc hx9
  exact lv_iconst (v := iI n) hc.1 hc.2.1 hd rfl (kk l p e s m args below meth c D ad cy A H locs ls hc hx9)
theorem zg_bipush {n : Int} {v : Int} (hd : decode k.1 pc = .ok (.bipush n, 2)) (hv : (Int8.ofInt n).toInt32 = iI v) (kk : ZG k ee QQ cells slots (pc + 2) lv (AI v :: stk) hi) : ZG k ee QQ cells slots pc lv stk hi := by
  intro l p e s m args below meth c D ad cy A H locs ls hc hx9
  exact lv_bipush (v := iI v) hc.1 hc.2.1 hd hv (kk l p e s m args below meth c D ad cy A H locs ls hc hx9)
theorem zg_iload_n {q : Fin 4} {i : Nat} {x : Int} (hd : decode k.1 pc = .ok (.iload_n q, 1)) (hq : (q : Nat) = i) (j : Nat) (hj : lv[j]? = some (i, AI x)) (kk : ZG k ee QQ cells slots (pc + 1) lv (AI x :: stk) hi) : ZG k ee QQ cells slots pc lv stk hi := by
  intro l p e s m args below meth c D ad cy A H locs ls hc hx9
  exact lv_iload_n (x := iI x) hc.1 hc.2.1 hd hq (z_at hc.2.2.2.2.2.2.2.2.2.2.2.2.2.2.2 j hj) (kk l p e s m args below meth c D ad cy A H locs ls hc hx9)
theorem zg_iload {i : Nat} {x : Int} (hd : decode k.1 pc = .ok (.iload i, 2)) (j : Nat) (hj : lv[j]? = some (i, AI x)) (kk : ZG k ee QQ cells slots (pc + 2) lv (AI x :: stk) hi) : ZG k ee QQ cells slots pc lv stk hi := by
  intro l p e s m args below meth c D ad cy A H locs ls hc hx9
  exact lv_iload (x := iI x) hc.1 hc.2.1 hd (z_at hc.2.2.2.2.2.2.2.2.2.2.2.2.2.2.2 j hj) (kk l p e s m args below meth c D ad cy A H locs ls hc hx9)
theorem zg_aload_n {q : Fin 4} {i : Nat} {x : Nat} (hd : decode k.1 pc = .ok (.aload_n q, 1)) (hq : (q : Nat) = i) (j : Nat) (hj : lv[j]? = some (i, AR x)) (kk : ZG k ee QQ cells slots (pc + 1) lv (AR x :: stk) hi) : ZG k ee QQ cells slots pc lv stk hi := by
  intro l p e s m args below meth c D ad cy A H locs ls hc hx9
  exact lv_aloadv_n (x := (rc x).map ad) hc.1 hc.2.1 hd hq (z_at hc.2.2.2.2.2.2.2.2.2.2.2.2.2.2.2 j hj) (kk l p e s m args below meth c D ad cy A H locs ls hc hx9)
theorem zg_istore {i : Nat} {x : Int} {lv' : List (Nat × AV)} (hd : decode k.1 pc = .ok (.istore i, 2)) (hn : i < k.2.2.2.2.2) (hl : (i, AI x) :: lv.filter (fun q => !(q.1 == i) && !(q.1 + 1 == i && isL q.2)) = lv') (kk : ZG k ee QQ cells slots (pc + 2) lv' stk hi) : ZG k ee QQ cells slots pc lv (AI x :: stk) hi := by
  intro l p e s m args below meth c D ad cy A H locs ls hc hx9
  exact lv_istore (x := iI x) hc.1 hc.2.1 hd hc.2.2.2.2.2.2.2.2.2.2.2.2.2.2.2 hn (z_filt hl) (fun ls' hl' => kk l p e s m args below meth c D ad cy A H locs ls' (hc.loc hl') hx9)
theorem zg_iinc {i j : Nat} {n : Int} {x : Int} (hd : decode k.1 pc = .ok (.iinc i n, 3)) (hj : lv[j]? = some (i, AI x)) (hn : i < k.2.2.2.2.2) {w : Int → List (Nat × AV)} (hl : ∀ v : Int, (i, AI v) :: lv.filter (fun q => !(q.1 == i) && !(q.1 + 1 == i && isL q.2)) = w v) (kk : ∀ v : Int, v = x + n → ZG k ee QQ cells slots (pc + 3) (w v) stk hi) : ZG k ee QQ cells slots pc lv stk hi := by
  intro l p e s m args below meth c D ad cy A H locs ls hc hx9
  exact lv_iinc (x := iI x) (v := iI (x + n)) (k := j) hc.1 hc.2.1 hd hc.2.2.2.2.2.2.2.2.2.2.2.2.2.2.2 (by rw [List.getElem?_map, hj]; rfl) (iI_add x n) hn (z_filt (hl (x + n))) (fun ls' hl' => kk (x + n) rfl l p e s m args below meth c D ad cy A H locs ls' (hc.loc hl') hx9)
theorem zg_iadd {x y : Int} (hd : decode k.1 pc = .ok (.iadd, 1)) (kk : ∀ v : Int, v = x + y → ZG k ee QQ cells slots (pc + 1) lv (AI v :: stk) hi) : ZG k ee QQ cells slots pc lv (AI y :: AI x :: stk) hi := by
  intro l p e s m args below meth c D ad cy A H locs ls hc hx9
  refine lv_iadd (x := iI x) (y := iI y) hc.1 hc.2.1 hd ?_
  rw [iI_add]
  exact kk _ rfl l p e s m args below meth c D ad cy A H locs ls hc hx9
theorem zg_isub {x y : Int} (hd : decode k.1 pc = .ok (.isub, 1)) (kk : ∀ v : Int, v = x - y → ZG k ee QQ cells slots (pc + 1) lv (AI v :: stk) hi) : ZG k ee QQ cells slots pc lv (AI y :: AI x :: stk) hi := by
  intro l p e s m args below meth c D ad cy A H locs ls hc hx9
  refine lv_isub (x := iI x) (y := iI y) hc.1 hc.2.1 hd ?_
  rw [iI_sub]
  exact kk _ rfl l p e s m args below meth c D ad cy A H locs ls hc hx9
theorem zg_goto {off : Int} {tgt : Nat} (hd : decode k.1 pc = .ok (.goto off, 3)) (ht : (pc : Int) + off = (tgt : Int)) (kk : ZG k ee QQ cells slots tgt lv stk hi) : ZG k ee QQ cells slots pc lv stk hi := by
  intro l p e s m args below meth c D ad cy A H locs ls hc hx9
  exact lv_goto hc.1 hc.2.1 hd ht (kk l p e s m args below meth c D ad cy A H locs ls hc hx9)
theorem zg_if_eq {x : Int} {off : Int} {tgt : Nat} (hd : decode k.1 pc = .ok (.ifCond .eq off, 3)) (ht : (pc : Int) + off = (tgt : Int)) (hx : inR x) (kt : x = 0 → ZG k ee QQ cells slots tgt lv stk hi) (kf : x ≠ 0 → ZG k ee QQ cells slots (pc + 3) lv stk hi) : ZG k ee QQ cells slots pc lv (AI x :: stk) hi := by
  intro l p e s m args below meth c D ad cy A H locs ls hc hx9
  have h0 : (0 : Int32) = iI 0 := by decide +kernel
  refine lv_if_eq (x := iI x) hc.1 hc.2.1 hd ht (fun q => kt ?_ l p e s m args below meth c D ad cy A H locs ls hc hx9) (fun q => kf ?_ l p e s m args below meth c D ad cy A H locs ls hc hx9)
  · simp only [h0, iI_eq hx inR_lit.1, iI_lt hx inR_lit.1, iI_lt inR_lit.1 hx, iI_le hx inR_lit.1, iI_le inR_lit.1 hx, GE.ge, GT.gt, ne_eq] at q ⊢
    omega
  · simp only [h0, iI_eq hx inR_lit.1, iI_lt hx inR_lit.1, iI_lt inR_lit.1 hx, iI_le hx inR_lit.1, iI_le inR_lit.1 hx, GE.ge, GT.gt, ne_eq] at q ⊢
    omega
theorem zg_if_ne {x : Int} {off : Int} {tgt : Nat} (hd : decode k.1 pc = .ok (.ifCond .ne off, 3)) (ht : (pc : Int) + off = (tgt : Int)) (hx : inR x) (kt : x ≠ 0 → ZG k ee QQ cells slots tgt lv stk hi) (kf : x = 0 → ZG k ee QQ cells slots (pc + 3) lv stk hi) : ZG k ee QQ cells slots pc lv (AI x :: stk) hi := by
  intro l p e s m args below meth c D ad cy A H locs ls hc hx9
  have h0 : (0 : Int32) = iI 0 := by decide +kernel
  refine lv_if_ne (x := iI x) hc.1 hc.2.1 hd ht (fun q => kt ?_ l p e s m args below meth c D ad cy A H locs ls hc hx9) (fun q => kf ?_ l p e s m args below meth c D ad cy A H locs ls hc hx9)
  · simp only [h0, iI_eq hx inR_lit.1, iI_lt hx inR_lit.1, iI_lt inR_lit.1 hx, iI_le hx inR_lit.1, iI_le inR_lit.1 hx, GE.ge, GT.gt, ne_eq] at q ⊢
    omega
  · simp only [h0, iI_eq hx inR_lit.1, iI_lt hx inR_lit.1, iI_lt inR_lit.1 hx, iI_le hx inR_lit.1, iI_le inR_lit.1 hx, GE.ge, GT.gt, ne_eq] at q ⊢
    omega
theorem zg_icmp_gt {x y : Int} {off : Int} {tgt : Nat} (hd : decode k.1 pc = .ok (.if_icmp .gt off, 3)) (ht : (pc : Int) + off = (tgt : Int)) (hx : inR x) (hy : inR y) (kt : y < x → ZG k ee QQ cells slots tgt lv stk hi) (kf : x ≤ y → ZG k ee QQ cells slots (pc + 3) lv stk hi) : ZG k ee QQ cells slots pc lv (AI y :: AI x :: stk) hi := by
  intro l p e s m args below meth c D ad cy A H locs ls hc hx9
  refine lv_icmp_gt (x := iI x) (y := iI y) hc.1 hc.2.1 hd ht (fun q => kt ?_ l p e s m args below meth c D ad cy A H locs ls hc hx9) (fun q => kf ?_ l p e s m args below meth c D ad cy A H locs ls hc hx9)
  · simp only [iI_eq hx hy, iI_lt hx hy, iI_lt hy hx, iI_le hx hy, iI_le hy hx, GE.ge, GT.gt, ne_eq] at q ⊢
    omega
  · simp only [iI_eq hx hy, iI_lt hx hy, iI_lt hy hx, iI_le hx hy, iI_le hy hx, GE.ge, GT.gt, ne_eq] at q ⊢
    omega
theorem zg_iand {x y : Int} (hd : decode k.1 pc = .ok (.iand, 1)) (kk : ∀ v : Int, v = (iI x &&& iI y).toInt → ZG k ee QQ cells slots (pc + 1) lv (AI v :: stk) hi) : ZG k ee QQ cells slots pc lv (AI y :: AI x :: stk) hi := by
  intro l p e s m args below meth c D ad cy A H locs ls hc hx9
  refine lv_iand (x := iI x) (y := iI y) hc.1 hc.2.1 hd ?_
  have h := kk _ rfl l p e s m args below meth c D ad cy A H locs ls hc hx9
  simp only [List.map_cons, cv, iI_of] at h; exact h
theorem zg_i2l {x : Int} (hd : decode k.1 pc = .ok (.i2l, 1)) (hx0 : inR x) (kk : ZG k ee QQ cells slots (pc + 1) lv (AL x :: stk) hi) : ZG k ee QQ cells slots pc lv (AI x :: stk) hi := by
  intro l p e s m args below meth c D ad cy A H locs ls hc hx9
  refine lv_i2l (x := iI x) (v := iL x) hc.1 hc.2.1 hd ?_ (kk l p e s m args below meth c D ad cy A H locs ls hc hx9)
  apply Int64.toInt_inj.mp
  rw [Int32.toInt_toInt64, iI_toInt hx0, iL_toInt ⟨by have := hx0.1; omega, by have := hx0.2; omega⟩]
end ZGR
