/-! new objects: a judgement over lists of cells; wr is what stood before, ws what is listed -/
theorem va_AOA.moved {t : FieldType} {u U : State} (hvm : u.vm.Alike U.vm) (h : va_AOA t u) : va_AOA t U := by
  have c : (Cond.arrayOver (.array t)).before #[] (u.setVm U.vm) = true := by rw [Cond.arrayOver_setVmC hvm]; exact h
  exact c
def nestK : List (Nat × MethodName) := [(9, yX1_init), (18, yX3_init), (34, yX6_init), (57, yX2_init)]
def NF (A : Nat → Prop) (u1 u2 : Nat) (s : State) (H : Heap) : Prop := (va_AOA .int s ∧ va_AO "LateSet$Sign" s) ∧ (va_Z "LateSet$Sign" "UNDO" "LLateSet$Sign;" (.ref u1) A s H ∧ va_Z "LateSet$Sign" "LIVES" "LLateSet$Sign;" (.ref u2) A s H) ∧ ∀ q ∈ nestK, va_Nw (.methodLinkNest "LateSet" q.1 q.2 "LateSet") s
theorem NF.use {A : Nat → Prop} {u1 u2 : Nat} {s U : State} {H : Heap} {locs : List Loc} (h : NF A u1 u2 s s.heap) (hS : va_S A s.heap H locs) (hU : U.heap = H) (hW : s.WarmedH U.vm) : NF A u1 u2 U U.heap := by
  subst hU
  exact ⟨⟨h.1.1.moved hW.alike, h.1.2.moved hW.alike⟩, ⟨va_Z.moved hW.alike (h.2.1.1.kept hS.2.1), va_Z.moved hW.alike (h.2.1.2.kept hS.2.1)⟩, fun q hq => va_Nw.warmM hW (h.2.2 q hq)⟩
theorem NF.calling {A : Nat → Prop} {u1 u2 : Nat} {U : State} {g : JFrame} {mk : MethodId} {v : Array Value} (h : NF A u1 u2 U U.heap) : NF A u1 u2 (U.calling g mk v) (U.calling g mk v).heap :=
  ⟨⟨h.1.1.moved (u := U) (U := U.calling g mk v) (Vm.Alike.refl U.vm), h.1.2.moved (u := U) (U := U.calling g mk v) (Vm.Alike.refl U.vm)⟩, ⟨va_Z.moved (u := U) (U := U.calling g mk v) (Vm.Alike.refl U.vm) h.2.1.1, va_Z.moved (u := U) (U := U.calling g mk v) (Vm.Alike.refl U.vm) h.2.1.2⟩, fun q hq => va_Nw.same (u := U) (U := U.calling g mk v) rfl rfl (h.2.2 q hq)⟩
theorem va_RA_name {U : State} {cA : ClassId} {ty : FieldType} (h : va_RA U cA ty) : U.vm.findClass ("[" ++ ty.toString) = some cA := by
  cases ty with
  | object C => obtain ⟨_, _, _, _, _, h⟩ := h; exact h
  | _ => exact h
abbrev FX : Type := Launch → Method → Code → State → Prop
def NC (D : va_G) (cy : Nat → ClassId) (A : Nat → Prop) (u1 u2 : Nat) (k : Kd) (p : Program) (s : State) (m : MethodId) (args : Array Value) (meth : Method) (c : Code) (H : Heap) (locs : List Loc) (ls : Array Slot) (lv : List (Nat × Value)) (ws : va_W) : Prop :=
  p.tables.exec = Jvm.exec ∧ c.code = k.1 ∧ meth.sig.returnType = k.2.2.2.2.1 ∧ c.maxLocals = k.2.2.2.2.2 ∧ s.vm.findClass k.2.2.2.1 = some m.cls ∧ meth.locks = false ∧ (∀ w ∈ k.2.1, w.before args s = true) ∧ (∀ q, s.heap.size ≤ q → A q) ∧ NF A u1 u2 s s.heap ∧ va_K D vwCl (tysOf cy) s ∧ va_P D vwCl ws H ∧ va_D A ws ∧ va_S A s.heap H locs ∧ lv_has ls k.2.2.2.2.2 lv
def ZN (D : va_G) (cy : Nat → ClassId) (A : Nat → Prop) (u1 u2 : Nat) (k : Kd) (FF : FX) (QQ : List Frame → Array Value → State → State → Prop) (cells slots pc : Nat) (lv : List (Nat × Value)) (stk : List Value) (wr ws : va_W) : Prop :=
  ∀ (l : Launch) (p : Program) (e : Env) (s : State) (m : MethodId) (args : Array Value) (below : List Frame) (meth : Method) (c : Code) (H : Heap) (locs : List Loc) (ls : Array Slot), NC D cy A u1 u2 k p s m args meth c H locs ls lv (wr ++ ws) → FF l meth c s →
    W p l e k.2.2.1 s m args below meth c H locs cells slots (QQ below args s) (F0 m pc ls stk)
section ZNR
variable {D : va_G} {cy : Nat → ClassId} {A : Nat → Prop} {u1 u2 : Nat} {k : Kd} {FF : FX} {QQ : List Frame → Array Value → State → State → Prop} {cells slots pc : Nat} {lv : List (Nat × Value)} {stk : List Value} {wr ws : va_W}
theorem NC.heap {p : Program} {s : State} {m : MethodId} {args : Array Value} {meth : Method} {c : Code} {H H1 : Heap} {locs locs1 : List Loc} {ls : Array Slot} {ws1 : va_W} (h : NC D cy A u1 u2 k p s m args meth c H locs ls lv ws) (hP : va_P D vwCl ws1 H1) (hD : va_D A ws1) (hS : va_S A s.heap H1 locs1) : NC D cy A u1 u2 k p s m args meth c H1 locs1 ls lv ws1 := by
  obtain ⟨h1, h2, h3, h4, h5, h6, h7, h8, h9, h10, -, -, -, h14⟩ := h
  exact ⟨h1, h2, h3, h4, h5, h6, h7, h8, h9, h10, hP, hD, hS, h14⟩
theorem NC.loc {p : Program} {s : State} {m : MethodId} {args : Array Value} {meth : Method} {c : Code} {H : Heap} {locs : List Loc} {ls ls1 : Array Slot} {lv1 : List (Nat × Value)} (h : NC D cy A u1 u2 k p s m args meth c H locs ls lv ws) (hl : lv_has ls1 k.2.2.2.2.2 lv1) : NC D cy A u1 u2 k p s m args meth c H locs ls1 lv1 ws := by
  obtain ⟨h1, h2, h3, h4, h5, h6, h7, h8, h9, h10, h11, h12, h13, -⟩ := h
  exact ⟨h1, h2, h3, h4, h5, h6, h7, h8, h9, h10, h11, h12, h13, hl⟩
theorem zn_aload_n {q : Fin 4} {i x : Nat} (hd : decode k.1 pc = .ok (.aload_n q, 1)) (hq : (q : Nat) = i) (j : Nat) (hj : lv[j]? = some (i, .ref x)) (kk : ZN D cy A u1 u2 k FF QQ cells slots (pc + 1) lv (.ref x :: stk) wr ws) : ZN D cy A u1 u2 k FF QQ cells slots pc lv stk wr ws := by
  intro l p e s m args below meth c H locs ls hc hf
  exact lv_aload_n hc.1 hc.2.1 hd hq (lv_at hc.2.2.2.2.2.2.2.2.2.2.2.2.2 j hj) (kk l p e s m args below meth c H locs ls hc hf)
theorem zn_astore_n {q : Fin 4} {i x : Nat} {lv' : List (Nat × Value)} (hd : decode k.1 pc = .ok (.astore_n q, 1)) (hq : (q : Nat) = i) (hn : i < k.2.2.2.2.2) (hl : (i, Value.ref x) :: lv.filter (fun q => !(q.1 == i) && !(q.1 + 1 == i && q.2.category == 2)) = lv') (kk : ZN D cy A u1 u2 k FF QQ cells slots (pc + 1) lv' stk wr ws) : ZN D cy A u1 u2 k FF QQ cells slots pc lv (.ref x :: stk) wr ws := by
  intro l p e s m args below meth c H locs ls hc hf
  exact lv_astore_n hc.1 hc.2.1 hd hq hc.2.2.2.2.2.2.2.2.2.2.2.2.2 hn hl (fun ls' hl' => kk l p e s m args below meth c H locs ls' (hc.loc hl') hf)
theorem zn_dup {v : Value} (hd : decode k.1 pc = .ok (.dup, 1)) (hv : v.category = 1) (kk : ZN D cy A u1 u2 k FF QQ cells slots (pc + 1) lv (v :: v :: stk) wr ws) : ZN D cy A u1 u2 k FF QQ cells slots pc lv (v :: stk) wr ws := by
  intro l p e s m args below meth c H locs ls hc hf
  exact lv_dup hc.1 hc.2.1 hd hv (kk l p e s m args below meth c H locs ls hc hf)
theorem zn_iconst {n : Int} (hd : decode k.1 pc = .ok (.iconst n, 1)) (kk : ZN D cy A u1 u2 k FF QQ cells slots (pc + 1) lv (.int (iI n) :: stk) wr ws) : ZN D cy A u1 u2 k FF QQ cells slots pc lv stk wr ws := by
  intro l p e s m args below meth c H locs ls hc hf
  exact lv_iconst (v := iI n) hc.1 hc.2.1 hd rfl (kk l p e s m args below meth c H locs ls hc hf)
theorem zn_bipush {n : Int} (hd : decode k.1 pc = .ok (.bipush n, 2)) (hv : (Int8.ofInt n).toInt32 = iI n) (kk : ZN D cy A u1 u2 k FF QQ cells slots (pc + 2) lv (.int (iI n) :: stk) wr ws) : ZN D cy A u1 u2 k FF QQ cells slots pc lv stk wr ws := by
  intro l p e s m args below meth c H locs ls hc hf
  exact lv_bipush (v := iI n) hc.1 hc.2.1 hd hv (kk l p e s m args below meth c H locs ls hc hf)
theorem zn_sipush {n : Int} (hd : decode k.1 pc = .ok (.sipush n, 3)) (hv : (Int16.ofInt n).toInt32 = iI n) (kk : ZN D cy A u1 u2 k FF QQ cells slots (pc + 3) lv (.int (iI n) :: stk) wr ws) : ZN D cy A u1 u2 k FF QQ cells slots pc lv stk wr ws := by
  intro l p e s m args below meth c H locs ls hc hf
  exact lv_sipush (v := iI n) hc.1 hc.2.1 hd hv (kk l p e s m args below meth c H locs ls hc hf)
theorem zn_getU {idx : Nat} (hlink : Cond.fieldLink k.2.2.2.1 idx "LateSet$Sign" "UNDO" "LLateSet$Sign;" ∈ k.2.1) (hd : decode k.1 pc = .ok (.getstatic idx, 3)) (kk : ZN D cy A u1 u2 k FF QQ cells slots (pc + 3) lv (.ref u1 :: stk) wr ws) : ZN D cy A u1 u2 k FF QQ cells slots pc lv stk wr ws := by
  intro l p e s m args below meth c H locs ls hc hf
  obtain ⟨hx, hb, hr, hml, hown, hlk, hts, hA, hnf, hK, hP, hD, hS, hl⟩ := id hc
  exact va_gets hx hb hnf.2.1.1 hS hown (hts _ hlink) (fun _ h => h) hd (kk l p e s m args below meth c H locs ls hc hf)
theorem zn_getL {idx : Nat} (hlink : Cond.fieldLink k.2.2.2.1 idx "LateSet$Sign" "LIVES" "LLateSet$Sign;" ∈ k.2.1) (hd : decode k.1 pc = .ok (.getstatic idx, 3)) (kk : ZN D cy A u1 u2 k FF QQ cells slots (pc + 3) lv (.ref u2 :: stk) wr ws) : ZN D cy A u1 u2 k FF QQ cells slots pc lv stk wr ws := by
  intro l p e s m args below meth c H locs ls hc hf
  obtain ⟨hx, hb, hr, hml, hown, hlk, hts, hA, hnf, hK, hP, hD, hS, hl⟩ := id hc
  exact va_gets hx hb hnf.2.1.2 hS hown (hts _ hlink) (fun _ h => h) hd (kk l p e s m args below meth c H locs ls hc hf)
theorem zn_obj {idx a : Nat} (hlink : Cond.methodLink k.2.2.2.1 idx objectInit ∈ k.2.1) (him : Cond.instanceMethod objectInit ∈ k.2.1) (hco : Cond.code objectInit ⟨#[0xb1]⟩ 1 none ∈ k.2.1) (hd : decode k.1 pc = .ok (.invokespecial idx, 3)) (hfr : 1 ≤ k.2.2.1.frames) (hlo : 12 ≤ k.2.2.1.locals) (kk : ZN D cy A u1 u2 k FF QQ cells slots (pc + 3) lv [] wr ws) : ZN D cy A u1 u2 k FF QQ cells slots pc lv [.ref a] wr ws := by
  intro l p e s m args below meth c H locs ls hc hf
  obtain ⟨hx, hb, hr, hml, hown, hlk, hts, hA, hnf, hK, hP, hD, hS, hl⟩ := id hc
  exact W.objInit (g := F0 m pc ls [.ref a]) (rest := []) hx hb hown (hts _ hlink) (hts _ him) (hts _ hco) rfl (by rw [hml]; exact hl.1) rfl hd hfr (by exact hlo) (kk l p e s m args below meth c H locs ls hc hf)
theorem zn_new {C : String} {T : u_T} {N ci idx c2 s2 : Nat} {ty : Nat → FieldType} {fs : List Value} (hin : ∀ w ∈ u_ws C T N, w ∈ k.2.1) (hty : ∀ k, k < N → parseFieldDescriptor (T k).2.2.1 = some (ty k)) (hcl : Cond.classLink k.2.2.2.1 idx C ∈ k.2.1) (hinst : Cond.instantiable C N ∈ k.2.1) (hini : Cond.initialized C ∈ k.2.1) (hc0 : vwCl[ci]? = some (C, T, N)) (hfs : ∀ j, j < N → defaultValue (ty j) = vp_V fs j) (e1 : cells + 1 = c2) (e2 : slots + N = s2) (hcells : c2 ≤ k.2.2.1.cells) (hslots : s2 ≤ k.2.2.1.slots) (hd : decode k.1 pc = .ok (.new idx, 3))
    (kk : ∀ q : Nat, ZN D cy A u1 u2 k FF QQ c2 s2 (pc + 3) lv (.ref q :: stk) wr (ws ++ [(q, .inr (ci, fs))])) : ZN D cy A u1 u2 k FF QQ cells slots pc lv stk wr ws := by
  subst e1 e2
  intro l p e s m args below meth c H locs ls hc hf
  obtain ⟨hx, hb, hr, hml, hown, hlk, hts, hA, hnf, hK, hP, hD, hS, hl⟩ := id hc
  refine va_new (ci := ci) (fs := fs) (C := C) (T := T) (N := N) hx hb hts hin ty hty hown (hts _ hcl) (hts _ hinst) (hts _ hini) hK hP hD hS hA hc0 hfs hcells hslots hd (fun q H1 hP1 hD1 hS1 => ?_)
  rw [List.append_assoc] at hP1 hD1
  exact kk q l p e s m args below meth c H1 locs ls (hc.heap hP1 hD1 hS1) hf
theorem zn_newa {atype : ArrayType} {t N c2 s2 : Nat} {a0 : vp_A} {n : Int32} {ty : FieldType} (hd : decode k.1 pc = .ok (.newarray atype, 2)) (harr : Cond.arrayClass (newarray.typeOf atype) ∈ k.2.1) (hty : newarray.typeOf atype = ty) (hta : (tysOf cy)[t]? = some (cy t, ty)) (ha : ∀ cA : ClassId, vp_cell cA a0 = arrV cA N (fun _ => defaultValue ty)) (hn : ¬ n < 0) (hN : n.toNatClampNeg = N) (hbytes : N * componentBytes ty ≤ 536870912) (e1 : cells + 1 = c2) (e2 : slots + N = s2) (hcells : c2 ≤ k.2.2.1.cells) (hslots : s2 ≤ k.2.2.1.slots)
    (kk : ∀ q : Nat, ZN D cy A u1 u2 k FF QQ c2 s2 (pc + 2) lv (.ref q :: stk) wr (ws ++ [(q, .inl (cy t, a0))])) : ZN D cy A u1 u2 k FF QQ cells slots pc lv (.int n :: stk) wr ws := by
  subst e1 e2
  intro l p e s m args below meth c H locs ls hc hf
  obtain ⟨hx, hb, hr, hml, hown, hlk, hts, hA, hnf, hK, hP, hD, hS, hl⟩ := id hc
  refine va_newa (D := D) (cl := vwCl) (tys := tysOf cy) (a0 := a0) hx hb (hts _ harr) hty hK hP hD hS hA ha hn hN hbytes hcells hslots hd (fun q cA H1 hK1 hP1 hD1 hS1 => ?_)
  have r1 := va_RA_name (hK1.2 (tysOf cy).length (cA, ty) (by simp)).2
  have r2 := va_RA_name (hK.2 t _ hta).2
  cases Option.some.inj (r1.symm.trans r2)
  rw [List.append_assoc] at hP1 hD1
  exact kk q l p e s m args below meth c H1 locs ls (hc.heap hP1 hD1 hS1) hf
theorem zn_newq {idx N c2 s2 : Nat} {n : Int32} (hd : decode k.1 pc = .ok (.anewarray idx, 3)) (hcl : Cond.classLink k.2.2.2.1 idx "LateSet$Sign" ∈ k.2.1) (hn : ¬ n < 0) (hN : n.toNatClampNeg = N) (hbytes : N * 4 ≤ 536870912) (e1 : cells + 1 = c2) (e2 : slots + N = s2) (hcells : c2 ≤ k.2.2.1.cells) (hslots : s2 ≤ k.2.2.1.slots)
    (kk : ∀ q : Nat, ZN D cy A u1 u2 k FF QQ c2 s2 (pc + 3) lv (.ref q :: stk) wr (ws ++ [(q, .inl (cy 4, N, .inr (.inr (.inr (.inr (fun _ => none))))))])) : ZN D cy A u1 u2 k FF QQ cells slots pc lv (.int n :: stk) wr ws := by
  subst e1 e2
  intro l p e s m args below meth c H locs ls hc hf
  obtain ⟨hx, hb, hr, hml, hown, hlk, hts, hA, hnf, hK, hP, hD, hS, hl⟩ := id hc
  refine va_newq (D := D) (cl := vwCl) (tys := tysOf cy) hx hb hown (hts _ hcl) hnf.1.2 hK hP hD hS hA hn hN hbytes hcells hslots hd (fun q cA H1 hK1 hP1 hD1 hS1 => ?_)
  have r1 := va_RA_name (hK1.2 (tysOf cy).length (cA, .object "LateSet$Sign") (by simp)).2
  have r2 := va_RA_name (hK.2 4 (cy 4, .object "LateSet$Sign") rfl).2
  cases Option.some.inj (r1.symm.trans r2)
  rw [List.append_assoc] at hP1 hD1
  exact kk q l p e s m args below meth c H1 locs ls (hc.heap hP1 hD1 hS1) hf
theorem mna_w {L : List Nat} {f : Nat → va_E} {e : va_E} {N : Nat} {r : Nat → Nat} : va_pl ([] ++ (List.range N).map r) (vr_up f ((List.range N).map r) e) = (List.range N).map (fun i => (r i, e)) := by
  unfold va_pl
  rw [List.nil_append, List.map_map]
  apply List.map_congr_left
  intro i hi
  show (r i, vr_up f _ e (r i)) = (r i, e)
  rw [vr_up_in (List.mem_map.mpr ⟨i, hi, rfl⟩)]
theorem mna_n : "[" ++ (FieldType.array FieldType.int).toString = "[[I" := by decide +kernel
theorem zn_mna {idx N K c2 s2 : Nat} {n q9 : Int32} (hd : decode k.1 pc = .ok (.multianewarray idx 2, 4)) (hcl : Cond.classLink k.2.2.2.1 idx "[[I" ∈ k.2.1) (harr : Cond.arrayClass .int ∈ k.2.1) (hn : ¬ n < 0) (hk : ¬ q9 < 0) (hN : n.toNatClampNeg = N) (hM : q9.toNatClampNeg = K) (hb1 : N * 4 ≤ 536870912) (hb2 : K * 4 ≤ 536870912) (hb3 : K ≤ 536870912) (e1 : cells + 1 + N = c2) (e2 : slots + N + N * K = s2) (hcells : c2 ≤ k.2.2.1.cells) (hslots : s2 ≤ k.2.2.1.slots)
    (kk : ∀ (q : Nat) (r : Nat → Nat), ZN D cy A u1 u2 k FF QQ c2 s2 (pc + 4) lv (.ref q :: stk) wr (ws ++ (q, .inl (cy 3, N, .inr (.inr (.inr (.inr (fun i => if i < N then some (r i) else none)))))) :: (List.range N).map (fun i => (r i, .inl (cy 0, K, .inl (fun _ => iI 0)))))) : ZN D cy A u1 u2 k FF QQ cells slots pc lv (.int q9 :: .int n :: stk) wr ws := by
  subst e1 e2
  intro l p e s m args below meth c H locs ls hc hf
  obtain ⟨hx, hb, hr, hml, hown, hlk, hts, hA, hnf, hK, hP, hD, hS, hl⟩ := id hc
  refine va_mna (D := D) (cl := vwCl) (tys := tysOf cy) (X := wr ++ ws) (L := []) (f := fun _ => .inr (0, [])) (ty := .int) (cy := cy 0) (z := (K, .inl (fun _ => iI 0))) hx hb hown (by rw [mna_n]; exact hts _ hcl) hnf.1.1 (hts _ harr) (va_RA_name (hK.2 0 (cy 0, .int) rfl).2) hK (by show va_P D vwCl ((wr ++ ws) ++ []) H; rw [List.append_nil]; exact hP) (by show va_D A ((wr ++ ws) ++ []); rw [List.append_nil]; exact hD) hS hA hn hk hN hM hb1 hb2 hb3 rfl rfl (by omega) (by omega) (fun c9 => ?_) hd (fun q r cA H1 _ _ hK1 hP1 hD1 hS1 => ?_)
  · rw [vp_cell_i, iI_0]; exact arrV_new c9 K (.int 0)
  · have r1 := va_RA_name (hK1.2 (tysOf cy).length (cA, .array .int) (by simp)).2
    have r2 := va_RA_name (hK.2 3 (cy 3, .array .int) rfl).2
    cases Option.some.inj (r1.symm.trans r2)
    rw [mna_w (L := []), List.append_assoc, List.append_assoc] at hP1 hD1
    exact kk q r l p e s m args below meth c H1 locs ls (hc.heap hP1 hD1 hS1) hf
theorem set_at {α : Type} (a b : List α) (j : Nat) (x : α) : (a ++ b).set (a.length + j) x = a ++ b.set j x := by
  rw [List.set_append_right _ _ (Nat.le_add_right _ _), Nat.add_sub_cancel_left]
theorem get_at {α : Type} (a b : List α) (j : Nat) : (a ++ b)[a.length + j]? = b[j]? := by
  rw [List.getElem?_append_right (Nat.le_add_right _ _), Nat.add_sub_cancel_left]
theorem zn_put {ref C : String} {T : u_T} {ty0 : Nat → FieldType} {N ci idx i0 f a : Nat} {fs : List Value} {v : Value} {ty : FieldType} {ws' : va_W} (hin : ∀ w ∈ u_ws C T N, w ∈ k.2.1) (hty : ∀ j, j < N → parseFieldDescriptor (T j).2.2.1 = some (ty0 j)) (hnm : ∀ a, a < N → ∀ b, b < N → a ≠ b → (T a).2.1 ≠ (T b).2.1) (hi : ws[i0]? = some (a, .inr (ci, fs))) (hc0 : vwCl[ci]? = some (C, T, N)) (hf : f < N) (hlink : Cond.fieldLink k.2.2.2.1 idx ref (T f).2.1 (T f).2.2.1 ∈ k.2.1) (href : (T f).1 = ref) (hfin : (T f).2.2.2 = false) (htd : parseFieldDescriptor (T f).2.2.1 = some ty) (hn : narrow ty v = v) (hfit : fits ty v = true) (hlen : f < fs.length) (hd : decode k.1 pc = .ok (.putfield idx, 3)) (hw : ws.set i0 (a, .inr (ci, fs.set f v)) = ws') (kk : ZN D cy A u1 u2 k FF QQ cells slots (pc + 3) lv stk wr ws') : ZN D cy A u1 u2 k FF QQ cells slots pc lv (v :: .ref a :: stk) wr ws := by
  subst href hw
  intro l p e s m args below meth c H locs ls hc hff
  obtain ⟨hx, hb, hr, hml, hown, hlk, hts, hA, hnf, hK, hP, hD, hS, hl⟩ := id hc
  refine va_put (D := D) (cl := vwCl) (a := a) (v := v) (C := C) (T := T) (N := N) hx hb hts hin ty0 hty hnm hown hK hP hD hS (wr.length + i0) (by rw [get_at]; exact hi) hc0 f hf (hts _ hlink) (fun _ h9 => h9) hfin htd hn hfit hlen hd (fun H1 locs1 hP1 hD1 hS1 => ?_)
  rw [set_at] at hP1 hD1
  exact kk l p e s m args below meth c H1 locs1 ls (hc.heap hP1 hD1 hS1) hff
theorem zn_putF {ref C : String} {T : u_T} {ty0 : Nat → FieldType} {N ci idx i0 f a : Nat} {fs : List Value} {v : Value} {ty : FieldType} {ws' : va_W} (hin : ∀ w ∈ u_ws C T N, w ∈ k.2.1) (hty : ∀ j, j < N → parseFieldDescriptor (T j).2.2.1 = some (ty0 j)) (hnm : ∀ a, a < N → ∀ b, b < N → a ≠ b → (T a).2.1 ≠ (T b).2.1) (hini : ∀ l meth c s, FF l meth c s → meth.name = "<init>") (hi : ws[i0]? = some (a, .inr (ci, fs))) (hc0 : vwCl[ci]? = some (C, T, N)) (hf : f < N) (hlink : Cond.fieldLink k.2.2.2.1 idx ref (T f).2.1 (T f).2.2.1 ∈ k.2.1) (href : (T f).1 = ref) (hdecl : (T f).1 = k.2.2.2.1) (hfin : (T f).2.2.2 = true) (htd : parseFieldDescriptor (T f).2.2.1 = some ty) (hn : narrow ty v = v) (hfit : fits ty v = true) (hlen : f < fs.length) (hd : decode k.1 pc = .ok (.putfield idx, 3)) (hw : ws.set i0 (a, .inr (ci, fs.set f v)) = ws') (kk : ZN D cy A u1 u2 k FF QQ cells slots (pc + 3) lv stk wr ws') : ZN D cy A u1 u2 k FF QQ cells slots pc lv (v :: .ref a :: stk) wr ws := by
  subst href hw
  intro l p e s m args below meth c H locs ls hc hff
  obtain ⟨hx, hb, hr, hml, hown, hlk, hts, hA, hnf, hK, hP, hD, hS, hl⟩ := id hc
  refine va_putF (D := D) (cl := vwCl) (a := a) (v := v) (C := C) (T := T) (N := N) hx hb hts hin ty0 hty hnm hown hK hP hD hS (wr.length + i0) (by rw [get_at]; exact hi) hc0 f hf (hts _ hlink) (fun _ h9 => h9) hfin (hini _ _ _ _ hff) hdecl htd hn hfit hlen hd (fun H1 locs1 hP1 hD1 hS1 => ?_)
  rw [set_at] at hP1 hD1
  exact kk l p e s m args below meth c H1 locs1 ls (hc.heap hP1 hD1 hS1) hff
end ZNR
/-- a constructor's start and end -/
def PN (D : va_G) (cy : Nat → ClassId) (A : Nat → Prop) (u1 u2 : Nat) (a : List Value) (w : va_W) : Array Value → State → Prop := fun v U =>
  v = a.toArray ∧ (∀ q, U.heap.size ≤ q → A q) ∧ NF A u1 u2 U U.heap ∧ va_K D vwCl (tysOf cy) U ∧ va_P D vwCl w U.heap ∧ va_D A w
def QN (D : va_G) (A : Nat → Prop) (R : va_W → Prop) (wr : va_W) : Array Value → State → Outcome → State → Prop := fun _ st oc t =>
  (oc = .returned none ∧ ∃ w2, R w2 ∧ va_P D vwCl (wr ++ w2) t.heap ∧ va_D A (wr ++ w2)) ∧ va_F A st t
theorem PN.blind {D : va_G} {cy : Nat → ClassId} {A : Nat → Prop} {u1 u2 : Nat} {a : List Value} {w : va_W} : FrameBlind (PN D cy A u1 u2 a w) := by
  intro v U g mk h
  obtain ⟨h1, h2, h3, h4, h5, h6⟩ := h
  exact ⟨h1, h2, h3.calling, va_K.moved (u := U) (U := U.calling g mk v) (Vm.Alike.refl U.vm) h4, h5, h6⟩
/-- a constructor's contract: e0 the new cell, as its list of args, R what is listed behind it -/
def CtN (D : va_G) (cy : Nat → ClassId) (A : Nat → Prop) (u1 u2 : Nat) (k : Kd) (y : MethodName) (as : List Value) (e0 : va_E) (R : Nat → va_W → Prop) (mc ms : Nat) : Prop :=
  ∀ (l : Launch) (wr : va_W) (h0 : Nat), Met l y k.2.1 k.2.2.1 (PN D cy A u1 u2 (.ref h0 :: as) (wr ++ [(h0, e0)])) (QN D A (R h0) wr) mc ms A
def FI : FX := fun _ meth _ _ => meth.name = "<init>"
theorem CtN.of {D : va_G} {cy : Nat → ClassId} {A : Nat → Prop} {u1 u2 : Nat} {k : Kd} {y : MethodName} {as : List Value} {e0 : va_E} {R : Nat → va_W → Prop} {mc ms : Nat} {ws' : List Cond} (hy : plainName y.cls = true) (hw : k.2.1 = Cond.code y k.1 k.2.2.2.2.2 k.2.2.2.2.1 :: ws') (hown : k.2.2.2.1 = y.cls) (hyn : y.name = "<init>") (hlv : ∀ h0 : Nat, (lg_sl (Value.ref h0 :: as)).length ≤ k.2.2.2.2.2)
    (h : ∀ (h0 : Nat) (wr : va_W), ZN D cy A u1 u2 k FI (fun below args s => MQ below (QN D A (R h0) wr) args s mc ms A) 0 0 0 (lv_args 0 (.ref h0 :: as)) [] wr [(h0, e0)]) : CtN D cy A u1 u2 k y as e0 R mc ms := by
  intro l wr h0
  refine Met.ofW (cc := k.1) (maxL := k.2.2.2.2.2) (ret := k.2.2.2.2.1) hy hw ?_
  intro p e s m args below meth c s₁ B hml hv
  obtain ⟨rfl, hA, hnf, hK, hP, hD⟩ := hv
  have hts := atoms_spec (ws := k.2.1) B.pre
  have hown2 : s.vm.findClass k.2.2.2.1 = some m.cls := by rw [hown]; exact findClass_of_methodNamed B.named
  have hin : meth.name = "<init>" := (name_of_methodNamed B.named B.method).1.trans hyn
  have hl := lv_entry (Value.ref h0 :: as) (n := k.2.2.2.2.2) (hlv h0)
  rw [lg_entry_eq]
  generalize (lg_sl (Value.ref h0 :: as) ++ List.replicate (k.2.2.2.2.2 - (lg_sl (Value.ref h0 :: as)).length) Slot.unset).toArray = ls at hl ⊢
  exact h h0 wr l p e s m _ below meth c s.heap [] ls ⟨B.exec, B.bytes, B.returns, hml, hown2, B.notSynchronized, hts, hA, hnf, hK, hP, hD, va_S.rf, hl⟩ hin
section ZNE
variable {D : va_G} {cy : Nat → ClassId} {A : Nat → Prop} {u1 u2 : Nat} {k : Kd} {FF : FX} {QQ : List Frame → Array Value → State → State → Prop} {cells slots pc : Nat} {lv : List (Nat × Value)} {stk : List Value} {wr ws : va_W}
theorem zn_ret {R : va_W → Prop} (hr0 : k.2.2.2.2.1 = none) (hd : decode k.1 pc = .ok (.return_, 1)) (hR : R ws) : ZN D cy A u1 u2 k FF (fun below args s => MQ below (QN D A R wr) args s cells slots A) cells slots pc lv [] wr ws := by
  intro l p e s m args below meth c H locs ls hc hff
  obtain ⟨hx, hb, hr, hml, hown, hlk, hts, hA, hnf, hK, hP, hD, hS, hl⟩ := id hc
  exact W.vret hx hb (hr.trans hr0) (fun t ht hW => ⟨⟨rfl, ws, hR, by rw [ht]; exact hP, hD⟩, hS.F ht⟩) hS.2.2 hd hlk
/-- behind a constructor -/
theorem zn_behind {as : List Value} {e0 : va_E} {R : va_W → Prop} {mc ms c2 s2 h0 : Nat} {stk' : List Value} {ws0 : va_W} (e1 : cells + mc = c2) (e2 : slots + ms = s2)
    (kk : ∀ w2, R w2 → ZN D cy A u1 u2 k FF QQ c2 s2 (pc + 3) lv stk wr (ws0 ++ w2))
    (hrun : ∀ (l : Launch) (p : Program) (e : Env) (s : State) (m : MethodId) (args : Array Value) (below : List Frame) (meth : Method) (c : Code) (H : Heap) (locs : List Loc) (ls : Array Slot), NC D cy A u1 u2 k p s m args meth c H locs ls lv ((wr ++ ws0) ++ [(h0, e0)]) →
      va_Run p l e k.2.2.1 s m args below meth c H locs cells slots mc ms (F0 m pc ls stk') stk (QN D A R (wr ++ ws0) as.toArray) A) : ZN D cy A u1 u2 k FF QQ cells slots pc lv stk' wr (ws0 ++ [(h0, e0)]) := by
  subst e1 e2
  intro l p e s m args below meth c H locs ls hc hff
  rw [← List.append_assoc] at hc
  have hr := hrun l p e s m args below meth c H locs ls hc
  obtain ⟨hx, hb, hr0, hml, hown, hlk, hts, hA, hnf, hK, hP, hD, hS, hl⟩ := id hc
  intro T0 hT0 X
  obtain ⟨v, st₀, t, T', L, h0, X', hL, e1, e2, ⟨⟨hv, w2, hR, hP2, hD2⟩, hz, hk⟩, st⟩ := hr T0 hT0 X
  cases hv
  rw [h0] at hz hk
  have hS2 : va_S A s.heap T'.heap (locs ++ L) := ⟨Nat.le_trans hS.1 (by rw [e1]; exact hz), fun q h1 h3 => by rw [e1, hk q (Nat.lt_of_lt_of_le h1 hS.1) h3]; exact hS.2.1 q h1 h3, fun q hq => by
      rcases List.mem_append.mp hq with h | h
      · exact hS.2.2 q h
      · exact hL q h⟩
  rw [List.append_assoc] at hP2 hD2
  obtain ⟨t2, a1, b1⟩ := kk w2 hR l p e s m args below meth c T'.heap (locs ++ L) ls (hc.heap (by rw [e1]; exact hP2) hD2 hS2) hff T' rfl X'
  exact ⟨t2, st t2 a1, b1⟩
theorem zn_callI {kc : Kd} {y : MethodName} {as : List Value} {e0 : va_E} {R : Nat → va_W → Prop} {mc ms c2 s2 h0 idx n : Nat} {ws0 : va_W} {stk' : List Value} {ws' : List Cond} (hC : CtN D cy A u1 u2 kc y as e0 R mc ms) (hg : GoodIn k.2.1 kc.2.1) (hw : kc.2.1 = Cond.code y kc.1 kc.2.2.2.2.2 none :: ws') (hrm : kc.2.2.1.cells = mc ∧ kc.2.2.1.slots = ms) (hini : Cond.initialized y.cls ∈ k.2.1) (hlk : Cond.methodLink k.2.2.2.1 idx y ∈ k.2.1) (him : Cond.instanceMethod y ∈ k.2.1) (hyn : y.name = "<init>")
    (hy : y.cls ≠ "java/lang/invoke/MethodHandle" ∧ y.cls ≠ "java/lang/invoke/VarHandle" ∧ (parseMethodDescriptor y.desc).map (fun d => d.parameters.length) = some n) (hR : kc.2.2.1.frames + 1 ≤ k.2.2.1.frames ∧ 8 + (kc.2.2.2.2.2 + 11) + kc.2.2.1.locals ≤ k.2.2.1.locals) (e1 : cells + mc = c2) (e2 : slots + ms = s2) (hcs : c2 ≤ k.2.2.1.cells ∧ s2 ≤ k.2.2.1.slots) (hd : decode k.1 pc = .ok (.invokespecial idx, 3)) (hn : as.length = n) (hstk : stk' = as.reverse ++ .ref h0 :: stk) (hsz : (stk.map fun v => v.category).sum ≤ 8)
    (kk : ∀ w2, R h0 w2 → ZN D cy A u1 u2 k FF QQ c2 s2 (pc + 3) lv stk wr (ws0 ++ w2)) : ZN D cy A u1 u2 k FF QQ cells slots pc lv stk' wr (ws0 ++ [(h0, e0)]) := by
  refine zn_behind (as := .ref h0 :: as) (R := R h0) e1 e2 kk (fun l p e s m args below meth c H locs ls hc => ?_)
  subst e1 e2
  obtain ⟨hx, hb, hr, hml, hown, hlk2, hts, hA, hnf, hK, hP, hD, hS, hl⟩ := id hc
  exact va_runI (b := h0) (As := as) (rest := stk) (g := F0 m pc ls stk') (R := k.2.2.1) (cells := cells) (slots := slots) ⟨hx, hb, hml, hown, hts⟩ (hC l (wr ++ ws0) h0) (cwI n hts hg hw hrm.1 hrm.2 (hts _ hini) (hts _ hlk) (hts _ him) hyn hy hR) ⟨PN.blind, fun U hU hW => ⟨rfl, fun q hq => hA q (Nat.le_trans hS.1 (by rw [← hU]; exact hq)), hnf.use hS hU hW, va_K.moved hW.alike hK, by rw [hU]; exact hP, hD⟩⟩ rfl hn hl.1 hstk (by show 2 * 0 + (stk.map fun v => v.category).sum ≤ 8; omega) hd hcs
/-- .. of a class of the nest -/
theorem zn_callIN {kc : Kd} {y : MethodName} {as : List Value} {e0 : va_E} {R : Nat → va_W → Prop} {mc ms c2 s2 h0 idx n : Nat} {ws0 : va_W} {stk' : List Value} {ws' : List Cond} (hown0 : k.2.2.2.1 = "LateSet") (hC : CtN D cy A u1 u2 kc y as e0 R mc ms) (hg : GoodIn k.2.1 kc.2.1) (hw : kc.2.1 = Cond.code y kc.1 kc.2.2.2.2.2 none :: ws') (hrm : kc.2.2.1.cells = mc ∧ kc.2.2.1.slots = ms) (hini : Cond.initialized y.cls ∈ k.2.1) (hlk : (idx, y) ∈ nestK) (him : Cond.instanceMethod y ∈ k.2.1) (hyn : y.name = "<init>")
    (hy : y.cls ≠ "java/lang/invoke/MethodHandle" ∧ y.cls ≠ "java/lang/invoke/VarHandle" ∧ (parseMethodDescriptor y.desc).map (fun d => d.parameters.length) = some n) (hR : kc.2.2.1.frames + 1 ≤ k.2.2.1.frames ∧ 8 + (kc.2.2.2.2.2 + 11) + kc.2.2.1.locals ≤ k.2.2.1.locals) (e1 : cells + mc = c2) (e2 : slots + ms = s2) (hcs : c2 ≤ k.2.2.1.cells ∧ s2 ≤ k.2.2.1.slots) (hd : decode k.1 pc = .ok (.invokespecial idx, 3)) (hn : as.length = n) (hstk : stk' = as.reverse ++ .ref h0 :: stk) (hsz : (stk.map fun v => v.category).sum ≤ 8)
    (kk : ∀ w2, R h0 w2 → ZN D cy A u1 u2 k FF QQ c2 s2 (pc + 3) lv stk wr (ws0 ++ w2)) : ZN D cy A u1 u2 k FF QQ cells slots pc lv stk' wr (ws0 ++ [(h0, e0)]) := by
  refine zn_behind (as := .ref h0 :: as) (R := R h0) e1 e2 kk (fun l p e s m args below meth c H locs ls hc => ?_)
  subst e1 e2
  obtain ⟨hx, hb, hr, hml, hown, hlk2, hts, hA, hnf, hK, hP, hD, hS, hl⟩ := id hc
  rw [hown0] at hown
  have hcw := va_cnB (R := k.2.2.1) (s := s) (args := args) (own := "LateSet") (host := "LateSet") (index := idx) (ret := none) n hts hg hw hrm.1 hrm.2 (hnf.2.2 _ hlk) (hts _ hini) hy hR
  exact va_runIN (b := h0) (As := as) (rest := stk) (g := F0 m pc ls stk') (R := k.2.2.1) (cells := cells) (slots := slots) (Ts := k.2.1) ⟨hx, hb, hml, hown, hts⟩ (hC l (wr ++ ws0) h0) ⟨hcw, hyn, hts _ him⟩ ⟨PN.blind, fun U hU hW => ⟨rfl, fun q hq => hA q (Nat.le_trans hS.1 (by rw [← hU]; exact hq)), hnf.use hS hU hW, va_K.moved hW.alike hK, by rw [hU]; exact hP, hD⟩⟩ rfl hn hl.1 hstk (by show 2 * 0 + (stk.map fun v => v.category).sum ≤ 8; omega) hd hcs
end ZNE
