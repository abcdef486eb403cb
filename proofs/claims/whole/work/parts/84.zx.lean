/-! a method that returns or throws NoSuchElementException -/
def nmsNS : List String := ["java/lang/RuntimeException", "java/lang/Exception"]
theorem ns_ot : ∀ w ∈ Cond.classLink RX7 335 "java/util/NoSuchElementException" :: Cond.initialized "java/util/NoSuchElementException" :: vx_at0 RX7 337 "java/util/NoSuchElementException" nmsNS, vx_ot w = true := by decide +kernel
theorem ns_fit : (∀ n ∈ nmsNS, Bundle.fit n = true) ∧ Bundle.fit "java/util/NoSuchElementException" = true := by decide +kernel
/-- the words of the throw that warmer tables do not keep by themselves -/
def nsW : List Cond := (vx_at0 RX7 337 "java/util/NoSuchElementException" nmsNS).filter (fun w => !goodWord w)
def isLays : Cond → Bool
  | .castable .. => true
  | .declares .. => true
  | _ => false
theorem ns_ly : ∀ w ∈ nsW, isLays w = true := by decide +kernel
theorem ns_on {w : Cond} (h : w ∈ nsW) : w.onTables = true := by
  obtain ⟨h1, h2⟩ := List.mem_filter.mp h
  have q := ns_ot w (List.mem_cons_of_mem _ (List.mem_cons_of_mem _ h1))
  simp only [vx_ot, Bool.or_eq_true] at q
  rcases q with q | q
  · exact q
  · rw [q] at h2; cases h2
def XSt (A : Nat → Prop) (U : State) (H : Heap) : Prop := vx_Zq Bundle.tN "UNASSIGNED_STACK" Bundle.steD A U H ∧ vx_Zq Bundle.tN "SUPPRESSED_SENTINEL" Bundle.listD A U H ∧ ∀ w ∈ nsW, w.before #[] U = true
theorem XSt.use {A : Nat → Prop} {s U : State} {H : Heap} {locs : List Loc} (h : XSt A s s.heap) (hS : va_S A s.heap H locs) (hU : U.heap = H) (hW : s.WarmedH U.vm) : XSt A U U.heap := by
  subst hU
  refine ⟨vx_Zq.moved hW.alike (h.1.kept hS.2.1), vx_Zq.moved hW.alike (h.2.1.kept hS.2.1), fun w hw => ?_⟩
  have b := h.2.2 w hw
  have l := ns_ly w hw
  have on := ns_on hw
  have c : w.before #[] (s.setVm U.vm) = true := by
    cases w <;> first | (rw [Cond.castable_setVm hW.alike]; exact b) | (rw [Cond.declares_setVm hW.alike]; exact b) | (cases l; done)
  have e : (s.setVm U.vm).vm = U.vm := rfl
  exact va_tabs on e c
/-- what a throw leaves: the places as px says, nothing else changed -/
abbrev XCx (px : HI → Prop) (D : va_G) (ad : Nat → Nat) (cy : Nat → ClassId) (A : Nat → Prop) : String → State → State → Prop := vx_X px (fun E h2 t => E = "java/util/NoSuchElementException" ∧ RG h2 ∧ va_P D vwCl (wld ad cy h2) t.heap) A
def ZX (k : Kd) (post : AV → HI → Prop) (px : HI → Prop) (pc : Nat) (lv : List (Nat × AV)) (stk : List AV) (hi : HI) : Prop :=
  ∀ (l : Launch) (p : Program) (e : Env) (s : State) (m : MethodId) (args : Array Value) (below : List Frame) (meth : Method) (c : Code) (D : va_G) (ad : Nat → Nat) (cy : Nat → ClassId) (A : Nat → Prop) (H : Heap) (locs : List Loc) (ls : Array Slot), ZC k p s m args meth c D ad cy A H locs ls lv hi → l.stackTraces = false → XSt A s s.heap → (∀ x ∈ c.exceptionTable.toList, False) →
    W p l e k.2.2.1 s m args below meth c H locs 0 0 (vx_MQ below (PQ post D ad cy A) (XCx px D ad cy A) args s 1 6 A) (F0 m pc ls (stk.map (cv ad)))
section ZXR
variable {k : Kd} {post : AV → HI → Prop} {px : HI → Prop} {pc : Nat} {lv : List (Nat × AV)} {stk : List AV} {hi : HI}
theorem zx_of (h : Z k post pc lv stk hi) : ZX k post px pc lv stk hi := by
  intro l p e s m args below meth c D ad cy A H locs ls hc hl0 hxs hno
  have w := h l p e s m args below meth c D ad cy A H locs ls hc
  intro T hT X
  obtain ⟨t, a1, o, b1, b2, b3, L, b4, b5⟩ := w T hT X
  exact ⟨t, a1, o, b1, b2, Or.inl ⟨b3, L, ⟨b4.1, b4.2.1, b4.2.2.mono (by omega) (by omega)⟩, b5⟩⟩
theorem zx_iload_n {q : Fin 4} {i : Nat} {x : Int} (hd : decode k.1 pc = .ok (.iload_n q, 1)) (hq : (q : Nat) = i) (j : Nat) (hj : lv[j]? = some (i, AI x)) (kk : ZX k post px (pc + 1) lv (AI x :: stk) hi) : ZX k post px pc lv stk hi := by
  intro l p e s m args below meth c D ad cy A H locs ls hc hl0 hxs hno
  exact lv_iload_n (x := iI x) hc.1 hc.2.1 hd hq (z_at hc.2.2.2.2.2.2.2.2.2.2.2.2.2.2.2 j hj) (kk l p e s m args below meth c D ad cy A H locs ls hc hl0 hxs hno)
theorem zx_aload_n {q : Fin 4} {i : Nat} {x : Nat} (hd : decode k.1 pc = .ok (.aload_n q, 1)) (hq : (q : Nat) = i) (j : Nat) (hj : lv[j]? = some (i, AR x)) (kk : ZX k post px (pc + 1) lv (AR x :: stk) hi) : ZX k post px pc lv stk hi := by
  intro l p e s m args below meth c D ad cy A H locs ls hc hl0 hxs hno
  exact lv_aloadv_n (x := (rc x).map ad) hc.1 hc.2.1 hd hq (z_at hc.2.2.2.2.2.2.2.2.2.2.2.2.2.2.2 j hj) (kk l p e s m args below meth c D ad cy A H locs ls hc hl0 hxs hno)
theorem zx_if_lt {x : Int} {off : Int} {tgt : Nat} (hd : decode k.1 pc = .ok (.ifCond .lt off, 3)) (ht : (pc : Int) + off = (tgt : Int)) (hx : inR x) (kt : x < 0 → ZX k post px tgt lv stk hi) (kf : 0 ≤ x → ZX k post px (pc + 3) lv stk hi) : ZX k post px pc lv (AI x :: stk) hi := by
  intro l p e s m args below meth c D ad cy A H locs ls hc hl0 hxs hno
  have h0 : (0 : Int32) = iI 0 := by decide +kernel
  refine lv_if_lt (x := iI x) hc.1 hc.2.1 hd ht (fun q => kt ?_ l p e s m args below meth c D ad cy A H locs ls hc hl0 hxs hno) (fun q => kf ?_ l p e s m args below meth c D ad cy A H locs ls hc hl0 hxs hno)
  · simp only [h0, iI_eq hx inR_lit.1, iI_lt hx inR_lit.1, iI_lt inR_lit.1 hx, iI_le hx inR_lit.1, iI_le inR_lit.1 hx, GE.ge, GT.gt, ne_eq] at q ⊢
    omega
  · simp only [h0, iI_eq hx inR_lit.1, iI_lt hx inR_lit.1, iI_lt inR_lit.1 hx, iI_le hx inR_lit.1, iI_le inR_lit.1 hx, GE.ge, GT.gt, ne_eq] at q ⊢
    omega
theorem zx_icmp_lt {x y : Int} {off : Int} {tgt : Nat} (hd : decode k.1 pc = .ok (.if_icmp .lt off, 3)) (ht : (pc : Int) + off = (tgt : Int)) (hx : inR x) (hy : inR y) (kt : x < y → ZX k post px tgt lv stk hi) (kf : y ≤ x → ZX k post px (pc + 3) lv stk hi) : ZX k post px pc lv (AI y :: AI x :: stk) hi := by
  intro l p e s m args below meth c D ad cy A H locs ls hc hl0 hxs hno
  refine lv_icmp_lt (x := iI x) (y := iI y) hc.1 hc.2.1 hd ht (fun q => kt ?_ l p e s m args below meth c D ad cy A H locs ls hc hl0 hxs hno) (fun q => kf ?_ l p e s m args below meth c D ad cy A H locs ls hc hl0 hxs hno)
  · simp only [iI_eq hx hy, iI_lt hx hy, iI_lt hy hx, iI_le hx hy, iI_le hy hx, GE.ge, GT.gt, ne_eq] at q ⊢
    omega
  · simp only [iI_eq hx hy, iI_lt hx hy, iI_lt hy hx, iI_le hx hy, iI_le hy hx, GE.ge, GT.gt, ne_eq] at q ⊢
    omega
theorem zx_getR {ref C : String} {T : u_T} {N ci idx pl f b : Nat} {fl : List (Nat × Nat)} (hin : ∀ w ∈ u_ws C T N, w ∈ k.2.1) (hpl : pl < NW) (hsh : sh pl = .inl (ci, fl)) (hc0 : vwCl[ci]? = some (C, T, N)) (hf : f < N) (hq : fl[f]? = some (2, b)) (hlink : Cond.fieldLink k.2.2.2.1 idx ref (T f).2.1 (T f).2.2.1 ∈ k.2.1) (href : (T f).1 = ref) (hd : decode k.1 pc = .ok (.getfield idx, 3)) (kk : ZX k post px (pc + 3) lv (AR (b + 1) :: stk) hi) : ZX k post px pc lv (AR (pl + 1) :: stk) hi := by
  subst href
  intro l p e s m args below meth c D ad cy A H locs ls hc hl0 hxs hno
  obtain ⟨hx, hb, hr, hml, hown, hlk, hts, hA, hst, hld, hK, hP, hD, hS, hR, hl⟩ := id hc
  exact va_get (D := D) (cl := vwCl) (a := ad pl) (v := rv ad (b + 1)) (C := C) (T := T) (N := N) hx hb hts hin hown hK hP pl (wld_obj hpl hsh) hc0 f hf (hts _ hlink) (fun _ h9 => h9) (by rw [fvs_at hq]; simp [fv]) hd (kk l p e s m args below meth c D ad cy A H locs ls hc hl0 hxs hno)
def tgx (k : Kd) (post : AV → HI → Prop) (px : HI → Prop) (lv : List (Nat × AV)) (stk : List AV) (hi : HI) (x : Int) : Int → List Nat → Prop
  | _, [] => True
  | lo, t :: r => (x = lo → ZX k post px t lv stk hi) ∧ tgx k post px lv stk hi x (lo + 1) r
theorem tgx_at {x : Int} : ∀ {tg : List Nat} {lo : Int} {j t : Nat}, tgx k post px lv stk hi x lo tg → tg[j]? = some t → x = lo + j → ZX k post px t lv stk hi
  | [], _, _, _, _, h, _ => by simp at h
  | t0 :: r, lo, 0, t, h, h2, h3 => by simp at h2; subst h2; exact h.1 (by omega)
  | t0 :: r, lo, j + 1, t, h, h2, h3 => tgx_at h.2 (by simpa using h2) (by omega)
theorem zx_tsw {x : Int} {df lo0 hi0 : Int} {offs : Array Int} {len dtgt : Nat} {tg : List Nat} (hd : decode k.1 pc = .ok (.tableswitch df lo0 hi0 offs, len)) (hx0 : inR x) (ht : (pc : Int) + df = (dtgt : Int)) (hg : hi0 - lo0 + 1 = (tg.length : Int) ∧ offs.size = tg.length ∧ (offs.toList.zip tg).all (fun q => (pc : Int) + q.1 == (q.2 : Int)) = true) (kd : x < lo0 ∨ hi0 < x → ZX k post px dtgt lv stk hi) (kk : tgx k post px lv stk hi x lo0 tg) : ZX k post px pc lv (AI x :: stk) hi := by
  intro l p e s m args below meth c D ad cy A H locs ls hc hl0 hxs hno
  by_cases h : x < lo0 ∨ hi0 < x
  · exact lv_tableOut (x := iI x) hc.1 hc.2.1 hd (by rw [iI_toInt hx0]; exact h) ht (kd h l p e s m args below meth c D ad cy A H locs ls hc hl0 hxs hno)
  · have h1 : ¬ x < lo0 := fun q => h (Or.inl q)
    have h2 : ¬ hi0 < x := fun q => h (Or.inr q)
    obtain ⟨g1, g2, g3⟩ := hg
    have hj : (x - lo0).toNat < tg.length := by omega
    obtain ⟨t, ht2⟩ : ∃ t, tg[(x - lo0).toNat]? = some t := ⟨_, List.getElem?_eq_getElem hj⟩
    obtain ⟨o, ho⟩ : ∃ o, offs[(x - lo0).toNat]? = some o := ⟨_, Array.getElem?_eq_getElem (by omega)⟩
    have ho2 : offs.toList[(x - lo0).toNat]? = some o := by rw [Array.getElem?_toList]; exact ho
    have hz : (offs.toList.zip tg)[(x - lo0).toNat]? = some (o, t) := by rw [List.getElem?_zip_eq_some]; exact ⟨ho2, ht2⟩
    have hz2 := List.all_eq_true.mp g3 _ (List.mem_of_getElem? hz)
    exact lv_tableIn (x := iI x) (off := o) (tgt := t) hc.1 hc.2.1 hd (by rw [iI_toInt hx0]; exact h1) (by rw [iI_toInt hx0]; exact h2) (by rw [iI_toInt hx0]; exact ho) (by simpa using hz2) (tgx_at kk ht2 (by omega) l p e s m args below meth c D ad cy A H locs ls hc hl0 hxs hno)
/-- the throw itself: new, dup, the constructor, athrow -/
theorem zx_throw (hpx : px hi) (hown0 : k.2.2.2.1 = RX7) (hk : Cond.classLink RX7 335 "java/util/NoSuchElementException" ∈ k.2.1) (hini : Cond.initialized "java/util/NoSuchElementException" ∈ k.2.1) (hat : ∀ w ∈ (vx_at0 RX7 337 "java/util/NoSuchElementException" nmsNS).filter goodWord, w ∈ k.2.1)
    (d0 : decode k.1 pc = .ok (.new 335, 3)) (d3 : decode k.1 (pc + 3) = .ok (.dup, 1)) (d4 : decode k.1 (pc + 4) = .ok (.invokespecial 337, 3)) (d7 : decode k.1 (pc + 7) = .ok (.athrow, 1))
    (hfr : 5 < k.2.2.1.frames) (hlo : 81 ≤ k.2.2.1.locals) (hce : 1 ≤ k.2.2.1.cells) (hsl : 6 ≤ k.2.2.1.slots) : ZX k post px pc lv [] hi := by
  intro l p e s m args below meth c D ad cy A H locs ls hc hl0 hxs hno
  obtain ⟨hx, hb, hr, hml, hown, hlk, hts, hA, hst, hld, hK, hP, hD, hS, hR, hl⟩ := id hc
  rw [hown0] at hown
  exact vx_throw0 (A := A) hx hb hl0 hown ns_fit.2 ns_fit.1 (hts _ hk) (hts _ hini) (fun w hw => by
    by_cases g : goodWord w = true
    · exact hts _ (hat w (List.mem_filter.mpr ⟨hw, g⟩))
    · have m : w ∈ nsW := List.mem_filter.mpr ⟨hw, by cases q : goodWord w; rfl; exact absurd q g⟩
      exact va_tabs (ns_on m) rfl (hxs.2.2 w m)) ns_ot hxs.1 hxs.2.1 hS (hl.1.trans hml.symm) d0 d3 d4 d7 (fun x hx9 => absurd (hno x hx9) (fun q => q)) hfr (by exact hlo) (by omega) (by omega) hlk
    (fun t ha hsz hsame => ⟨hi, hpx, ⟨rfl, hR, hP.kept (fun i q hq => hsame q.1 (vx_lt hP hq))⟩, Nat.le_trans hS.1 hsz, fun q hq hnA => (hsame q (Nat.lt_of_lt_of_le hq hS.1)).trans (hS.2.1 q hq hnA)⟩) hS.2.2 (by omega) (by omega)
end ZXR
