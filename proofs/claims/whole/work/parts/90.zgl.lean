section ZGL
variable {k : Kd} {ee : Code → State → (Nat → Nat) → (Nat → Prop) → Prop} {QQ : QE} {cells slots : Nat} {pc : Nat} {lv : List (Nat × AV)} {stk : List AV} {hi : HI}
theorem upd_iL {f : Nat → Int} {j : Nat} {x : Int} : vp_updL (fun q => iL (f q)) j (iL x) = (fun q => iL (updI f j x q)) := by
  funext q
  unfold vp_updL updI
  by_cases h : q = j
  · simp [h]
  · simp [h]
/-- the law's row of one long -/
theorem zg_last54 {x : Int} (hx0 : inL x) (hd : decode k.1 pc = .ok (.lastore, 1)) (kk : ∀ h2 : HI, h2 = hput hi 54 (updI (hi 54) 0 x) → ZG k ee QQ cells slots (pc + 1) lv stk h2) : ZG k ee QQ cells slots pc lv (AL x :: AI 0 :: AR 55 :: stk) hi := by
  intro l p e s m args below meth c D ad cy A H locs ls hc hx9
  obtain ⟨hx, hb, hr, hml, hown, hlk, hts, hA, hst, hld, hK, hP, hD, hS, hR, hl⟩ := id hc
  obtain ⟨g1, g2⟩ := iI_in (z := 0) (n := 1) (by decide) (by decide) (by decide)
  refine va_last (D := D) (cl := vwCl) (a := ad 54) (cA := cy 5) (n := 1) (f := fun j => iL (hi 54 j)) hx hb hK hP hD hS 54 5 (wld_arr (n := 1) (b := 0) (tag := 5) (by decide) rfl) rfl g1 hd (fun H1 locs1 hP1 hD1 hS1 => ?_)
  rw [g2, upd_iL] at hP1 hD1
  have e1 : (wld ad cy hi).set 54 (ad 54, .inl (cy 5, 1, .inr (.inl (fun q => iL (updI (hi 54) (0 : Int).toNat x q))))) = wld ad cy (hput hi 54 (updI (hi 54) (0 : Int).toNat x)) := wld_set (by decide) rfl
  rw [e1] at hP1 hD1
  exact kk _ rfl l p e s m args below meth c D ad cy A H1 locs1 ls (hc.heap hP1 hD1 hS1 (hR.putL hx0 (Or.inr rfl))) hx9
theorem zg_lald54 (hd : decode k.1 pc = .ok (.laload, 1)) (kk : ZG k ee QQ cells slots (pc + 1) lv (AL (hi 54 0) :: stk) hi) : ZG k ee QQ cells slots pc lv (AI 0 :: AR 55 :: stk) hi := by
  intro l p e s m args below meth c D ad cy A H locs ls hc hx9
  obtain ⟨hx, hb, hr, hml, hown, hlk, hts, hA, hst, hld, hK, hP, hD, hS, hR, hl⟩ := id hc
  obtain ⟨g1, g2⟩ := iI_in (z := 0) (n := 1) (by decide) (by decide) (by decide)
  refine va_lald (D := D) (cl := vwCl) (a := ad 54) (cA := cy 5) (n := 1) (f := fun j => iL (hi 54 j)) hx hb hK hP 54 5 (wld_arr (n := 1) (b := 0) (tag := 5) (by decide) rfl) rfl g1 hd ?_
  rw [g2]
  exact kk l p e s m args below meth c D ad cy A H locs ls hc hx9
theorem zg_lcmp {x y : Int} (hd : decode k.1 pc = .ok (.lcmp, 1)) (hx0 : inL x) (hy0 : inL y) (kk : ∀ v : Int, (v = 1 ∧ y < x) ∨ (v = 0 ∧ x = y) ∨ (v = -1 ∧ x < y) → ZG k ee QQ cells slots (pc + 1) lv (AI v :: stk) hi) : ZG k ee QQ cells slots pc lv (AL y :: AL x :: stk) hi := by
  intro l p e s m args below meth c D ad cy A H locs ls hc hx9
  refine W.lcmp (x := iL x) (y := iL y) hc.1 hc.2.1 hd ?_
  unfold lg_cmp
  simp only [iL_lt hx0 hy0, iL_lt hy0 hx0, iL_eq hx0 hy0, GT.gt]
  have fin : ∀ v : Int, ((v = 1 ∧ y < x) ∨ (v = 0 ∧ x = y) ∨ (v = -1 ∧ x < y)) → ∀ z : Int32, z = iI v → W p l e k.2.2.1 s m args below meth c H locs cells slots (QQ D ad cy A below args s) (F0 m (pc + 1) ls (.int z :: stk.map (cv ad))) := fun v hv z hz => by
    rw [hz]; exact kk v hv l p e s m args below meth c D ad cy A H locs ls hc hx9
  rcases Int.lt_trichotomy x y with h | h | h
  · refine fin (-1) (Or.inr (Or.inr ⟨rfl, h⟩)) _ ?_
    have h2 : ¬ y < x := by omega
    have h3 : ¬ x = y := by omega
    simp only [if_neg h2, if_neg h3, if_pos h]; decide
  · refine fin 0 (Or.inr (Or.inl ⟨rfl, h⟩)) _ ?_
    have h2 : ¬ y < x := by omega
    have h3 : ¬ x < y := by omega
    simp only [if_neg h2, if_pos h, if_neg h3]; decide
  · refine fin 1 (Or.inl ⟨rfl, h⟩) _ ?_
    have h2 : ¬ x < y := by omega
    simp only [if_pos h, if_neg h2]; decide
/-- the law's script lies at ad 499 -/
def SCR (L : Nat) (xs : Nat → Int32) (s : State) (ad : Nat → Nat) (A : Nat → Prop) : Prop := va_X (ad 499) L xs s s.heap ∧ ad 499 < s.heap.size ∧ ¬ A (ad 499)
theorem zg_sld {L : Nat} {xs : Nat → Int32} {i : Int} (he : ∀ c s ad A, ee c s ad A → SCR L xs s ad A) (hL : L < 2147483648) (h0 : 0 ≤ i) (h1 : i < L) (hd : decode k.1 pc = .ok (.iaload, 1)) (kk : ∀ v : Int, v = (xs i.toNat).toInt → inR v → ZG k ee QQ cells slots (pc + 1) lv (AI v :: stk) hi) : ZG k ee QQ cells slots pc lv (AI i :: AR 500 :: stk) hi := by
  intro l p e s m args below meth c D ad cy A H locs ls hc hx9
  obtain ⟨hx, hb, hr, hml, hown, hlk, hts, hA, hst, hld, hK, hP, hD, hS, hR, hl⟩ := id hc
  obtain ⟨g1, g2⟩ := iI_in (z := i) (n := L) h0 h1 hL
  obtain ⟨w1, w2, w3⟩ := he c s ad A hx9.2.2
  refine va_sld (b := ad 499) (L := L) (xs := xs) hx hb w1 w2 w3 hS g1 hd ?_
  rw [g2]
  have h := kk _ rfl (toInt_inR (xs i.toNat)) l p e s m args below meth c D ad cy A H locs ls hc hx9
  simp only [List.map_cons, cv, iI_of] at h; exact h
theorem zg_slen {L : Nat} {xs : Nat → Int32} (he : ∀ c s ad A, ee c s ad A → SCR L xs s ad A) (hd : decode k.1 pc = .ok (.arraylength, 1)) (kk : ZG k ee QQ cells slots (pc + 1) lv (AI (L : Int) :: stk) hi) : ZG k ee QQ cells slots pc lv (AR 500 :: stk) hi := by
  intro l p e s m args below meth c D ad cy A H locs ls hc hx9
  obtain ⟨hx, hb, hr, hml, hown, hlk, hts, hA, hst, hld, hK, hP, hD, hS, hR, hl⟩ := id hc
  obtain ⟨w1, w2, w3⟩ := he c s ad A hx9.2.2
  refine va_slen (b := ad 499) (L := L) (xs := xs) hx hb w1 w2 w3 hS hd ?_
  have h := kk l p e s m args below meth c D ad cy A H locs ls hc hx9
  have e1 : iI (L : Int) = Int32.ofNat L := Int32.ofInt_eq_ofNat
  simp only [List.map_cons, cv, e1] at h; exact h
end ZGL
