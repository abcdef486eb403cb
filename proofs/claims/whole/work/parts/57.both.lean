/-! the class's state and the plain form's are one -/
def RQ (f g : Nat → Int) : Prop := f 1 = g 0 ∧ f 0 = g 1 ∧ ∀ z, 0 ≤ z → z < f 1 → SameE f z g z
theorem RQ.cong {f g f2 g2 : Nat → Int} (h : RQ f g) (hf : GC f) (e1 : ∀ j : Nat, j < 162 → f2 j = f j) (e2 : ∀ j : Nat, j < 162 → g2 j = g j) : RQ f2 g2 := by
  have b := hf.1.1
  refine ⟨by rw [e1 1 (by decide), e2 0 (by decide)]; exact h.1, by rw [e1 0 (by decide), e2 1 (by decide)]; exact h.2.1, fun z z0 z1 => ?_⟩
  rw [e1 1 (by decide)] at z1
  exact (sameE_of e1 z0 (by omega)).tr ((h.2.2 z z0 z1).tr (sameE_of e2 z0 (by omega)).sy)
def RB (hc hm : HI) : Prop := RQ (hc 2) (hm 40) ∧ hc 3 1 = hm 39 6 ∧ (∀ j : Int, 1 ≤ j → j ≤ hc 3 1 → RQ (hc (rg (hc 3 2) j)) (rowA (hm 42) (166 * (hm 39 6 - j).toNat))) ∧ ∀ k : Nat, k < 2 → hc 28 k = hm 44 k ∧ (hc 28 k ≠ 0 → RQ (hc (26 + k)) (rowA (hm 43) (166 * k)))
theorem RB.eqm {hc hm hm2 : HI} (h : RB hc hm) (e : EqM hm hm2) : RB hc hm2 := by
  obtain ⟨e1, e2, e3, e4, e5⟩ := e
  unfold RB; rw [e1, e2, e3, e4, e5]; exact h
theorem RB.eqc {hc hm hc2 : HI} (h : RB hc hm) (e : EqC hc hc2) : RB hc2 hm := by
  have b := rg_bd
  have e2 := e 2 (by decide) (by decide)
  have e3 := e 3 (by decide) (by decide)
  have e28 := e 28 (by decide) (by decide)
  refine ⟨by rw [e2]; exact h.1, by rw [e3]; exact h.2.1, fun j j0 j1 => ?_, fun k k2 => ?_⟩
  · rw [e3] at j1 ⊢
    have q := b (hc 3 2) j
    rw [e _ (by omega) (by omega)]; exact h.2.2.1 j j0 j1
  · rw [e28, e _ (by omega) (by omega)]; exact h.2.2.2 k k2
theorem EqM.z0 (hm : HI) : EqM hm (Z0 hm) := ⟨Z0_6 hm, Z0_o hm (by decide), Z0_o hm (by decide), Z0_o hm (by decide), Z0_o hm (by decide)⟩
theorem RB.push {hc hc2 hm hm2 : HI} {f2 : Nat → Int} (h : RB hc hm) (cx : CX hc) (mx : MX hm) (e : hc2 = hput (RemH hc) 2 f2) (p : Pus (Z0 hm) hm2) (q : RQ f2 (hm2 40)) (e43 : hm2 43 = hm 43) (e44 : hm2 44 = hm 44) : RB hc2 hm2 := by
  obtain ⟨r1, ⟨r2, r3⟩, r4, r5, r6, r7, r8⟩ := RemH.ring e cx.2.1
  obtain ⟨⟨p1, p2⟩, p3, p4⟩ := p.blk mx.z0.2.1
  rw [Z0_6] at p1 p2 p3 p4
  rw [Z0_o hm (show 40 ≠ 39 by decide)] at p3
  rw [Z0_o hm (show 42 ≠ 39 by decide)] at p4
  have hb := cx.2.1
  have s := h.2.1
  have st : hc2 3 1 = hm2 39 6 := by
    rw [r2, p1, s]; unfold eN; split <;> split <;> omega
  refine ⟨by rw [r1]; exact q, st, fun j j0 j1 => ?_, fun k k2 => ?_⟩
  · by_cases c : j = 1
    · rw [c]
      refine h.1.cong cx.1 r4 (fun i hi => ?_)
      rw [p1, show (eN (hm 39 6) + 1 - 1).toNat = (eN (hm 39 6)).toNat by omega]
      exact p3 i (by omega)
    · rw [r5 j (by omega) j1]
      have j2 : j - 1 ≤ hc 3 1 := by rw [r2] at j1; split at j1 <;> omega
      refine (h.2.2.1 (j - 1) (by omega) j2).cong (cx.2.2.1 (j - 1) (by omega) j2) (fun _ _ => rfl) (fun i hi => ?_)
      rw [p1]
      have lt : ((eN (hm 39 6) + 1 - j).toNat : Int) < eN (hm 39 6) := by
        have : j ≤ eN (hm 39 6) + 1 := by rw [← p1, ← st]; exact j1
        omega
      rw [p4 _ lt i (by omega)]
      congr 2
      unfold eN at lt ⊢
      by_cases e20 : hm 39 6 = 20
      · rw [if_pos e20] at lt ⊢; rw [if_pos e20]; omega
      · rw [if_neg e20] at lt ⊢; rw [if_neg e20]; omega
  · rw [r8, e44, e43]
    have z := h.2.2.2 k k2
    refine ⟨z.1, fun k0 => ?_⟩
    rcases (show k = 0 ∨ k = 1 by omega) with y | y
    · subst y; rw [show 26 + 0 = 26 from rfl, r6]; exact z.2 k0
    · subst y; rw [show 26 + 1 = 27 from rfl, r7]; exact z.2 k0
theorem RQ.al {f g : Nat → Int} (h : RQ f g) {z t : Int} (z0 : 0 ≤ z) (z1 : z < f 1) : al f z t ↔ al g z t := (h.2.2 z z0 z1).al
theorem RQ.hrs {f g : Nat → Int} (h : RQ f g) (x o t : Int) : Hrs f (f 1) x o t ↔ Hrs g (g 0) x o t := by
  rw [← h.1]
  constructor
  · rintro ⟨z, a1, a2, a3, a4, a5⟩
    exact ⟨z, a1, a2, a3, by rw [← (h.2.2 z a1 a2).1]; exact a4, (h.al a1 a2).mp a5⟩
  · rintro ⟨z, a1, a2, a3, a4, a5⟩
    exact ⟨z, a1, a2, a3, by rw [(h.2.2 z a1 a2).1]; exact a4, (h.al a1 a2).mpr a5⟩
theorem RQ.lk {f g : Nat → Int} (h : RQ f g) (x o b d : Int) : LK f (f 1) (f 0) x o b d ↔ LK g (g 0) (g 1) x o b d := by
  unfold LK
  rw [h.2.1]
  constructor <;> rintro ⟨t, a1, a2, a3, a4⟩ <;> refine ⟨t, a1, a2, a3, ?_⟩
  · rw [← h.hrs, ← h.hrs]; exact a4
  · rw [h.hrs, h.hrs]; exact a4
theorem RQ.cl {f g : Nat → Int} (h : RQ f g) (x o b d : Int) : CL f (f 1) x o b d ↔ CL g (g 0) x o b d := by
  unfold CL
  constructor <;> rintro ⟨t, a1, a2, a3, a4⟩ <;> refine ⟨t, a1, a2, ?_, a4⟩
  · exact (h.hrs _ _ _).mp a3
  · exact (h.hrs _ _ _).mpr a3
theorem RQ.fst {f g : Nat → Int} (h : RQ f g) {A B : Int → Prop} (hab : ∀ z, 0 ≤ z → z < f 1 → (A z ↔ B z)) {k l : Int} (h1 : Fst A (f 1) k) (h2 : Fst B (g 0) l) : k = l := by
  rw [← h.1] at h2
  exact (h1.congr hab).uniq h2
theorem rq_of {f g f2 g2 : Nat → Int} {x o b d w : Int} (h : RQ f g) (a : RI f2 (f2 1) ∧ f2 0 = f 0 ∧ SetP f (f 1) x o b d w f2 (f2 1)) (y : RI g2 (g2 0) ∧ g2 1 = g 1 ∧ SetP g (g 0) x o b d w g2 (g2 0)) : RQ f2 g2 := by
  have y3 := y.2.2
  rw [← h.1] at y3
  obtain ⟨e1, e2⟩ := setP_uq h.2.2 a.2.2 y3 a.1 y.1
  exact ⟨e1, by rw [a.2.1, y.2.1]; exact h.2.1, e2⟩
/-- a change of a life, both -/
theorem rb_ch {hc hc2 hm hm2 : HI} {k b d v u x w : Int} (h : RB hc hm) (cx : CX hc) (mx : MX hm) (hk : 0 ≤ k ∧ k < hc 2 1) (hb : 0 ≤ b ∧ d ≤ 64) (hx : nO (hc 2) k = x) (hw : wO (hc 2) k = w) (c : ChP hc hc2 k b d v) (m : EdM (Z0 hm) hm2 x k b d w u) (f : Fr [39, 40, 41, 42] hm hm2) : v = u ∧ RB hc2 hm2 := by
  unfold EdM at m
  rw [Z0_o hm (show 40 ≠ 39 by decide)] at m
  unfold ChP at c
  rw [hx, h.1.lk] at c
  have hcl := h.1.cl x k b d
  rcases c with ⟨c1, c2, c3⟩ | ⟨c1, c2, c3, c4⟩ | ⟨c1, c2, c3, f2, c4, c5⟩
  · rcases m with ⟨m1, m2, m3⟩ | ⟨m1, m2, m3, m4⟩ | ⟨m1, m2, m3, m4, m5⟩ | ⟨m1, m2, m3, m4, m5⟩
    · exact ⟨by omega, by rw [c3]; exact h.eqm (m3.eq f)⟩
    · exact absurd c2 m2
    · exact absurd c2 m2
    · exact absurd c2 m2
  · rcases m with ⟨m1, m2, m3⟩ | ⟨m1, m2, m3, m4⟩ | ⟨m1, m2, m3, m4, m5⟩ | ⟨m1, m2, m3, m4, m5⟩
    · exact absurd m2 c2
    · exact ⟨by omega, by rw [c4]; exact h.eqm (m4.eq f)⟩
    · exact absurd (hcl.mp c3) m3
    · exact absurd (hcl.mp c3) m3
  · rcases m with ⟨m1, m2, m3⟩ | ⟨m1, m2, m3, m4⟩ | ⟨m1, m2, m3, m4, m5⟩ | ⟨m1, m2, m3, m4, m5⟩
    · exact absurd m2 c2
    · exact absurd (hcl.mpr m3) c3
    · omega
    · refine ⟨by omega, h.push cx mx c5 m5.1 ?_ (f 43 (by decide)) (f 44 (by decide))⟩
      have a := chf_ri cx.1.1 hk c4 hb (by rw [hx]; exact c3)
      rw [hx, hw] at a
      have y := m5.2
      rw [Z0_o hm (show 40 ≠ 39 by decide)] at y
      exact rq_of h.1 a ⟨y.1, y.2.1, y.2.2⟩
theorem rb_sp {hc hc2 hm hm2 : HI} {x b d w v u : Int} (h : RB hc hm) (cx : CX hc) (mx : MX hm) (c : SpP hc hc2 x b d w v) (m : SpM (Z0 hm) hm2 x b d w u) (f : Fr [39, 40, 41, 42] hm hm2) : v = u ∧ RB hc2 hm2 := by
  unfold SpM EdM at m
  rw [Z0_o hm (show 40 ≠ 39 by decide)] at m
  unfold SpP at c
  rw [h.1.lk] at c
  have hcl := h.1.cl x (-1) b d
  have hn := h.1.1
  rcases c with ⟨c1, c2, c3⟩ | ⟨cb, c⟩
  · rcases m with ⟨m1, m2, m3⟩ | ⟨mb, m⟩
    · exact ⟨by omega, by rw [c3]; exact h.eqm (m3.eq f)⟩
    · exact absurd mb c2
  rcases m with ⟨m1, m2, m3⟩ | ⟨mb, m⟩
  · exact absurd cb m2
  rcases c with ⟨c1, c2, c3⟩ | ⟨c1, c2, c3, c4⟩ | ⟨c1, c2, c3, c4, c5⟩ | ⟨c1, c2, c3, c4, p, f2, c5, c6, c7⟩
  · rcases m with ⟨m1, m2, m3⟩ | ⟨m1, m2, m3, m4⟩ | ⟨m1, m2, m3, m4, m5⟩ | ⟨m1, m2, m3, m4, m5⟩
    · exact ⟨by omega, by rw [c3]; exact h.eqm (m3.eq f)⟩
    · exact absurd c2 m2
    · exact absurd c2 m2
    · exact absurd c2 m2
  · rcases m with ⟨m1, m2, m3⟩ | ⟨m1, m2, m3, m4⟩ | ⟨m1, m2, m3, m4, m5⟩ | ⟨m1, m2, m3, m4, m5⟩
    · exact absurd m2 c2
    · exact ⟨by omega, by rw [c4]; exact h.eqm (m4.eq f)⟩
    · exact absurd (hcl.mp c3) m3
    · exact absurd (hcl.mp c3) m3
  · rcases m with ⟨m1, m2, m3⟩ | ⟨m1, m2, m3, m4⟩ | ⟨m1, m2, m3, m4, m5⟩ | ⟨m1, m2, m3, m4, m5⟩
    · exact absurd m2 c2
    · exact absurd (hcl.mpr m3) c3
    · exact ⟨by omega, by rw [c5]; exact h.eqm (m5.eq f)⟩
    · omega
  · rcases m with ⟨m1, m2, m3⟩ | ⟨m1, m2, m3, m4⟩ | ⟨m1, m2, m3, m4, m5⟩ | ⟨m1, m2, m3, m4, m5⟩
    · exact absurd m2 c2
    · exact absurd (hcl.mpr m3) c3
    · omega
    · refine ⟨by omega, h.push cx mx c7 m5.1 ?_ (f 43 (by decide)) (f 44 (by decide))⟩
      have a := ins_set cx.1.1 c4 c5 c6 cb.1 ⟨cb.2.1.1, cb.2.2.2⟩ cb.2.2.1 c3
      have y := m5.2
      rw [Z0_o hm (show 40 ≠ 39 by decide)] at y
      exact rq_of h.1 a ⟨y.1, y.2.1, y.2.2⟩
theorem RB.pop {hc hc2 hm hm2 : HI} (h : RB hc hm) (cx : CX hc) (h0 : 0 < hc 3 1) (e : hc2 = TakH hc) (e6 : hm2 39 6 = hm 39 6 - 1) (e40 : hm2 40 = cpyI (hm 42) (hm 40) (166 * (hm 39 6 - 1)).toNat 0 166) (e42 : hm2 42 = hm 42) (e43 : hm2 43 = hm 43) (e44 : hm2 44 = hm 44) : RB hc2 hm2 := by
  obtain ⟨r1, ⟨r2, r3⟩, r5, r6, r7, r8⟩ := TakH.ring e cx.2.1
  have hb := cx.2.1
  have s := h.2.1
  refine ⟨?_, by rw [r2, e6, s], fun j j0 j1 => ?_, fun k k2 => ?_⟩
  · refine (h.2.2.1 1 (by decide) (by omega)).cong (cx.2.2.1 1 (by decide) (by omega)) r1 (fun i hi => ?_)
    rw [e40, cpy_in (by omega)]
    unfold rowA; congr 1; omega
  · rw [r5 j j0 (by omega), e42, e6]
    have q := h.2.2.1 (j + 1) (by omega) (by omega)
    rw [show hm 39 6 - (j + 1) = hm 39 6 - 1 - j by omega] at q
    exact q
  · rw [r8, e44, e43]
    have z := h.2.2.2 k k2
    refine ⟨z.1, fun k0 => ?_⟩
    rcases (show k = 0 ∨ k = 1 by omega) with y | y
    · subst y; rw [show 26 + 0 = 26 from rfl, r6]; exact z.2 k0
    · subst y; rw [show 26 + 1 = 27 from rfl, r7]; exact z.2 k0
theorem rb_lock {hc hc2 hm hm2 : HI} {x v u : Int} (h : RB hc hm) (c : C_lock hc hc2 x v) (m : M_lock hm hm2 x u) : v = u ∧ RB hc2 hm2 := by
  rcases c with ⟨c1, c2, c3⟩ | ⟨c1, c2, c3⟩ <;> rcases m with ⟨m1, m2, m3⟩ | ⟨m1, m2, m3⟩
  · exact ⟨by omega, by rw [c3, m3]; exact h.eqm (EqM.z0 hm)⟩
  · exact absurd m1 c2
  · exact absurd c1 m2
  · refine ⟨by rw [c2, m2]; exact h.1.2.1, ?_⟩
    have b := rg_bd
    have q := h.eqm (EqM.z0 hm)
    rw [c3, m3]
    unfold RB
    rw [hput_same, hput_same, hput_ne _ _ (show 3 ≠ 2 by decide), hput_ne _ _ (show 28 ≠ 2 by decide), hput_ne _ _ (show 39 ≠ 40 by decide), hput_ne _ _ (show 42 ≠ 40 by decide), hput_ne _ _ (show 43 ≠ 40 by decide), hput_ne _ _ (show 44 ≠ 40 by decide)]
    refine ⟨⟨?_, ?_, fun z z0 z1 => ?_⟩, q.2.1, fun j j0 j1 => ?_, fun k k2 => ?_⟩
    · rw [updI_ne _ _ (by decide), updI_ne _ _ (by decide)]; exact h.1.1
    · rw [updI_same, updI_same]
    · rw [updI_ne _ _ (by decide)] at z1
      have s := h.1.2.2 z z0 z1
      exact ⟨(updI_ne _ _ (by omega)).trans (s.1.trans (updI_ne _ _ (by omega)).symm), (updI_ne _ _ (by omega)).trans (s.2.1.trans (updI_ne _ _ (by omega)).symm), (updI_ne _ _ (by omega)).trans (s.2.2.1.trans (updI_ne _ _ (by omega)).symm), (updI_ne _ _ (by omega)).trans (s.2.2.2.trans (updI_ne _ _ (by omega)).symm)⟩
    · have z := b (hc 3 2) j
      rw [hput_ne _ _ (by omega)]; exact q.2.2.1 j j0 j1
    · rw [hput_ne _ _ (by omega)]; exact q.2.2.2 k k2
theorem rb_undo {hc hc2 hm hm2 : HI} {v u : Int} (h : RB hc hm) (cx : CX hc) (c : C_undo hc hc2 v) (m : M_undo hm hm2 u) (f : Fr [39, 40, 41, 42] hm hm2) : v = u ∧ RB hc2 hm2 := by
  have s := h.2.1
  obtain ⟨m, m42⟩ := m
  rcases c with ⟨c1, c2, c3⟩ | ⟨c1, c2, c3⟩ <;> rcases m with ⟨m1, m2, m3⟩ | ⟨m1, m2, m3, m4⟩
  · exact ⟨by omega, by rw [c3, m3]; exact h.eqm (EqM.z0 hm)⟩
  · omega
  · omega
  · refine ⟨by omega, h.pop cx c1 c3 (by rw [m3, updI_same]; exact m2) (by rw [m4, m2]) m42 (f 43 (by decide)) (f 44 (by decide))⟩
theorem rb_worthed {hc hc2 hm hm2 : HI} {x t w v u : Int} (h : RB hc hm) (cx : CX hc) (mx : MX hm) (c : C_worthed hc hc2 x t w v) (m : M_worthed hm hm2 x t w u) (f : Fr [39, 40, 41, 42] hm hm2) : v = u ∧ RB hc2 hm2 := by
  rcases c with ⟨c1, c2, c3⟩ | ⟨cb, k, ck, c⟩
  · rcases m with ⟨m1, m2, m3⟩ | ⟨mb, m⟩
    · exact ⟨by omega, by rw [c3]; exact h.eqm (m3.eq f)⟩
    · exact absurd mb c2
  rcases m with ⟨m1, m2, m3⟩ | ⟨mb, l, ml, m⟩
  · exact absurd cb m2
  have kl : k = l := h.1.fst (fun z z0 z1 => by rw [(h.1.2.2 z z0 z1).1]; exact and_congr_right (fun _ => h.1.al z0 z1)) ck ml
  subst kl
  rcases c with ⟨c1, c2, c3⟩ | ⟨k0, c⟩
  · rcases m with ⟨m1, m2, m3⟩ | ⟨m0, m⟩
    · exact ⟨by omega, by rw [c3]; exact h.eqm (m3.eq f)⟩
    · omega
  rcases m with ⟨m1, m2, m3⟩ | ⟨m0, m⟩
  · omega
  have kn := (ck.pos k0).1
  have sk := h.1.2.2 k k0 kn
  have e0 := h.1.2.1
  have e1 := h.1.1
  rw [sk.2.1, sk.2.2.2, e0] at c
  rcases c with ⟨c1, c2, c3⟩ | ⟨c1, c2, c3, c4⟩ | ⟨c1, c2, c3, c4⟩
  · rcases m with ⟨m1, m2, m3⟩ | ⟨m1, m2, m3, m4⟩ | ⟨m1, m2, m3, m4, m5⟩
    · exact ⟨by omega, by rw [c3]; exact h.eqm (m3.eq f)⟩
    · omega
    · omega
  · rcases m with ⟨m1, m2, m3⟩ | ⟨m1, m2, m3, m4⟩ | ⟨m1, m2, m3, m4, m5⟩
    · omega
    · exact ⟨by omega, by rw [c4]; exact h.eqm (m4.eq f)⟩
    · exact absurd c3 m3
  · rcases m with ⟨m1, m2, m3⟩ | ⟨m1, m2, m3, m4⟩ | ⟨m1, m2, m3, m4, m5⟩
    · omega
    · exact absurd m3 c3
    · refine ⟨by omega, h.push cx mx c4 m4 ?_ (f 43 (by decide)) (f 44 (by decide))⟩
      obtain ⟨p1, p2, p3, p4, p5, p6⟩ := m5
      refine ⟨by rw [updI_ne _ _ (by omega), p3]; exact e1, by rw [updI_ne _ _ (by omega), p4]; exact e0, fun z z0 z1 => ?_⟩
      rw [updI_ne _ _ (by omega), e1] at z1
      have s := h.1.2.2 z z0 (by omega)
      by_cases q : z = k
      · subst q
        exact ⟨(updI_ne _ _ (by omega)).trans (((ck.pos k0).2.1).trans p5.1.symm), (updI_ne _ _ (by omega)).trans (sk.2.1.trans p5.2.1.symm), (updI_ne _ _ (by omega)).trans (sk.2.2.1.trans p5.2.2.1.symm), (updI_same _ _ _).trans p5.2.2.2.symm⟩
      · have t6 := p6 z z0 z1 q
        exact ⟨(updI_ne _ _ (by omega)).trans (s.1.trans t6.1.symm), (updI_ne _ _ (by omega)).trans (s.2.1.trans t6.2.1.symm), (updI_ne _ _ (by omega)).trans (s.2.2.1.trans t6.2.2.1.symm), (updI_ne _ _ (by omega)).trans (s.2.2.2.trans t6.2.2.2.symm)⟩
theorem rb_died {hc hc2 hm hm2 : HI} {x t v u : Int} (h : RB hc hm) (cx : CX hc) (mx : MX hm) (c : C_died hc hc2 x t v) (m : M_died hm hm2 x t u) (f : Fr [39, 40, 41, 42] hm hm2) : v = u ∧ RB hc2 hm2 := by
  rcases c with ⟨c1, c2, c3⟩ | ⟨cb, k, ck, c⟩
  · rcases m with ⟨m1, m2, m3⟩ | ⟨mb, m⟩
    · exact ⟨by omega, by rw [c3]; exact h.eqm (m3.eq f)⟩
    · exact absurd mb c2
  rcases m with ⟨m1, m2, m3⟩ | ⟨mb, l, ml, m⟩
  · exact absurd cb m2
  have kl : k = l := h.1.fst (fun z z0 z1 => by rw [(h.1.2.2 z z0 z1).1]; exact and_congr_right (fun _ => h.1.al z0 z1)) ck ml
  subst kl
  rcases c with ⟨c1, c2, c3⟩ | ⟨k0, c⟩
  · rcases m with ⟨m1, m2, m3⟩ | ⟨m0, m⟩
    · exact ⟨by omega, by rw [c3]; exact h.eqm (m3.eq f)⟩
    · omega
  rcases m with ⟨m1, m2, m3⟩ | ⟨m0, m⟩
  · omega
  have kn := (ck.pos k0).1
  have sk := h.1.2.2 k k0 kn
  have rk := cx.1.1.2.1 k k0 kn
  rw [← sk.2.1] at m
  exact rb_ch h cx mx ⟨k0, kn⟩ (by omega) (ck.pos k0).2.1 sk.2.2.2 c m f
theorem rb_unborn {hc hc2 hm hm2 : HI} {x t v u : Int} (h : RB hc hm) (cx : CX hc) (mx : MX hm) (c : C_unborn hc hc2 x t v) (m : M_unborn hm hm2 x t u) (f : Fr [39, 40, 41, 42] hm hm2) : v = u ∧ RB hc2 hm2 := by
  rcases c with ⟨c1, c2, c3⟩ | ⟨cb, k, ck, c⟩
  · rcases m with ⟨m1, m2, m3⟩ | ⟨mb, m⟩
    · exact ⟨by omega, by rw [c3]; exact h.eqm (m3.eq f)⟩
    · exact absurd mb c2
  rcases m with ⟨m1, m2, m3⟩ | ⟨mb, l, ml, m⟩
  · exact absurd cb m2
  have kl : k = l := h.1.fst (fun z z0 z1 => by rw [(h.1.2.2 z z0 z1).1]; exact and_congr_right (fun _ => h.1.al z0 z1)) ck ml
  subst kl
  rcases c with ⟨c1, c2, c3⟩ | ⟨k0, c⟩
  · rcases m with ⟨m1, m2, m3⟩ | ⟨m0, m⟩
    · exact ⟨by omega, by rw [c3]; exact h.eqm (m3.eq f)⟩
    · omega
  rcases m with ⟨m1, m2, m3⟩ | ⟨m0, m⟩
  · omega
  have kn := (ck.pos k0).1
  have sk := h.1.2.2 k k0 kn
  have rk := cx.1.1.2.1 k k0 kn
  rw [← sk.2.1] at m
  exact rb_ch h cx mx ⟨k0, kn⟩ (by omega) (ck.pos k0).2.1 sk.2.2.2 c m f
theorem rb_revived {hc hc2 hm hm2 : HI} {x t v u : Int} (h : RB hc hm) (cx : CX hc) (mx : MX hm) (c : C_revived hc hc2 x t v) (m : M_revived hm hm2 x t u) (f : Fr [39, 40, 41, 42] hm hm2) : v = u ∧ RB hc2 hm2 := by
  rcases c with ⟨c1, c2, c3⟩ | ⟨cb, k, ck, c⟩
  · rcases m with ⟨m1, m2, m3⟩ | ⟨mb, m⟩
    · exact ⟨by omega, by rw [c3]; exact h.eqm (m3.eq f)⟩
    · exact absurd mb c2
  rcases m with ⟨m1, m2, m3⟩ | ⟨mb, l, ml, m⟩
  · exact absurd cb m2
  have kl : k = l := h.1.fst (fun z z0 z1 => by rw [(h.1.2.2 z z0 z1).1, (h.1.2.2 z z0 z1).2.2.1]) ck ml
  subst kl
  rcases c with ⟨c1, c2, c3⟩ | ⟨k0, c⟩
  · rcases m with ⟨m1, m2, m3⟩ | ⟨m0, m⟩
    · exact ⟨by omega, by rw [c3]; exact h.eqm (m3.eq f)⟩
    · omega
  rcases m with ⟨m1, m2, m3⟩ | ⟨m0, m⟩
  · omega
  have kn := (ck.pos k0).1
  have sk := h.1.2.2 k k0 kn
  have rk := cx.1.1.2.1 k k0 kn
  rw [← sk.2.1] at m
  exact rb_ch h cx mx ⟨k0, kn⟩ (by omega) (ck.pos k0).2.1 sk.2.2.2 c m f
theorem rb_shifted {hc hc2 hm hm2 : HI} {x t y v u : Int} (h : RB hc hm) (cx : CX hc) (mx : MX hm) (c : C_shifted hc hc2 x t y v) (m : M_shifted hm hm2 x t y u) (f : Fr [39, 40, 41, 42] hm hm2) : v = u ∧ RB hc2 hm2 := by
  rcases c with ⟨c1, c2, c3⟩ | ⟨cb, k, ck, c⟩
  · rcases m with ⟨m1, m2, m3⟩ | ⟨mb, m⟩
    · exact ⟨by omega, by rw [c3]; exact h.eqm (m3.eq f)⟩
    · exact absurd mb c2
  rcases m with ⟨m1, m2, m3⟩ | ⟨mb, l, ml, m⟩
  · exact absurd cb m2
  have kl : k = l := h.1.fst (fun z z0 z1 => by rw [(h.1.2.2 z z0 z1).1]; exact and_congr_right (fun _ => h.1.al z0 z1)) ck ml
  subst kl
  rcases c with ⟨c1, c2, c3⟩ | ⟨k0, c⟩
  · rcases m with ⟨m1, m2, m3⟩ | ⟨m0, m⟩
    · exact ⟨by omega, by rw [c3]; exact h.eqm (m3.eq f)⟩
    · omega
  rcases m with ⟨m1, m2, m3⟩ | ⟨m0, m⟩
  · omega
  have kn := (ck.pos k0).1
  have sk := h.1.2.2 k k0 kn
  have rk := cx.1.1.2.1 k k0 kn
  rw [← sk.2.1, ← sk.2.2.1] at m
  rcases c with ⟨c1, c2, c3⟩ | ⟨c2, c⟩
  · rcases m with ⟨m1, m2, m3⟩ | ⟨m2, m⟩
    · exact ⟨by omega, by rw [c3]; exact h.eqm (m3.eq f)⟩
    · exact absurd m2 c2
  rcases m with ⟨m1, m2, m3⟩ | ⟨m2, m⟩
  · exact absurd c2 m2
  exact rb_ch h cx mx ⟨k0, kn⟩ ⟨c2.1.1, c2.2⟩ (ck.pos k0).2.1 sk.2.2.2 c m f
/-- a line, both -/
theorem rb_do {hc hc2 hm hm2 : HI} {ve n t o w v u : Int} (h : RB hc hm) (cx : CX hc) (mx : MX hm) (c : DoC hc hc2 ve n t o w v) (m : DoM hm hm2 ve n t o w u) (f : Fr [39, 40, 41, 42] hm hm2) : v = u ∧ RB hc2 hm2 := by
  rcases c with ⟨e, c⟩ | ⟨e, c⟩ | ⟨e, c⟩ | ⟨e, c⟩ | ⟨e, c⟩ | ⟨e, c⟩ | ⟨e, c⟩ | ⟨e, c⟩ | ⟨e, c⟩ <;> subst e <;> rcases m with ⟨e, m⟩ | ⟨e, m⟩ | ⟨e, m⟩ | ⟨e, m⟩ | ⟨e, m⟩ | ⟨e, m⟩ | ⟨e, m⟩ | ⟨e, m⟩ | ⟨e, m⟩ <;> first | exact absurd e (by decide) | skip
  · exact rb_sp h cx mx c m f
  · exact rb_sp h cx mx c m f
  · exact rb_died h cx mx c m f
  · exact rb_unborn h cx mx c m f
  · exact rb_revived h cx mx c m f
  · exact rb_shifted h cx mx c m f
  · exact rb_worthed h cx mx c m f
  · obtain ⟨a, c1, c2⟩ := c
    obtain ⟨b, m1, m2⟩ := m
    obtain ⟨q1, q2⟩ := rb_lock h c1 m1
    subst q1
    exact ⟨c2.trans m2.symm, q2⟩
  · obtain ⟨a, c1, c2⟩ := c
    obtain ⟨b, m1, m2⟩ := m
    obtain ⟨q1, q2⟩ := rb_undo h cx c1 m1 f
    subst q1
    exact ⟨c2.trans m2.symm, q2⟩
/-- a run of lines, both -/
theorem rb_run {S P V : Nat → Int} {hc hm : HI} (h : RB hc hm) (cx : CX hc) (mx : MX hm) : ∀ {k : Nat} {a b : HI} {r s : Int × Int × Int}, RunC S P V hc k a r → RunM S P V hm k b s → r = s ∧ RB a b
  | 0, _, _, _, _, p, q => ⟨p.2.trans q.2.symm, (h.eqc p.1).eqm q.1⟩
  | k + 1, _, _, _, _, ⟨a1, a2, r1, v, p1, ⟨_, p2⟩, p3, p4⟩, ⟨b1, b2, s1, u, q1, ⟨q0, q2⟩, q3, q4⟩ => by
    obtain ⟨e1, e2⟩ := rb_run h cx mx p1 q1
    obtain ⟨e3, e4⟩ := rb_do e2 (p1.cx cx) (q1.mx mx) p2 q2 q0
    exact ⟨by rw [p4, q4, e1, e3], (e4.eqc p3).eqm q3⟩
