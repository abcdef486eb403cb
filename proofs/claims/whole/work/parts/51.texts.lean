/-! what holds of the plain form's state between calls -/
def GM (g : Nat → Int) : Prop := RI g (g 0) ∧ 0 ≤ g 1 ∧ g 1 ≤ 64
def rowA (f : Nat → Int) (a : Nat) : Nat → Int := fun j => f (a + j)
def MX (hi : HI) : Prop := GM (hi 40) ∧ (0 ≤ hi 39 6 ∧ hi 39 6 ≤ 20) ∧ (∀ j : Nat, (j : Int) < hi 39 6 → GM (rowA (hi 42) (166 * j))) ∧ ∀ k : Nat, k < 2 → hi 44 k ≠ 0 → GM (rowA (hi 43) (166 * k))
theorem MX.mi {hi : HI} (h : MX hi) : MI hi := ⟨h.1.1, h.1.2, h.2.1⟩
theorem sameE_of {f g : Nat → Int} {z : Int} (h : ∀ j : Nat, j < 162 → g j = f j) (z0 : 0 ≤ z) (z1 : z < 40) : SameE g z f z := ⟨h _ (by omega), h _ (by omega), h _ (by omega), h _ (by omega)⟩
theorem RI.same {f g : Nat → Int} {n : Int} (h : RI f n) (e : ∀ z, 0 ≤ z → z < n → SameE g z f z) : RI g n := by
  obtain ⟨a, b, c⟩ := h
  refine ⟨a, fun z z0 z1 => ?_, fun z z0 z1 => ?_⟩
  · obtain ⟨e1, e2, e3, e4⟩ := e z z0 z1
    rw [e1, e2, e3, e4]; exact b z z0 z1
  · obtain ⟨e1, e2, e3, e4⟩ := e z z0 (by omega)
    obtain ⟨g1, g2, g3, g4⟩ := e (z + 1) (by omega) z1
    rw [e1, e3, g1, g2]; exact c z z0 z1
theorem RI.cong {f g : Nat → Int} {n : Int} (h : RI f n) (e : ∀ j : Nat, j < 162 → g j = f j) : RI g n := h.same (fun z z0 z1 => sameE_of e z0 (by have := h.1; omega))
theorem GM.cong {f g : Nat → Int} (h : GM f) (e : ∀ j : Nat, j < 162 → g j = f j) : GM g := by
  refine ⟨?_, ?_⟩
  · rw [e 0 (by decide)]; exact h.1.cong e
  · rw [e 1 (by decide)]; exact h.2
theorem cpy_in {f g : Nat → Int} {sp dp n j : Nat} (h : dp ≤ j ∧ j < dp + n) : cpyI f g sp dp n j = f (sp + (j - dp)) := if_pos h
theorem cpy_out {f g : Nat → Int} {sp dp n j : Nat} (h : ¬ (dp ≤ j ∧ j < dp + n)) : cpyI f g sp dp n j = g j := if_neg h
/-- the states kept, after one was put behind them -/
theorem Pus.blk {hi h2 : HI} (p : Pus hi h2) (he : 0 ≤ hi 39 6 ∧ hi 39 6 ≤ 20) : (h2 39 6 = eN (hi 39 6) + 1 ∧ 0 ≤ eN (hi 39 6) ∧ eN (hi 39 6) ≤ 19) ∧ (∀ i : Nat, i < 166 → rowA (h2 42) (166 * (eN (hi 39 6)).toNat) i = hi 40 i) ∧ ∀ j : Nat, (j : Int) < eN (hi 39 6) → ∀ i : Nat, i < 166 → rowA (h2 42) (166 * j) i = rowA (hi 42) (166 * (if hi 39 6 = 20 then j + 1 else j)) i := by
  obtain ⟨p1, p2⟩ := p
  have hb : 0 ≤ eN (hi 39 6) ∧ eN (hi 39 6) ≤ 19 := by unfold eN; split <;> omega
  refine ⟨⟨by rw [p1, updI_same], hb⟩, fun i hi0 => ?_, fun j hj i hi0 => ?_⟩
  · unfold rowA; rw [p2, cpy_in (by omega)]; congr 1; omega
  · unfold rowA; rw [p2, cpy_out (by omega)]
    unfold pN
    by_cases e : hi 39 6 = 20
    · have e19 : eN (hi 39 6) = 19 := by unfold eN; rw [if_pos e]
      rw [if_pos e, if_pos e, cpy_in (by omega)]; congr 1; omega
    · rw [if_neg e, if_neg e]
theorem MX.push {hi h2 : HI} (h : MX hi) (p : Pus hi h2) (g : GM (h2 40)) (e43 : h2 43 = hi 43) (e44 : h2 44 = hi 44) : MX h2 := by
  obtain ⟨⟨p1, p2⟩, p3, p4⟩ := p.blk h.2.1
  refine ⟨g, by omega, fun j hj => ?_, by rw [e43, e44]; exact h.2.2.2⟩
  by_cases e : (j : Int) = eN (hi 39 6)
  · rw [show j = (eN (hi 39 6)).toNat by omega]
    exact h.1.cong (fun i hi0 => p3 i (by omega))
  · refine (h.2.2.1 (if hi 39 6 = 20 then j + 1 else j) ?_).cong (fun i hi0 => p4 j (by omega) i (by omega))
    unfold eN at p2 hj e p1
    by_cases e20 : hi 39 6 = 20
    · rw [if_pos e20] at *; omega
    · rw [if_neg e20] at *; omega
theorem Z0_6 (hi : HI) : Z0 hi 39 6 = hi 39 6 := by unfold Z0; rw [hput_same]; rfl
theorem Z0_o (hi : HI) {p : Nat} (h : p ≠ 39) : Z0 hi p = hi p := hput_ne _ _ h
theorem Z0_f (hi : HI) {j : Nat} (h : j ≠ 0) : Z0 hi 39 j = hi 39 j := by unfold Z0; rw [hput_same, updI_ne _ _ h]
theorem MX.z0 {hi : HI} (h : MX hi) : MX (Z0 hi) := by
  unfold MX
  rw [Z0_6, Z0_o hi (show 40 ≠ 39 by decide), Z0_o hi (show 42 ≠ 39 by decide), Z0_o hi (show 43 ≠ 39 by decide), Z0_o hi (show 44 ≠ 39 by decide)]; exact h
/-- the same state of the plain form -/
def EqM (hi h2 : HI) : Prop := h2 39 6 = hi 39 6 ∧ h2 40 = hi 40 ∧ h2 42 = hi 42 ∧ h2 43 = hi 43 ∧ h2 44 = hi 44
theorem EqM.rf {hi : HI} : EqM hi hi := ⟨rfl, rfl, rfl, rfl, rfl⟩
theorem EqM.tr {a b c : HI} (h : EqM a b) (g : EqM b c) : EqM a c := ⟨g.1.trans h.1, g.2.1.trans h.2.1, g.2.2.1.trans h.2.2.1, g.2.2.2.1.trans h.2.2.2.1, g.2.2.2.2.trans h.2.2.2.2⟩
theorem EqM.sy {a b : HI} (h : EqM a b) : EqM b a := ⟨h.1.symm, h.2.1.symm, h.2.2.1.symm, h.2.2.2.1.symm, h.2.2.2.2.symm⟩
theorem MX.eq {hi h2 : HI} (h : MX hi) (e : EqM hi h2) : MX h2 := by
  obtain ⟨e1, e2, e3, e4, e5⟩ := e
  unfold MX; rw [e1, e2, e3, e4, e5]; exact h
theorem NoC.eq {hi h2 : HI} (n : NoC (Z0 hi) h2) (f : Fr [39, 40, 41, 42] hi h2) : EqM hi h2 := ⟨by rw [n.1]; exact Z0_6 hi, by rw [n.2.1]; exact Z0_o hi (by decide), by rw [n.2.2]; exact Z0_o hi (by decide), f 43 (by decide), f 44 (by decide)⟩
theorem YesC.mx {hi h2 : HI} {x o b d w : Int} (h : MX hi) (y : YesC (Z0 hi) h2 x o b d w) (f : Fr [39, 40, 41, 42] hi h2) : MX h2 := by
  refine h.z0.push y.1 ⟨y.2.1, ?_⟩ (by rw [f 43 (by decide)]; exact (Z0_o hi (by decide)).symm) (by rw [f 44 (by decide)]; exact (Z0_o hi (by decide)).symm)
  rw [y.2.2.1, Z0_o hi (show 40 ≠ 39 by decide)]; exact h.1.2
theorem EdM.mx {hi h2 : HI} {x o b d w v : Int} (h : MX hi) (e : EdM (Z0 hi) h2 x o b d w v) (f : Fr [39, 40, 41, 42] hi h2) : MX h2 := by
  rcases e with ⟨-, -, n⟩ | ⟨-, -, -, n⟩ | ⟨-, -, -, -, n⟩ | ⟨-, -, -, -, y⟩
  · exact h.eq (n.eq f)
  · exact h.eq (n.eq f)
  · exact h.eq (n.eq f)
  · exact YesC.mx h y f
theorem putM_ri {g t : Nat → Int} {n x k b d w : Int} (h : RI g n) (p : PutM g n x k b d w t n k) (e : nO g k = x ∧ bO g k = b ∧ dO g k = d) (hw : 0 ≤ w ∧ w ≤ 99) : RI t n := by
  obtain ⟨p1, p2, p3, p4, p5, p6⟩ := p
  have key : ∀ z, 0 ≤ z → z < n → nO t z = nO g z ∧ bO t z = bO g z ∧ dO t z = dO g z ∧ (0 ≤ wO t z ∧ wO t z ≤ 99) := fun z z0 z1 => by
    by_cases q : z = k
    · rw [q, p5.1, p5.2.1, p5.2.2.1, p5.2.2.2]; exact ⟨e.1.symm, e.2.1.symm, e.2.2.symm, hw⟩
    · obtain ⟨a1, a2, a3, a4⟩ := p6 z z0 z1 q
      exact ⟨a1, a2, a3, by rw [a4]; exact (h.2.1 z z0 z1).2.2⟩
  refine ⟨h.1, fun z z0 z1 => ?_, fun z z0 z1 => ?_⟩
  · obtain ⟨a1, a2, a3, a4⟩ := key z z0 z1
    rw [a1, a2, a3]; exact ⟨(h.2.1 z z0 z1).1, (h.2.1 z z0 z1).2.1, a4⟩
  · obtain ⟨a1, a2, a3, a4⟩ := key z z0 (by omega)
    obtain ⟨b1, b2, b3, b4⟩ := key (z + 1) (by omega) z1
    rw [a1, a3, b1, b2]; exact h.2.2 z z0 z1
theorem M_worthed.mx {hi h2 : HI} {x h w v : Int} (hm : MX hi) (e : M_worthed hi h2 x h w v) (f : Fr [39, 40, 41, 42] hi h2) : MX h2 := by
  rcases e with ⟨-, -, n⟩ | ⟨hb, k, hk, q⟩
  · exact hm.eq (n.eq f)
  · rcases q with ⟨-, -, n⟩ | ⟨k0, q⟩
    · exact hm.eq (n.eq f)
    · rcases q with ⟨-, -, n⟩ | ⟨-, -, -, n⟩ | ⟨-, -, -, p, u⟩
      · exact hm.eq (n.eq f)
      · exact hm.eq (n.eq f)
      · refine hm.z0.push p ⟨?_, ?_⟩ (by rw [f 43 (by decide)]; exact (Z0_o hi (by decide)).symm) (by rw [f 44 (by decide)]; exact (Z0_o hi (by decide)).symm)
        · rw [u.2.2.1]
          exact putM_ri hm.1.1 u ⟨(hk.pos k0).2.1, rfl, rfl⟩ hb.2.2
        · rw [u.2.2.2.1]; exact hm.1.2
theorem M_lock.mx {hi h2 : HI} {x v : Int} (hm : MX hi) (e : M_lock hi h2 x v) : MX h2 := by
  rcases e with ⟨-, -, n⟩ | ⟨hb, -, n⟩
  · rw [n]; exact hm.z0
  · have q := hm.z0
    obtain ⟨q1, q2, q3, q4⟩ := q
    rw [n]
    unfold MX
    rw [hput_same, hput_ne _ _ (show 39 ≠ 40 by decide), hput_ne _ _ (show 42 ≠ 40 by decide), hput_ne _ _ (show 43 ≠ 40 by decide), hput_ne _ _ (show 44 ≠ 40 by decide)]
    refine ⟨⟨?_, ?_⟩, q2, q3, q4⟩
    · rw [updI_ne _ _ (show 0 ≠ 1 by decide)]
      exact hm.1.1.same (fun z z0 z1 => ⟨updI_ne _ _ (by omega), updI_ne _ _ (by omega), updI_ne _ _ (by omega), updI_ne _ _ (by omega)⟩)
    · rw [updI_same]; exact hb
theorem M_undo.mx {hi h2 : HI} {v : Int} (hm : MX hi) (e : M_undo hi h2 v) (f : Fr [39, 40, 41, 42] hi h2) : MX h2 := by
  obtain ⟨e, e42⟩ := e
  rcases e with ⟨-, -, n⟩ | ⟨h0, hv, e39, e40⟩
  · rw [n]; exact hm.z0
  · refine ⟨?_, by rw [e39, updI_same]; have := hm.2.1; omega, fun j hj => ?_, by rw [f 43 (by decide), f 44 (by decide)]; exact hm.2.2.2⟩
    · refine (hm.2.2.1 v.toNat (by omega)).cong (fun j hj => ?_)
      rw [e40, cpy_in (by omega)]; unfold rowA; congr 1; omega
    · rw [e42]; rw [e39, updI_same] at hj; exact hm.2.2.1 j (by omega)
theorem DoM.mx {hi h2 : HI} {ve n h o w v : Int} (hm : MX hi) (e : DoM hi h2 ve n h o w v) (f : Fr [39, 40, 41, 42] hi h2) : MX h2 := by
  have sp : ∀ d, SpM (Z0 hi) h2 n h d w v → MX h2 := fun d q => by
    rcases q with ⟨-, -, z⟩ | ⟨-, z⟩
    · exact hm.eq (z.eq f)
    · exact EdM.mx hm z f
  rcases e with ⟨-, q⟩ | ⟨-, q⟩ | ⟨-, q⟩ | ⟨-, q⟩ | ⟨-, q⟩ | ⟨-, q⟩ | ⟨-, q⟩ | ⟨-, u, q, -⟩ | ⟨-, u, q, -⟩
  · exact sp _ q
  · exact sp _ q
  · rcases q with ⟨-, -, z⟩ | ⟨-, k, hk, ⟨-, -, z⟩ | ⟨-, z⟩⟩
    · exact hm.eq (z.eq f)
    · exact hm.eq (z.eq f)
    · exact EdM.mx hm z f
  · rcases q with ⟨-, -, z⟩ | ⟨-, k, hk, ⟨-, -, z⟩ | ⟨-, z⟩⟩
    · exact hm.eq (z.eq f)
    · exact hm.eq (z.eq f)
    · exact EdM.mx hm z f
  · rcases q with ⟨-, -, z⟩ | ⟨-, k, hk, ⟨-, -, z⟩ | ⟨-, z⟩⟩
    · exact hm.eq (z.eq f)
    · exact hm.eq (z.eq f)
    · exact EdM.mx hm z f
  · rcases q with ⟨-, -, z⟩ | ⟨-, k, hk, ⟨-, -, z⟩ | ⟨-, ⟨-, -, z⟩ | ⟨-, z⟩⟩⟩
    · exact hm.eq (z.eq f)
    · exact hm.eq (z.eq f)
    · exact hm.eq (z.eq f)
    · exact EdM.mx hm z f
  · exact M_worthed.mx hm q f
  · exact M_lock.mx hm q
  · exact M_undo.mx hm q f
/-- edits change two fields at most -/
theorem NoC.ff {hi h2 : HI} (n : NoC (Z0 hi) h2) : FF 39 [0, 6] hi h2 := fun j hj => by
  rw [n.1]; exact Z0_f hi (fun q => hj (by rw [q]; decide))
theorem Pus.ff {hi h2 : HI} (n : Pus (Z0 hi) h2) : FF 39 [0, 6] hi h2 := fun j hj => by
  rw [n.1, updI_ne _ _ (fun q => hj (by rw [q]; decide))]; exact Z0_f hi (fun q => hj (by rw [q]; decide))
theorem EdM.ff {hi h2 : HI} {x o b d w v : Int} (e : EdM (Z0 hi) h2 x o b d w v) : FF 39 [0, 6] hi h2 := by
  rcases e with ⟨-, -, n⟩ | ⟨-, -, -, n⟩ | ⟨-, -, -, -, n⟩ | ⟨-, -, -, -, y⟩
  · exact n.ff
  · exact n.ff
  · exact n.ff
  · exact Pus.ff y.1
theorem DoM.ff {hi h2 : HI} {ve n h o w v : Int} (e : DoM hi h2 ve n h o w v) : FF 39 [0, 6] hi h2 := by
  have sp : ∀ d, SpM (Z0 hi) h2 n h d w v → FF 39 [0, 6] hi h2 := fun d q => by
    rcases q with ⟨-, -, z⟩ | ⟨-, z⟩
    · exact z.ff
    · exact z.ff
  rcases e with ⟨-, q⟩ | ⟨-, q⟩ | ⟨-, q⟩ | ⟨-, q⟩ | ⟨-, q⟩ | ⟨-, q⟩ | ⟨-, q⟩ | ⟨-, u, q, -⟩ | ⟨-, u, q, -⟩
  · exact sp _ q
  · exact sp _ q
  · rcases q with ⟨-, -, z⟩ | ⟨-, k, hk, ⟨-, -, z⟩ | ⟨-, z⟩⟩ <;> exact z.ff
  · rcases q with ⟨-, -, z⟩ | ⟨-, k, hk, ⟨-, -, z⟩ | ⟨-, z⟩⟩ <;> exact z.ff
  · rcases q with ⟨-, -, z⟩ | ⟨-, k, hk, ⟨-, -, z⟩ | ⟨-, z⟩⟩ <;> exact z.ff
  · rcases q with ⟨-, -, z⟩ | ⟨-, k, hk, ⟨-, -, z⟩ | ⟨-, ⟨-, -, z⟩ | ⟨-, z⟩⟩⟩ <;> exact z.ff
  · rcases q with ⟨-, -, n⟩ | ⟨hb, k, hk, ⟨-, -, n⟩ | ⟨k0, ⟨-, -, n⟩ | ⟨-, -, -, n⟩ | ⟨-, -, -, p, u⟩⟩⟩
    · exact n.ff
    · exact n.ff
    · exact n.ff
    · exact n.ff
    · exact Pus.ff p
  · rcases q with ⟨-, -, n⟩ | ⟨hb, -, n⟩ <;> intro j hj
    · rw [n]; exact Z0_f hi (fun q => hj (by rw [q]; decide))
    · rw [n, hput_ne _ _ (by decide)]; exact Z0_f hi (fun q => hj (by rw [q]; decide))
  · rcases q.1 with ⟨-, -, n⟩ | ⟨h0, hv, e39, e40⟩ <;> intro j hj
    · rw [n]; exact Z0_f hi (fun q => hj (by rw [q]; decide))
    · rw [e39, updI_ne _ _ (fun q => hj (by rw [q]; decide))]; exact Z0_f hi (fun q => hj (by rw [q]; decide))
/-! the lines of a text -/
def cs (S P V : Nat → Int) : Nat → Nat
  | 0 => 0
  | k + 1 => (lnF S P V (cs S P V k)).2.1.toNat
/-- the first L lines can be read -/
def LnOK (S P V : Nat → Int) (L : Nat) : Prop := ∀ i, i < L → S (cs S P V i) ≠ 0 ∧ (lnF S P V (cs S P V i)).1 = 0
theorem LnOK.uq {S P V : Nat → Int} {L M : Nat} (h1 : LnOK S P V L) (h2 : LnOK S P V M) (e1 : S (cs S P V L) = 0 ∨ (lnF S P V (cs S P V L)).1 = 1) (e2 : S (cs S P V M) = 0 ∨ (lnF S P V (cs S P V M)).1 = 1) : L = M := by
  rcases Nat.lt_trichotomy L M with q | q | q
  · have := h2 L q; omega
  · exact q
  · have := h1 M q; omega
theorem okL_c {c c2 : Nat} {ve n h o w : Int} {S P V : Nat → Int} (e : lnF S P V c = okL c2 ve n h o w) : (lnF S P V c).1 = 0 ∧ (lnF S P V c).2.1.toNat = c2 ∧ (lnF S P V c).2.2 = (ve, n, h, o, w) := by
  rw [e]; exact ⟨rfl, rfl, rfl⟩
/-- a line is three bytes at least -/
theorem seF_ok {S P V st f : Nat → Int} {n0 : Int} {m c c2 c3 : Nat} {ve n h o w ve' n' h' o' w' : Int} (t : TC f n0 S P V st m) (hc : c2 ≤ m) (h1 : seF S P c2 ve n h o w = okL c3 ve' n' h' o' w') : c2 < m ∧ c3 = c2 + 1 := by
  unfold seF at h1
  by_cases q : S c2 = 11
  · rw [if_pos q] at h1
    have e := congrArg (fun x : LR => x.2.1.toNat) h1
    have e2 : c2 + 1 = c3 := e
    refine ⟨?_, e2.symm⟩
    rcases Nat.lt_or_eq_of_le hc with z | z
    · exact z
    · exfalso; rw [z, t.2.2.1.1] at q; omega
  · rw [if_neg q] at h1
    have e := congrArg (fun x : LR => x.1) h1
    exact absurd e (by show ¬ ((1 : Int) = 0); decide)
theorem TC.nx {f : Nat → Int} {n : Int} {S P V st : Nat → Int} {m c : Nat} (h : TC f n S P V st m) (hc : c ≤ m) (hs : S c ≠ 0) : c + 1 ≤ m := by
  rcases Nat.lt_or_eq_of_le hc with z | z
  · exact z
  · exact absurd (by rw [z]; exact h.2.2.1.1) hs
theorem flL_ne {p : Int} {c : Nat} {ve n h o w : Int} (h : flL p = okL c ve n h o w) : False := by
  have e := congrArg (fun x : LR => x.1) h
  exact absurd e (by show ¬ ((1 : Int) = 0); decide)
/-- where a line that is read ends; how much it is -/
def LenOK (S P V : Nat → Int) (m c c3 : Nat) : Prop := c3 ≤ m ∧ c + 2 ≤ c3 ∧ (c + 3 ≤ c3 ∨ S c = 22)
theorem line_len {S P V st f : Nat → Int} {n0 : Int} {m c c3 : Nat} {ve n h o w : Int} (t : TC f n0 S P V st m) (hc : c ≤ m) (h1 : lnF S P V c = okL c3 ve n h o w) : LenOK S P V m c c3 := by
  have fin : ∀ {c2 ve n h o w ve' n' h' o' w'}, c2 ≤ m → seF S P c2 ve n h o w = okL c3 ve' n' h' o' w' → c3 ≤ m ∧ c3 = c2 + 1 := fun a b => by have := seF_ok (V := V) (c := 0) t a b; omega
  have wt : ∀ {c2 ve n h o ve' n' h' o' w'}, c2 ≤ m → wtF S P V c2 ve n h o = okL c3 ve' n' h' o' w' → c3 ≤ m ∧ c2 + 1 ≤ c3 := fun {c2 ve n h o ve' n' h' o' w'} a b => by
    unfold wtF at b
    by_cases q : S c2 = 34
    · rw [if_pos q] at b
      have a1 := t.nx a (by omega)
      by_cases q2 : S (c2 + 1) = 2
      · rw [if_pos q2] at b
        have := fin (t.nx a1 (by omega)) b; omega
      · rw [if_neg q2] at b; exact (flL_ne b).elim
    · rw [if_neg q] at b
      have := fin a b; omega
  unfold lnF at h1
  by_cases q21 : S c = 21
  · rw [if_pos q21] at h1; unfold hoF at h1
    have a1 := t.nx hc (by omega)
    by_cases q2 : S (c + 1) = 2
    · rw [if_pos q2] at h1
      have := fin (t.nx a1 (by omega)) h1; exact ⟨by omega, by omega, by omega⟩
    · rw [if_neg q2] at h1; exact (flL_ne h1).elim
  · rw [if_neg q21] at h1
    by_cases q22 : S c = 22
    · rw [if_pos q22] at h1
      have := fin (t.nx hc (by omega)) h1; exact ⟨by omega, by omega, Or.inr q22⟩
    · rw [if_neg q22] at h1
      by_cases q2 : S c = 2
      · rw [if_pos q2] at h1
        have a1 := t.nx hc (by omega)
        have ho : ∀ {ve ve' n' h' o' w' : Int}, S (c + 1) ≠ 0 → hoF S P V (c + 1 + 1) ve (V c) = okL c3 ve' n' h' o' w' → LenOK S P V m c c3 := fun {ve ve' n' h' o' w'} hs b => by
          have a2 := t.nx a1 hs
          unfold hoF at b
          by_cases r : S (c + 1 + 1) = 2
          · rw [if_pos r] at b
            have := fin (t.nx a2 (by omega)) b; exact ⟨by omega, by omega, by omega⟩
          · rw [if_neg r] at b; exact (flL_ne b).elim
        unfold deF at h1
        by_cases q : S (c + 1) = 12
        · rw [if_pos q] at h1
          have a2 := t.nx a1 (by omega)
          unfold boF at h1
          by_cases r : S (c + 1 + 1) = 2
          · rw [if_pos r] at h1
            have := wt (t.nx a2 (by omega)) h1; exact ⟨by omega, by omega, by omega⟩
          · rw [if_neg r] at h1; exact (flL_ne h1).elim
        rw [if_neg q] at h1; clear q
        by_cases q : S (c + 1) = 13
        · rw [if_pos q] at h1
          have a2 := t.nx a1 (by omega)
          unfold spF at h1
          by_cases r : S (c + 1 + 1) = 2
          · rw [if_pos r] at h1
            have a3 := t.nx a2 (by omega)
            by_cases r2 : S (c + 1 + 1 + 1) = 14
            · rw [if_pos r2] at h1
              have a4 := t.nx a3 (by omega)
              by_cases r3 : S (c + 1 + 1 + 1 + 1) = 2
              · rw [if_pos r3] at h1
                have := wt (t.nx a4 (by omega)) h1; exact ⟨by omega, by omega, by omega⟩
              · rw [if_neg r3] at h1; exact (flL_ne h1).elim
            · rw [if_neg r2] at h1; exact (flL_ne h1).elim
          · rw [if_neg r] at h1; exact (flL_ne h1).elim
        rw [if_neg q] at h1; clear q
        by_cases q : S (c + 1) = 18
        · rw [if_pos q] at h1
          have a2 := t.nx a1 (by omega)
          unfold shF at h1
          by_cases r : S (c + 1 + 1) = 2
          · rw [if_pos r] at h1
            have a3 := t.nx a2 (by omega)
            by_cases r2 : S (c + 1 + 1 + 1) = 19
            · rw [if_pos r2] at h1
              have a4 := t.nx a3 (by omega)
              by_cases r3 : S (c + 1 + 1 + 1 + 1) = 5
              · rw [if_pos r3] at h1
                have a5 := t.nx a4 (by omega)
                by_cases r4 : S (c + 1 + 1 + 1 + 1 + 1) = 2
                · rw [if_pos r4] at h1
                  have := fin (t.nx a5 (by omega)) h1; exact ⟨by omega, by omega, by omega⟩
                · rw [if_neg r4] at h1; exact (flL_ne h1).elim
              · rw [if_neg r3] at h1
                by_cases r4 : S (c + 1 + 1 + 1 + 1) = 2
                · rw [if_pos r4] at h1
                  have := fin (t.nx a4 (by omega)) h1; exact ⟨by omega, by omega, by omega⟩
                · rw [if_neg r4] at h1; exact (flL_ne h1).elim
            · rw [if_neg r2] at h1; exact (flL_ne h1).elim
          · rw [if_neg r] at h1; exact (flL_ne h1).elim
        rw [if_neg q] at h1; clear q
        by_cases q : S (c + 1) = 34
        · rw [if_pos q] at h1
          have a2 := t.nx a1 (by omega)
          unfold woF at h1
          by_cases r : S (c + 1 + 1) = 2
          · rw [if_pos r] at h1
            have a3 := t.nx a2 (by omega)
            by_cases r2 : S (c + 1 + 1 + 1) = 20
            · rw [if_pos r2] at h1
              have a4 := t.nx a3 (by omega)
              by_cases r3 : S (c + 1 + 1 + 1 + 1) = 2
              · rw [if_pos r3] at h1
                have := fin (t.nx a4 (by omega)) h1; exact ⟨by omega, by omega, by omega⟩
              · rw [if_neg r3] at h1; exact (flL_ne h1).elim
            · rw [if_neg r2] at h1; exact (flL_ne h1).elim
          · rw [if_neg r] at h1; exact (flL_ne h1).elim
        rw [if_neg q] at h1; clear q
        by_cases q : S (c + 1) = 15
        · rw [if_pos q] at h1; exact ho (by omega) h1
        rw [if_neg q] at h1; clear q
        by_cases q : S (c + 1) = 16
        · rw [if_pos q] at h1; exact ho (by omega) h1
        rw [if_neg q] at h1; clear q
        by_cases q : S (c + 1) = 17
        · rw [if_pos q] at h1; exact ho (by omega) h1
        rw [if_neg q] at h1; exact (flL_ne h1).elim
      · rw [if_neg q2] at h1; exact (flL_ne h1).elim
/-- places of tokens: each is a byte on at least -/
theorem TC.far {f : Nat → Int} {n : Int} {S P V st : Nat → Int} {m c : Nat} (h : TC f n S P V st m) : ∀ d : Nat, c + d ≤ m → P c + d ≤ P (c + d)
  | 0, _ => by simp
  | d + 1, hd => by
    have ih := TC.far (c := c) h d (by omega)
    have q := h.pl (c := c + d) (by omega)
    have q2 : st (c + d + 1) ≤ P (c + d + 1) := by
      rcases Nat.lt_or_eq_of_le (show c + d + 1 ≤ m by omega) with z | z
      · exact (h.pl z).1
      · rw [z, h.2.2.1.2.1, ← z]; exact q.2.2
    show P c + ((d + 1 : Nat) : Int) ≤ P (c + d + 1)
    omega
theorem TC.undo {f : Nat → Int} {n : Int} {S P V st : Nat → Int} {m c : Nat} (h : TC f n S P V st m) (hc : c < m) (hs : S c = 22) : P c + 4 ≤ P (c + 1) := by
  obtain ⟨a, b, c1, d, e, g⟩ := h.2.1.2 c hc
  have q2 : st (c + 1) ≤ P (c + 1) := by
    rcases Nat.lt_or_eq_of_le (show c + 1 ≤ m by omega) with z | z
    · exact (h.pl z).1
    · rw [z, h.2.2.1.2.1, ← z]; exact (h.pl hc).2.2
  have key : st (c + 1) - P c = 4 := by
    rw [hs] at d
    rcases d.2 with ⟨q1, q3⟩ | ⟨q1, q3 | ⟨q3, k, q4, q5⟩⟩
    · omega
    · omega
    · rcases q5 with ⟨k0, q5⟩ | ⟨k0, q5⟩
      · have := (q4.pos k0).2.1
        rw [← q5] at this
        exact this
      · omega
  omega
theorem chain_len {f : Nat → Int} {n0 : Int} {S P V st : Nat → Int} {m : Nat} (t : TC f n0 S P V st m) : ∀ L : Nat, (∀ i, i < L → ∃ ve n h o w, lnF S P V (cs S P V i) = okL (cs S P V (i + 1)) ve n h o w) → cs S P V L ≤ m ∧ 3 * (L : Int) ≤ P (cs S P V L)
  | 0, _ => ⟨Nat.zero_le _, by
    show 3 * ((0 : Nat) : Int) ≤ P 0
    rcases Nat.eq_zero_or_pos m with z | z
    · subst z; rw [t.2.2.1.2.1]; have := t.1; omega
    · have := (t.pl z).1; have := t.2.1.1; omega⟩
  | L + 1, h => by
    have ih := chain_len t L (fun i hi => h i (by omega))
    obtain ⟨ve, n, h0, o, w, e⟩ := h L (by omega)
    obtain ⟨a1, a2, a3⟩ := line_len t ih.1 e
    refine ⟨a1, ?_⟩
    rcases a3 with a3 | a3
    · have q := t.far (c := cs S P V L) (cs S P V (L + 1) - cs S P V L) (by omega)
      rw [show cs S P V L + (cs S P V (L + 1) - cs S P V L) = cs S P V (L + 1) by omega] at q
      omega
    · have q := t.undo (c := cs S P V L) (by omega) a3
      have q2 := t.far (c := cs S P V L + 1) (cs S P V (L + 1) - (cs S P V L + 1)) (by omega)
      rw [show cs S P V L + 1 + (cs S P V (L + 1) - (cs S P V L + 1)) = cs S P V (L + 1) by omega] at q2
      omega
