def C_died (hi h2 : HI) (x h v : Int) : Prop := (v = 1 ∧ ¬ ((0 ≤ x ∧ x ≤ 999) ∧ (0 ≤ h ∧ h < 64)) ∧ h2 = hi) ∨ (((0 ≤ x ∧ x ≤ 999) ∧ (0 ≤ h ∧ h < 64)) ∧ ∃ k : Int, Fst (fun z => nO (hi 2) z = x ∧ al (hi 2) z h) (hi 2 1) k ∧ ((k < 0 ∧ v = 2 ∧ h2 = hi) ∨ (0 ≤ k ∧ ChP hi h2 k (bO (hi 2) k) h v)))
def C_unborn (hi h2 : HI) (x h v : Int) : Prop := (v = 1 ∧ ¬ ((0 ≤ x ∧ x ≤ 999) ∧ (0 ≤ h ∧ h < 64)) ∧ h2 = hi) ∨ (((0 ≤ x ∧ x ≤ 999) ∧ (0 ≤ h ∧ h < 64)) ∧ ∃ k : Int, Fst (fun z => nO (hi 2) z = x ∧ al (hi 2) z h) (hi 2 1) k ∧ ((k < 0 ∧ v = 2 ∧ h2 = hi) ∨ (0 ≤ k ∧ ChP hi h2 k (bO (hi 2) k) (bO (hi 2) k) v)))
def C_revived (hi h2 : HI) (x h v : Int) : Prop := (v = 1 ∧ ¬ ((0 ≤ x ∧ x ≤ 999) ∧ (1 ≤ h ∧ h < 64)) ∧ h2 = hi) ∨ (((0 ≤ x ∧ x ≤ 999) ∧ (1 ≤ h ∧ h < 64)) ∧ ∃ k : Int, Fst (fun z => nO (hi 2) z = x ∧ dO (hi 2) z = h) (hi 2 1) k ∧ ((k < 0 ∧ v = 2 ∧ h2 = hi) ∨ (0 ≤ k ∧ ChP hi h2 k (bO (hi 2) k) 64 v)))
def C_shifted (hi h2 : HI) (x h y v : Int) : Prop := (v = 1 ∧ ¬ ((0 ≤ x ∧ x ≤ 999) ∧ (0 ≤ h ∧ h < 64) ∧ y ≠ 0 ∧ -64 < y ∧ y < 64) ∧ h2 = hi) ∨ (((0 ≤ x ∧ x ≤ 999) ∧ (0 ≤ h ∧ h < 64) ∧ y ≠ 0 ∧ -64 < y ∧ y < 64) ∧ ∃ k : Int, Fst (fun z => nO (hi 2) z = x ∧ al (hi 2) z h) (hi 2 1) k ∧ ((k < 0 ∧ v = 2 ∧ h2 = hi) ∨ (0 ≤ k ∧ ((v = 1 ∧ ¬ ((0 ≤ bO (hi 2) k + y ∧ bO (hi 2) k + y < 64) ∧ (if dO (hi 2) k = 64 then 64 else dO (hi 2) k + y) ≤ 64) ∧ h2 = hi) ∨ (((0 ≤ bO (hi 2) k + y ∧ bO (hi 2) k + y < 64) ∧ (if dO (hi 2) k = 64 then 64 else dO (hi 2) k + y) ≤ 64) ∧ ChP hi h2 k (bO (hi 2) k + y) (if dO (hi 2) k = 64 then 64 else dO (hi 2) k + y) v)))))
def C_worthed (hi h2 : HI) (x h w v : Int) : Prop := (v = 1 ∧ ¬ ((0 ≤ x ∧ x ≤ 999) ∧ (0 ≤ h ∧ h < 64) ∧ (0 ≤ w ∧ w ≤ 99)) ∧ h2 = hi) ∨ (((0 ≤ x ∧ x ≤ 999) ∧ (0 ≤ h ∧ h < 64) ∧ (0 ≤ w ∧ w ≤ 99)) ∧ ∃ k : Int, Fst (fun z => nO (hi 2) z = x ∧ al (hi 2) z h) (hi 2 1) k ∧ ((k < 0 ∧ v = 2 ∧ h2 = hi) ∨ (0 ≤ k ∧ ((v = 3 ∧ bO (hi 2) k < hi 2 0 ∧ h2 = hi) ∨ (v = 6 ∧ hi 2 0 ≤ bO (hi 2) k ∧ wO (hi 2) k = w ∧ h2 = hi) ∨ (v = 0 ∧ hi 2 0 ≤ bO (hi 2) k ∧ wO (hi 2) k ≠ w ∧ h2 = hput (RemH hi) 2 (updI (hi 2) (2 + 4 * k.toNat + 3) w))))))
def C_lock (hi h2 : HI) (x v : Int) : Prop := (v = -1 ∧ ¬ (0 ≤ x ∧ x ≤ 64) ∧ h2 = hi) ∨ ((0 ≤ x ∧ x ≤ 64) ∧ v = hi 2 0 ∧ h2 = hput hi 2 (updI (hi 2) 0 x))
def C_undo (hi h2 : HI) (v : Int) : Prop := (hi 3 1 = 0 ∧ v = -1 ∧ h2 = hi) ∨ (0 < hi 3 1 ∧ v = hi 3 1 - 1 ∧ h2 = TakH hi)
/-- a line done by the class -/
def DoC (hi h2 : HI) (ve n h o w v : Int) : Prop := (ve = 12 ∧ SpP hi h2 n h 64 w v) ∨ (ve = 13 ∧ SpP hi h2 n h o w v) ∨ (ve = 15 ∧ C_died hi h2 n h v) ∨ (ve = 16 ∧ C_unborn hi h2 n h v) ∨ (ve = 17 ∧ C_revived hi h2 n h v) ∨ (ve = 18 ∧ C_shifted hi h2 n h o v) ∨ (ve = 34 ∧ C_worthed hi h2 n h w v) ∨ (ve = 21 ∧ (∃ u, C_lock hi h2 h u ∧ v = (if u = -1 then 1 else 0))) ∨ (ve = 22 ∧ (∃ u, C_undo hi h2 u ∧ v = (if u = -1 then 2 else 0)))
theorem DoC.born {hi h2 : HI} {n h o w v : Int} (q : SpP hi h2 n h 64 w v) : DoC hi h2 12 n h o w v := Or.inl ⟨rfl, q⟩
theorem DoC.span {hi h2 : HI} {n h o w v : Int} (q : SpP hi h2 n h o w v) : DoC hi h2 13 n h o w v := Or.inr (Or.inl ⟨rfl, q⟩)
theorem DoC.died {hi h2 : HI} {n h o w v : Int} (q : C_died hi h2 n h v) : DoC hi h2 15 n h o w v := Or.inr (Or.inr (Or.inl ⟨rfl, q⟩))
theorem DoC.unborn {hi h2 : HI} {n h o w v : Int} (q : C_unborn hi h2 n h v) : DoC hi h2 16 n h o w v := Or.inr (Or.inr (Or.inr (Or.inl ⟨rfl, q⟩)))
theorem DoC.revived {hi h2 : HI} {n h o w v : Int} (q : C_revived hi h2 n h v) : DoC hi h2 17 n h o w v := Or.inr (Or.inr (Or.inr (Or.inr (Or.inl ⟨rfl, q⟩))))
theorem DoC.shifted {hi h2 : HI} {n h o w v : Int} (q : C_shifted hi h2 n h o v) : DoC hi h2 18 n h o w v := Or.inr (Or.inr (Or.inr (Or.inr (Or.inr (Or.inl ⟨rfl, q⟩)))))
theorem DoC.worthed {hi h2 : HI} {n h o w v : Int} (q : C_worthed hi h2 n h w v) : DoC hi h2 34 n h o w v := Or.inr (Or.inr (Or.inr (Or.inr (Or.inr (Or.inr (Or.inl ⟨rfl, q⟩))))))
theorem DoC.lock {hi h2 : HI} {n h o w v : Int} (q : ∃ u, C_lock hi h2 h u ∧ v = (if u = -1 then 1 else 0)) : DoC hi h2 21 n h o w v := Or.inr (Or.inr (Or.inr (Or.inr (Or.inr (Or.inr (Or.inr (Or.inl ⟨rfl, q⟩)))))))
theorem DoC.undo {hi h2 : HI} {n h o w v : Int} (q : ∃ u, C_undo hi h2 u ∧ v = (if u = -1 then 2 else 0)) : DoC hi h2 22 n h o w v := Or.inr (Or.inr (Or.inr (Or.inr (Or.inr (Or.inr (Or.inr (Or.inr (⟨rfl, q⟩))))))))
theorem ChP.cx {hi h2 : HI} {k b d v : Int} (h : CX hi) (hk : 0 ≤ k ∧ k < hi 2 1) (hb : 0 ≤ b ∧ d ≤ 64) (c : ChP hi h2 k b d v) : CX h2 := by
  rcases c with ⟨-, -, e⟩ | ⟨-, -, -, e⟩ | ⟨-, -, nc, f2, cf, e⟩
  · rw [e]; exact h
  · rw [e]; exact h
  · obtain ⟨a1, a2, a3⟩ := chf_ri h.1.1 hk cf hb nc
    exact h.push e ⟨a1, by rw [a2]; exact h.1.2⟩
theorem SpP.cx {hi h2 : HI} {x b d w v : Int} (h : CX hi) (c : SpP hi h2 x b d w v) : CX h2 := by
  rcases c with ⟨-, -, e⟩ | ⟨hb, ⟨-, -, e⟩ | ⟨-, -, -, e⟩ | ⟨-, -, -, -, e⟩ | ⟨-, -, nc, n40, p, f2, pl, ins, e⟩⟩
  · rw [e]; exact h
  · rw [e]; exact h
  · rw [e]; exact h
  · rw [e]; exact h
  · obtain ⟨a1, a2, a3⟩ := ins_set h.1.1 n40 pl ins hb.1 ⟨hb.2.1.1, hb.2.2.2⟩ hb.2.2.1 nc
    exact h.push e ⟨a1, by rw [a2]; exact h.1.2⟩
theorem setW_ri {f : Nat → Int} {n k w : Int} (h : RI f n) (k0 : 0 ≤ k) (hw : 0 ≤ w ∧ w ≤ 99) : RI (updI f (2 + 4 * k.toNat + 3) w) n := by
  have key : ∀ z, 0 ≤ z → nO (updI f (2 + 4 * k.toNat + 3) w) z = nO f z ∧ bO (updI f (2 + 4 * k.toNat + 3) w) z = bO f z ∧ dO (updI f (2 + 4 * k.toNat + 3) w) z = dO f z ∧ wO (updI f (2 + 4 * k.toNat + 3) w) z = (if z = k then w else wO f z) := fun z z0 => by
    refine ⟨updI_ne _ _ (by omega), updI_ne _ _ (by omega), updI_ne _ _ (by omega), ?_⟩
    by_cases q : z = k
    · rw [if_pos q]; subst q; exact updI_same _ _ _
    · rw [if_neg q]; exact updI_ne _ _ (by omega)
  refine ⟨h.1, fun z z0 z1 => ?_, fun z z0 z1 => ?_⟩
  · obtain ⟨a1, a2, a3, a4⟩ := key z z0
    rw [a1, a2, a3, a4]
    refine ⟨(h.2.1 z z0 z1).1, (h.2.1 z z0 z1).2.1, ?_⟩
    split
    · exact hw
    · exact (h.2.1 z z0 z1).2.2
  · obtain ⟨a1, a2, a3, a4⟩ := key z z0
    obtain ⟨b1, b2, b3, b4⟩ := key (z + 1) (by omega)
    rw [a1, a3, b1, b2]; exact h.2.2 z z0 z1
theorem C_worthed.cx {hi h2 : HI} {x h w v : Int} (hc : CX hi) (c : C_worthed hi h2 x h w v) : CX h2 := by
  rcases c with ⟨-, -, e⟩ | ⟨hb, k, hk, ⟨-, -, e⟩ | ⟨k0, ⟨-, -, e⟩ | ⟨-, -, -, e⟩ | ⟨-, -, -, e⟩⟩⟩
  · rw [e]; exact hc
  · rw [e]; exact hc
  · rw [e]; exact hc
  · rw [e]; exact hc
  · refine hc.push e ⟨?_, ?_⟩
    · rw [updI_ne _ _ (by omega)]; exact setW_ri hc.1.1 k0 hb.2.2
    · rw [updI_ne _ _ (by omega)]; exact hc.1.2
theorem CX.lock {hi : HI} {x : Int} (h : CX hi) (hx : 0 ≤ x ∧ x ≤ 64) : CX (hput hi 2 (updI (hi 2) 0 x)) := by
  have b := rg_bd
  unfold CX
  rw [hput_same, hput_ne _ _ (show 3 ≠ 2 by decide), hput_ne _ _ (show 28 ≠ 2 by decide)]
  refine ⟨⟨?_, ?_⟩, h.2.1, fun j j0 j1 => ?_, fun k k2 k0 => ?_⟩
  · rw [updI_ne _ _ (show 1 ≠ 0 by decide)]
    exact h.1.1.same (fun z z0 z1 => ⟨updI_ne _ _ (by omega), updI_ne _ _ (by omega), updI_ne _ _ (by omega), updI_ne _ _ (by omega)⟩)
  · rw [updI_same]; exact hx
  · have q := b (hi 3 2) j
    rw [hput_ne _ _ (by omega)]; exact h.2.2.1 j j0 j1
  · rw [hput_ne _ _ (by omega)]; exact h.2.2.2 k k2 k0
theorem DoC.cx {hi h2 : HI} {ve n h o w v : Int} (hc : CX hi) (c : DoC hi h2 ve n h o w v) : CX h2 := by
  have b3 := hc.1.1.1
  have pos : ∀ {Q : Int → Prop} {k : Int}, Fst Q (hi 2 1) k → 0 ≤ k → (0 ≤ k ∧ k < hi 2 1) ∧ ((0 ≤ nO (hi 2) k ∧ nO (hi 2) k ≤ 999) ∧ (0 ≤ bO (hi 2) k ∧ bO (hi 2) k < dO (hi 2) k ∧ dO (hi 2) k ≤ 64) ∧ 0 ≤ wO (hi 2) k ∧ wO (hi 2) k ≤ 99) := fun q k0 => ⟨⟨k0, (q.pos k0).1⟩, hc.1.1.2.1 _ k0 (q.pos k0).1⟩
  rcases c with ⟨-, q⟩ | ⟨-, q⟩ | ⟨-, q⟩ | ⟨-, q⟩ | ⟨-, q⟩ | ⟨-, q⟩ | ⟨-, q⟩ | ⟨-, u, q, -⟩ | ⟨-, u, q, -⟩
  · exact SpP.cx hc q
  · exact SpP.cx hc q
  · rcases q with ⟨-, -, e⟩ | ⟨hb, k, hk, ⟨-, -, e⟩ | ⟨k0, q⟩⟩
    · rw [e]; exact hc
    · rw [e]; exact hc
    · obtain ⟨p1, p2⟩ := pos hk k0
      exact ChP.cx hc p1 (by omega) q
  · rcases q with ⟨-, -, e⟩ | ⟨hb, k, hk, ⟨-, -, e⟩ | ⟨k0, q⟩⟩
    · rw [e]; exact hc
    · rw [e]; exact hc
    · obtain ⟨p1, p2⟩ := pos hk k0
      exact ChP.cx hc p1 (by omega) q
  · rcases q with ⟨-, -, e⟩ | ⟨hb, k, hk, ⟨-, -, e⟩ | ⟨k0, q⟩⟩
    · rw [e]; exact hc
    · rw [e]; exact hc
    · obtain ⟨p1, p2⟩ := pos hk k0
      exact ChP.cx hc p1 (by omega) q
  · rcases q with ⟨-, -, e⟩ | ⟨hb, k, hk, ⟨-, -, e⟩ | ⟨k0, ⟨-, -, e⟩ | ⟨hb2, q⟩⟩⟩
    · rw [e]; exact hc
    · rw [e]; exact hc
    · rw [e]; exact hc
    · obtain ⟨p1, p2⟩ := pos hk k0
      exact ChP.cx hc p1 ⟨hb2.1.1, hb2.2⟩ q
  · exact C_worthed.cx hc q
  · rcases q with ⟨-, -, e⟩ | ⟨hb, -, e⟩
    · rw [e]; exact hc
    · rw [e]; exact hc.lock hb
  · rcases q with ⟨-, -, e⟩ | ⟨h0, -, e⟩
    · rw [e]; exact hc
    · exact hc.pop h0 e
def DoCL (h1 h2 : HI) (R : LR) (v : Int) : Prop := DoC h1 h2 R.2.2.1 R.2.2.2.1 R.2.2.2.2.1 R.2.2.2.2.2.1 R.2.2.2.2.2.2 v
def RunC (S P V : Nat → Int) (h0 : HI) : Nat → HI → Int × Int × Int → Prop
  | 0, h, r => EqC h0 h ∧ r = (0, -1, 0)
  | k + 1, h, r => ∃ (h1 h2 : HI) (r1 : Int × Int × Int) (v : Int), RunC S P V h0 k h1 r1 ∧ (Fr [2, 3, 5, 6, 7, 8, 9, 10, 11, 12, 13, 14, 15, 16, 17, 18, 19, 20, 21, 22, 23, 24] h1 h2 ∧ DoCL h1 h2 (lnF S P V (cs S P V k)) v) ∧ EqC h2 h ∧ r = rnS r1 k v
theorem RunC.cx {S P V : Nat → Int} {h0 : HI} (hm : CX h0) : ∀ {k : Nat} {h : HI} {r : Int × Int × Int}, RunC S P V h0 k h r → CX h
  | 0, _, _, q => hm.eq q.1
  | _ + 1, _, _, ⟨_, _, _, _, a, ⟨_, c⟩, d, _⟩ => (DoC.cx (RunC.cx hm a) c).eq d
theorem RunC.bd {S P V : Nat → Int} {h0 : HI} : ∀ {k : Nat} {h : HI} {r : Int × Int × Int}, RunC S P V h0 k h r → 0 ≤ r.1 ∧ r.1 ≤ k
  | 0, _, _, q => by rw [q.2]; decide
  | k + 1, _, _, ⟨_, _, r1, v, a, _, _, e⟩ => by
    have := RunC.bd a
    rw [e]; unfold rnS
    split
    · omega
    · split
      · show 0 ≤ (1 : Int) ∧ (1 : Int) ≤ _; omega
      · show 0 ≤ r1.1 + 1 ∧ r1.1 + 1 ≤ _; omega
theorem runC_step {S P V : Nat → Int} {h0 h h1 h2 h3 : HI} {k k' v : Int} {r : Int × Int × Int} (hk : k' = k + 1) (k0 : 0 ≤ k) (q : RunC S P V h0 k.toNat h r) (e0 : EqC h h1) (f : Fr [2, 3, 5, 6, 7, 8, 9, 10, 11, 12, 13, 14, 15, 16, 17, 18, 19, 20, 21, 22, 23, 24] h1 h2) (d : DoCL h1 h2 (lnF S P V (cs S P V k.toNat)) v) (e : EqC h2 h3) : RunC S P V h0 k'.toNat h3 (rnS r k v) := by
  rw [show k'.toNat = k.toNat + 1 by omega]
  refine ⟨h1, h2, r, v, ?_, ⟨f, d⟩, e, by rw [show ((k.toNat : Nat) : Int) = k by omega]⟩
  revert q
  generalize k.toNat = j
  intro q
  cases j with
  | zero => exact ⟨q.1.tr e0, q.2⟩
  | succ j =>
    obtain ⟨a, b, c, u, p1, p2, p3, p4⟩ := q
    exact ⟨a, b, c, u, p1, p2, p3.tr e0, p4⟩
theorem EqC.of {hi h2 : HI} {M : List Nat} (f : Fr M hi h2) (hM : ∀ i ∈ M, i = 0 ∨ 28 < i) : EqC hi h2 := fun i i0 i1 => f i (fun q => by have := hM i q; omega)
theorem ChP.rng {hi h2 : HI} {k b d v : Int} (c : ChP hi h2 k b d v) : 0 ≤ v ∧ v ≤ 6 := by
  rcases c with ⟨q, -⟩ | ⟨q, -⟩ | ⟨q, -⟩ <;> rw [q] <;> decide
theorem DoC.rng {hi h2 : HI} {ve n h o w v : Int} (c : DoC hi h2 ve n h o w v) : 0 ≤ v ∧ v ≤ 6 := by
  have lit : ∀ {a : Int}, v = a → 0 ≤ a ∧ a ≤ 6 → 0 ≤ v ∧ v ≤ 6 := fun e q => by rw [e]; exact q
  have sp : ∀ d, SpP hi h2 n h d w v → 0 ≤ v ∧ v ≤ 6 := fun d q => by
    rcases q with ⟨z, -⟩ | ⟨-, ⟨z, -⟩ | ⟨z, -⟩ | ⟨z, -⟩ | ⟨z, -⟩⟩ <;> exact lit z (by decide)
  rcases c with ⟨-, q⟩ | ⟨-, q⟩ | ⟨-, q⟩ | ⟨-, q⟩ | ⟨-, q⟩ | ⟨-, q⟩ | ⟨-, q⟩ | ⟨-, u, -, q⟩ | ⟨-, u, -, q⟩
  · exact sp _ q
  · exact sp _ q
  · rcases q with ⟨z, -⟩ | ⟨-, k, hk, ⟨-, z, -⟩ | ⟨-, z⟩⟩
    · exact lit z (by decide)
    · exact lit z (by decide)
    · exact z.rng
  · rcases q with ⟨z, -⟩ | ⟨-, k, hk, ⟨-, z, -⟩ | ⟨-, z⟩⟩
    · exact lit z (by decide)
    · exact lit z (by decide)
    · exact z.rng
  · rcases q with ⟨z, -⟩ | ⟨-, k, hk, ⟨-, z, -⟩ | ⟨-, z⟩⟩
    · exact lit z (by decide)
    · exact lit z (by decide)
    · exact z.rng
  · rcases q with ⟨z, -⟩ | ⟨-, k, hk, ⟨-, z, -⟩ | ⟨-, ⟨z, -⟩ | ⟨-, z⟩⟩⟩
    · exact lit z (by decide)
    · exact lit z (by decide)
    · exact lit z (by decide)
    · exact z.rng
  · rcases q with ⟨z, -⟩ | ⟨-, k, hk, ⟨-, z, -⟩ | ⟨k0, ⟨z, -⟩ | ⟨z, -⟩ | ⟨z, -⟩⟩⟩ <;> exact lit z (by decide)
  · rw [q]; split <;> decide
  · rw [q]; split <;> decide

abbrev kX0_verb : Kd := (cX0_verb, .code yX0_verb cX0_verb 1 (some (.object "LateSet$Sign")) :: wsL_law0, rmL 1, RX0, (some (.object "LateSet$Sign")), 1)
theorem ct_X0_verb : Ct kX0_verb yX0_verb (fun a hi Q => a = [AR 35] ∧ (True) ∧ ∀ v : Int, (v = hi 34 1) → Q (AR (ec v)) hi) := by
  refine Ct.of (ws' := _) (by decide +kernel) rfl rfl ?_
  intro a hi Q hT
  obtain ⟨rfl, hpre, hQ⟩ := hT
  refine ⟨Nat.le_of_ble_eq_true rfl, ?_⟩
  show Z kX0_verb Q 0 [(0, AR 35)] [] hi
  refine z_aload_n (pc := 0) (x := 35) dX0_verb_0 rfl 0 rfl ?_
  refine z_getE (pc := 1) (pl := 34) (f := 1) (ci := 0) (C := RX0) (T := TX0) (N := 6) hu_X0 (by decide) rfl rfl (by decide) rfl (List.mem_cons_of_mem _ (iw4 _ (List.mem_of_getElem? (i := 4) rfl))) rfl dX0_verb_1 (fun v1 ev1 => ?_)
  refine z_aret (pc := 4) rfl dX0_verb_4 ?_
  exact hQ v1 (by assumption)

abbrev kX0_number : Kd := (cX0_number, .code yX0_number cX0_number 1 (some .int) :: wsL_law0, rmL 1, RX0, (some .int), 1)
theorem ct_X0_number : Ct kX0_number yX0_number (fun a hi Q => a = [AR 35] ∧ (True) ∧ ∀ v : Int, (v = hi 34 2 ∧ inR v) → Q (AI v) hi) := by
  refine Ct.of (ws' := _) (by decide +kernel) rfl rfl ?_
  intro a hi Q hT
  obtain ⟨rfl, hpre, hQ⟩ := hT
  refine ⟨Nat.le_of_ble_eq_true rfl, ?_⟩
  show Z kX0_number Q 0 [(0, AR 35)] [] hi
  refine z_aload_n (pc := 0) (x := 35) dX0_number_0 rfl 0 rfl ?_
  refine z_getI (pc := 1) (pl := 34) (f := 2) (ci := 0) (C := RX0) (T := TX0) (N := 6) hu_X0 (by decide) rfl rfl (by decide) rfl (List.mem_cons_of_mem _ (iw4 _ (List.mem_of_getElem? (i := 5) rfl))) rfl (by decide) dX0_number_1 (fun v1 ev1 rv1 => ?_)
  refine z_iret (pc := 4) rfl dX0_number_4 ?_
  exact hQ v1 (⟨ev1, rv1⟩)

abbrev kX0_hour : Kd := (cX0_hour, .code yX0_hour cX0_hour 1 (some .int) :: wsL_law0, rmL 1, RX0, (some .int), 1)
theorem ct_X0_hour : Ct kX0_hour yX0_hour (fun a hi Q => a = [AR 35] ∧ (True) ∧ ∀ v : Int, (v = hi 34 3 ∧ inR v) → Q (AI v) hi) := by
  refine Ct.of (ws' := _) (by decide +kernel) rfl rfl ?_
  intro a hi Q hT
  obtain ⟨rfl, hpre, hQ⟩ := hT
  refine ⟨Nat.le_of_ble_eq_true rfl, ?_⟩
  show Z kX0_hour Q 0 [(0, AR 35)] [] hi
  refine z_aload_n (pc := 0) (x := 35) dX0_hour_0 rfl 0 rfl ?_
  refine z_getI (pc := 1) (pl := 34) (f := 3) (ci := 0) (C := RX0) (T := TX0) (N := 6) hu_X0 (by decide) rfl rfl (by decide) rfl (List.mem_cons_of_mem _ (iw4 _ (List.mem_of_getElem? (i := 6) rfl))) rfl (by decide) dX0_hour_1 (fun v1 ev1 rv1 => ?_)
  refine z_iret (pc := 4) rfl dX0_hour_4 ?_
  exact hQ v1 (⟨ev1, rv1⟩)

abbrev kX0_other : Kd := (cX0_other, .code yX0_other cX0_other 1 (some .int) :: wsL_law0, rmL 1, RX0, (some .int), 1)
theorem ct_X0_other : Ct kX0_other yX0_other (fun a hi Q => a = [AR 35] ∧ (True) ∧ ∀ v : Int, (v = hi 34 4 ∧ inR v) → Q (AI v) hi) := by
  refine Ct.of (ws' := _) (by decide +kernel) rfl rfl ?_
  intro a hi Q hT
  obtain ⟨rfl, hpre, hQ⟩ := hT
  refine ⟨Nat.le_of_ble_eq_true rfl, ?_⟩
  show Z kX0_other Q 0 [(0, AR 35)] [] hi
  refine z_aload_n (pc := 0) (x := 35) dX0_other_0 rfl 0 rfl ?_
  refine z_getI (pc := 1) (pl := 34) (f := 4) (ci := 0) (C := RX0) (T := TX0) (N := 6) hu_X0 (by decide) rfl rfl (by decide) rfl (List.mem_cons_of_mem _ (iw4 _ (List.mem_of_getElem? (i := 7) rfl))) rfl (by decide) dX0_other_1 (fun v1 ev1 rv1 => ?_)
  refine z_iret (pc := 4) rfl dX0_other_4 ?_
  exact hQ v1 (⟨ev1, rv1⟩)

abbrev kX0_worth : Kd := (cX0_worth, .code yX0_worth cX0_worth 1 (some .int) :: wsL_law0, rmL 1, RX0, (some .int), 1)
theorem ct_X0_worth : Ct kX0_worth yX0_worth (fun a hi Q => a = [AR 35] ∧ (True) ∧ ∀ v : Int, (v = hi 34 5 ∧ inR v) → Q (AI v) hi) := by
  refine Ct.of (ws' := _) (by decide +kernel) rfl rfl ?_
  intro a hi Q hT
  obtain ⟨rfl, hpre, hQ⟩ := hT
  refine ⟨Nat.le_of_ble_eq_true rfl, ?_⟩
  show Z kX0_worth Q 0 [(0, AR 35)] [] hi
  refine z_aload_n (pc := 0) (x := 35) dX0_worth_0 rfl 0 rfl ?_
  refine z_getI (pc := 1) (pl := 34) (f := 5) (ci := 0) (C := RX0) (T := TX0) (N := 6) hu_X0 (by decide) rfl rfl (by decide) rfl (List.mem_cons_of_mem _ (iw4 _ (List.mem_of_getElem? (i := 8) rfl))) rfl (by decide) dX0_worth_1 (fun v1 ev1 rv1 => ?_)
  refine z_iret (pc := 4) rfl dX0_worth_4 ?_
  exact hQ v1 (⟨ev1, rv1⟩)

abbrev kX7_runLine : Kd := (cX7_runLine, .code yX7_runLine cX7_runLine 2 (some .int) :: wsL_law0, rmL 6, RX7, (some .int), 2)
theorem ct_X7_runLine : Ct kX7_runLine yX7_runLine (fun a hi Q => ∃ ve : Int, ∃ n : Int, ∃ h : Int, ∃ o : Int, ∃ w : Int, a = [AR 1] ∧ (CX hi ∧ LF hi ve n h o w ∧ (ve = 12 ∨ ve = 13 ∨ ve = 15 ∨ ve = 16 ∨ ve = 17 ∨ ve = 18 ∨ ve = 34 ∨ ve = 21 ∨ ve = 22)) ∧ ∀ (v : Int) (h2 : HI), (Fr [2, 3, 5, 6, 7, 8, 9, 10, 11, 12, 13, 14, 15, 16, 17, 18, 19, 20, 21, 22, 23, 24] hi h2 ∧ (DoC hi h2 ve n h o w v)) → Q (AI v) h2) := by
  refine Ct.of (ws' := _) (by decide +kernel) rfl rfl ?_
  intro a hi Q hT
  obtain ⟨ve, n, h, o, w, rfl, hpre, hQ⟩ := hT
  refine ⟨Nat.le_of_ble_eq_true rfl, ?_⟩
  show Z kX7_runLine Q 0 [(0, AR 1)] [] hi
  obtain ⟨l1, l2, l3, l4, l5⟩ := hpre.2.1
  have hve := hpre.2.2
  refine z_aload_n (pc := 0) (x := 1) dX7_runLine_0 rfl 0 rfl ?_
  refine z_getR (pc := 1) (pl := 0) (f := 5) (ci := 6) (C := RX7) (T := TX7) (N := 13) hu_X7 (by decide) rfl rfl (by decide) rfl (List.mem_cons_of_mem _ (iw2 _ (List.mem_of_getElem? (i := 9) rfl))) rfl dX7_runLine_1 ?_
  refine z_callV (pc := 4) (kc := kX0_verb) (n := 0) (pl := 34) (ci := 0) (C := RX0) (As := []) (stk := []) ct_X0_verb (gdV rfl rfl (iw25 _ (List.mem_of_getElem? (i := 17) rfl)) (iw25 _ (List.mem_of_getElem? (i := 18) rfl)) (iw25 _ (List.mem_of_getElem? (i := 19) rfl)) (iw2 _ (List.mem_of_getElem? (i := 8) rfl)) (iw25 _ (List.mem_of_getElem? (i := 20) rfl))) rfl ⟨rfl, rfl⟩ (by decide +kernel) ⟨by decide, by decide⟩ (by decide) rfl rfl dX7_runLine_4 rfl rfl (Nat.le_of_ble_eq_true rfl) ?_
  refine ⟨rfl, trivial, fun v1 ev1 => ?_⟩
  rw [l1] at ev1
  refine z_astore_n (pc := 7) (lv' := [(1, AR (ec v1)), (0, AR 1)]) dX7_runLine_7 rfl (by decide) (by unfold ec; split <;> omega) rfl ?_
  refine z_aload_n (pc := 8) (x := (ec v1)) dX7_runLine_8 rfl 0 rfl ?_
  refine z_getstE (pc := 9) (i := 12) (z := 12) (by decide) rfl (List.mem_cons_of_mem _ (iw25 _ (List.mem_of_getElem? (i := 9) rfl))) dX7_runLine_9 ?_
  refine z_acmp_ne (pc := 12) (tgt := 41) dX7_runLine_12 (by decide) (by omega) (by omega) (fun c2 => ?_) (fun c2 => ?_)
  · refine z_aload_n (pc := 41) (x := (ec v1)) dX7_runLine_41 rfl 0 rfl ?_
    refine z_getstE (pc := 42) (i := 13) (z := 13) (by decide) rfl (List.mem_cons_of_mem _ (iw25 _ (List.mem_of_getElem? (i := 10) rfl))) dX7_runLine_42 ?_
    refine z_acmp_ne (pc := 45) (tgt := 81) dX7_runLine_45 (by decide) (by omega) (by omega) (fun c3 => ?_) (fun c3 => ?_)
    · refine z_aload_n (pc := 81) (x := (ec v1)) dX7_runLine_81 rfl 0 rfl ?_
      refine z_getstE (pc := 82) (i := 15) (z := 15) (by decide) rfl (List.mem_cons_of_mem _ (iw25 _ (List.mem_of_getElem? (i := 11) rfl))) dX7_runLine_82 ?_
      refine z_acmp_ne (pc := 85) (tgt := 107) dX7_runLine_85 (by decide) (by omega) (by omega) (fun c4 => ?_) (fun c4 => ?_)
      · refine z_aload_n (pc := 107) (x := (ec v1)) dX7_runLine_107 rfl 0 rfl ?_
        refine z_getstE (pc := 108) (i := 16) (z := 16) (by decide) rfl (List.mem_cons_of_mem _ (iw25 _ (List.mem_of_getElem? (i := 12) rfl))) dX7_runLine_108 ?_
        refine z_acmp_ne (pc := 111) (tgt := 133) dX7_runLine_111 (by decide) (by omega) (by omega) (fun c5 => ?_) (fun c5 => ?_)
        · refine z_aload_n (pc := 133) (x := (ec v1)) dX7_runLine_133 rfl 0 rfl ?_
          refine z_getstE (pc := 134) (i := 17) (z := 17) (by decide) rfl (List.mem_cons_of_mem _ (iw25 _ (List.mem_of_getElem? (i := 13) rfl))) dX7_runLine_134 ?_
          refine z_acmp_ne (pc := 137) (tgt := 159) dX7_runLine_137 (by decide) (by omega) (by omega) (fun c6 => ?_) (fun c6 => ?_)
          · refine z_aload_n (pc := 159) (x := (ec v1)) dX7_runLine_159 rfl 0 rfl ?_
            refine z_getstE (pc := 160) (i := 18) (z := 18) (by decide) rfl (List.mem_cons_of_mem _ (iw25 _ (List.mem_of_getElem? (i := 14) rfl))) dX7_runLine_160 ?_
            refine z_acmp_ne (pc := 163) (tgt := 192) dX7_runLine_163 (by decide) (by omega) (by omega) (fun c7 => ?_) (fun c7 => ?_)
            · refine z_aload_n (pc := 192) (x := (ec v1)) dX7_runLine_192 rfl 0 rfl ?_
              refine z_getstE (pc := 193) (i := 34) (z := 34) (by decide) rfl (List.mem_cons_of_mem _ (iw25 _ (List.mem_of_getElem? (i := 15) rfl))) dX7_runLine_193 ?_
              refine z_acmp_ne (pc := 196) (tgt := 225) dX7_runLine_196 (by decide) (by omega) (by omega) (fun c8 => ?_) (fun c8 => ?_)
              · refine z_aload_n (pc := 225) (x := (ec v1)) dX7_runLine_225 rfl 0 rfl ?_
                refine z_getstE (pc := 226) (i := 21) (z := 21) (by decide) rfl (List.mem_cons_of_mem _ (iw25 _ (List.mem_of_getElem? (i := 16) rfl))) dX7_runLine_226 ?_
                refine z_acmp_ne (pc := 229) (tgt := 253) dX7_runLine_229 (by decide) (by omega) (by omega) (fun c9 => ?_) (fun c9 => ?_)
                · refine z_aload_n (pc := 253) (x := 1) dX7_runLine_253 rfl 1 rfl ?_
                  refine z_callV (pc := 254) (kc := kX7_undo) (n := 0) (pl := 0) (ci := 6) (C := RX7) (As := []) (stk := []) ct_X7_undo (gdV rfl rfl (iw26 _ (List.mem_of_getElem? (i := 20) rfl)) (iw15 _ (List.mem_of_getElem? (i := 15) rfl)) (iw15 _ (List.mem_of_getElem? (i := 16) rfl)) (iw1 _ (List.mem_of_getElem? (i := 2) rfl)) (iw15 _ (List.mem_of_getElem? (i := 17) rfl))) rfl ⟨rfl, rfl⟩ (by decide +kernel) ⟨by decide, by decide⟩ (by decide) rfl rfl dX7_runLine_254 rfl rfl (Nat.le_of_ble_eq_true rfl) ?_
                  refine ⟨rfl, hpre.1.2.1, fun v10 h11 eh11 => ?_⟩
                  have frh11 : Fr [2, 3, 5, 6, 7, 8, 9, 10, 11, 12, 13, 14, 15, 16, 17, 18, 19, 20, 21, 22, 23, 24] hi h11 := (Fr.call (Fr.rf) eh11.1 (by decide))
                  have es := eh11.2
                  have rs : inR v10 := by rcases es with q | q; rw [q.2.1]; exact ⟨by decide, by decide⟩; have q4 := hpre.1.2.1.1; exact ⟨by omega, by omega⟩
                  refine z_iconst (pc := 257) (v := (-1)) dX7_runLine_257 rfl ?_
                  refine z_icmp_ne (pc := 258) (tgt := 265) dX7_runLine_258 (by decide) ⟨by omega, by omega⟩ ⟨by decide, by decide⟩ (fun c12 => ?_) (fun c12 => ?_)
                  · refine z_iconst (pc := 265) (v := 0) dX7_runLine_265 rfl ?_
                    refine z_iret (pc := 266) rfl dX7_runLine_266 ?_
                    exact hQ 0 h11 ⟨frh11, by first | (obtain rfl : ve = 12 := (by omega); exact DoC.born (by rw [← a_n, ← a_h, ← a_w]; exact es)) | (obtain rfl : ve = 13 := (by omega); exact DoC.span (by rw [← a_n, ← a_h, ← a_o, ← a_w]; exact es)) | (obtain rfl : ve = 15 := (by omega); exact DoC.died (by rw [← a_n, ← a_h]; exact es)) | (obtain rfl : ve = 16 := (by omega); exact DoC.unborn (by rw [← a_n, ← a_h]; exact es)) | (obtain rfl : ve = 17 := (by omega); exact DoC.revived (by rw [← a_n, ← a_h]; exact es)) | (obtain rfl : ve = 18 := (by omega); exact DoC.shifted (by rw [← a_n, ← a_h, ← a_o]; exact es)) | (obtain rfl : ve = 34 := (by omega); exact DoC.worthed (by rw [← a_n, ← a_h, ← a_w]; exact es)) | (obtain rfl : ve = 21 := (by omega); exact DoC.lock ⟨_, by rw [← a_h]; exact es, by first | rw [if_pos (by omega)] | rw [if_neg (by omega)]⟩) | (obtain rfl : ve = 22 := (by omega); exact DoC.undo ⟨_, es, by first | rw [if_pos (by omega)] | rw [if_neg (by omega)]⟩)⟩
                  · refine z_iconst (pc := 261) (v := 2) dX7_runLine_261 rfl ?_
                    refine z_goto (pc := 262) (tgt := 266) dX7_runLine_262 (by decide) ?_
                    refine z_iret (pc := 266) rfl dX7_runLine_266 ?_
                    exact hQ 2 h11 ⟨frh11, by first | (obtain rfl : ve = 12 := (by omega); exact DoC.born (by rw [← a_n, ← a_h, ← a_w]; exact es)) | (obtain rfl : ve = 13 := (by omega); exact DoC.span (by rw [← a_n, ← a_h, ← a_o, ← a_w]; exact es)) | (obtain rfl : ve = 15 := (by omega); exact DoC.died (by rw [← a_n, ← a_h]; exact es)) | (obtain rfl : ve = 16 := (by omega); exact DoC.unborn (by rw [← a_n, ← a_h]; exact es)) | (obtain rfl : ve = 17 := (by omega); exact DoC.revived (by rw [← a_n, ← a_h]; exact es)) | (obtain rfl : ve = 18 := (by omega); exact DoC.shifted (by rw [← a_n, ← a_h, ← a_o]; exact es)) | (obtain rfl : ve = 34 := (by omega); exact DoC.worthed (by rw [← a_n, ← a_h, ← a_w]; exact es)) | (obtain rfl : ve = 21 := (by omega); exact DoC.lock ⟨_, by rw [← a_h]; exact es, by first | rw [if_pos (by omega)] | rw [if_neg (by omega)]⟩) | (obtain rfl : ve = 22 := (by omega); exact DoC.undo ⟨_, es, by first | rw [if_pos (by omega)] | rw [if_neg (by omega)]⟩)⟩
                · refine z_aload_n (pc := 232) (x := 1) dX7_runLine_232 rfl 1 rfl ?_
                  refine z_aload_n (pc := 233) (x := 1) dX7_runLine_233 rfl 1 rfl ?_
                  refine z_getR (pc := 234) (pl := 0) (f := 5) (ci := 6) (C := RX7) (T := TX7) (N := 13) hu_X7 (by decide) rfl rfl (by decide) rfl (List.mem_cons_of_mem _ (iw2 _ (List.mem_of_getElem? (i := 9) rfl))) rfl dX7_runLine_234 ?_
                  refine z_callV (pc := 237) (kc := kX0_hour) (n := 0) (pl := 34) (ci := 0) (C := RX0) (As := []) (stk := [AR 1]) ct_X0_hour (gdV rfl rfl (iw26 _ (List.mem_of_getElem? (i := 1) rfl)) (iw26 _ (List.mem_of_getElem? (i := 2) rfl)) (iw26 _ (List.mem_of_getElem? (i := 3) rfl)) (iw2 _ (List.mem_of_getElem? (i := 8) rfl)) (iw26 _ (List.mem_of_getElem? (i := 4) rfl))) rfl ⟨rfl, rfl⟩ (by decide +kernel) ⟨by decide, by decide⟩ (by decide) rfl rfl dX7_runLine_237 rfl rfl (Nat.le_of_ble_eq_true rfl) ?_
                  refine ⟨rfl, trivial, fun v13 ev13 => ?_⟩
                  have a_h : v13 = h := ev13.1.trans l3
                  refine z_callV (pc := 240) (kc := kX7_lock) (n := 1) (pl := 0) (ci := 6) (C := RX7) (As := [AI v13]) (stk := []) ct_X7_lock (gdV rfl rfl (iw26 _ (List.mem_of_getElem? (i := 19) rfl)) (iw15 _ (List.mem_of_getElem? (i := 3) rfl)) (iw15 _ (List.mem_of_getElem? (i := 4) rfl)) (iw1 _ (List.mem_of_getElem? (i := 2) rfl)) (iw15 _ (List.mem_of_getElem? (i := 5) rfl))) rfl ⟨rfl, rfl⟩ (by decide +kernel) ⟨by decide, by decide⟩ (by decide) rfl rfl dX7_runLine_240 rfl rfl (Nat.le_of_ble_eq_true rfl) ?_
                  refine ⟨_, rfl, ⟨by omega, by omega⟩, fun v14 h15 eh15 => ?_⟩
                  have frh15 : Fr [2, 3, 5, 6, 7, 8, 9, 10, 11, 12, 13, 14, 15, 16, 17, 18, 19, 20, 21, 22, 23, 24] hi h15 := (Fr.call (Fr.rf) eh15.1 (by decide))
                  have es := eh15.2
                  have rs : inR v14 := by rcases es with q | q; rw [q.1]; exact ⟨by decide, by decide⟩; have q4 := hpre.1.1.2; exact ⟨by omega, by omega⟩
                  refine z_iconst (pc := 243) (v := (-1)) dX7_runLine_243 rfl ?_
                  refine z_icmp_ne (pc := 244) (tgt := 251) dX7_runLine_244 (by decide) ⟨by omega, by omega⟩ ⟨by decide, by decide⟩ (fun c16 => ?_) (fun c16 => ?_)
                  · refine z_iconst (pc := 251) (v := 0) dX7_runLine_251 rfl ?_
                    refine z_iret (pc := 252) rfl dX7_runLine_252 ?_
                    exact hQ 0 h15 ⟨frh15, by first | (obtain rfl : ve = 12 := (by omega); exact DoC.born (by rw [← a_n, ← a_h, ← a_w]; exact es)) | (obtain rfl : ve = 13 := (by omega); exact DoC.span (by rw [← a_n, ← a_h, ← a_o, ← a_w]; exact es)) | (obtain rfl : ve = 15 := (by omega); exact DoC.died (by rw [← a_n, ← a_h]; exact es)) | (obtain rfl : ve = 16 := (by omega); exact DoC.unborn (by rw [← a_n, ← a_h]; exact es)) | (obtain rfl : ve = 17 := (by omega); exact DoC.revived (by rw [← a_n, ← a_h]; exact es)) | (obtain rfl : ve = 18 := (by omega); exact DoC.shifted (by rw [← a_n, ← a_h, ← a_o]; exact es)) | (obtain rfl : ve = 34 := (by omega); exact DoC.worthed (by rw [← a_n, ← a_h, ← a_w]; exact es)) | (obtain rfl : ve = 21 := (by omega); exact DoC.lock ⟨_, by rw [← a_h]; exact es, by first | rw [if_pos (by omega)] | rw [if_neg (by omega)]⟩) | (obtain rfl : ve = 22 := (by omega); exact DoC.undo ⟨_, es, by first | rw [if_pos (by omega)] | rw [if_neg (by omega)]⟩)⟩
                  · refine z_iconst (pc := 247) (v := 1) dX7_runLine_247 rfl ?_
                    refine z_goto (pc := 248) (tgt := 252) dX7_runLine_248 (by decide) ?_
                    refine z_iret (pc := 252) rfl dX7_runLine_252 ?_
                    exact hQ 1 h15 ⟨frh15, by first | (obtain rfl : ve = 12 := (by omega); exact DoC.born (by rw [← a_n, ← a_h, ← a_w]; exact es)) | (obtain rfl : ve = 13 := (by omega); exact DoC.span (by rw [← a_n, ← a_h, ← a_o, ← a_w]; exact es)) | (obtain rfl : ve = 15 := (by omega); exact DoC.died (by rw [← a_n, ← a_h]; exact es)) | (obtain rfl : ve = 16 := (by omega); exact DoC.unborn (by rw [← a_n, ← a_h]; exact es)) | (obtain rfl : ve = 17 := (by omega); exact DoC.revived (by rw [← a_n, ← a_h]; exact es)) | (obtain rfl : ve = 18 := (by omega); exact DoC.shifted (by rw [← a_n, ← a_h, ← a_o]; exact es)) | (obtain rfl : ve = 34 := (by omega); exact DoC.worthed (by rw [← a_n, ← a_h, ← a_w]; exact es)) | (obtain rfl : ve = 21 := (by omega); exact DoC.lock ⟨_, by rw [← a_h]; exact es, by first | rw [if_pos (by omega)] | rw [if_neg (by omega)]⟩) | (obtain rfl : ve = 22 := (by omega); exact DoC.undo ⟨_, es, by first | rw [if_pos (by omega)] | rw [if_neg (by omega)]⟩)⟩
              · refine z_aload_n (pc := 199) (x := 1) dX7_runLine_199 rfl 1 rfl ?_
                refine z_aload_n (pc := 200) (x := 1) dX7_runLine_200 rfl 1 rfl ?_
                refine z_getR (pc := 201) (pl := 0) (f := 5) (ci := 6) (C := RX7) (T := TX7) (N := 13) hu_X7 (by decide) rfl rfl (by decide) rfl (List.mem_cons_of_mem _ (iw2 _ (List.mem_of_getElem? (i := 9) rfl))) rfl dX7_runLine_201 ?_
                refine z_callV (pc := 204) (kc := kX0_number) (n := 0) (pl := 34) (ci := 0) (C := RX0) (As := []) (stk := [AR 1]) ct_X0_number (gdV rfl rfl (iw25 _ (List.mem_of_getElem? (i := 21) rfl)) (iw25 _ (List.mem_of_getElem? (i := 22) rfl)) (iw25 _ (List.mem_of_getElem? (i := 23) rfl)) (iw2 _ (List.mem_of_getElem? (i := 8) rfl)) (iw26 _ (List.mem_of_getElem? (i := 0) rfl))) rfl ⟨rfl, rfl⟩ (by decide +kernel) ⟨by decide, by decide⟩ (by decide) rfl rfl dX7_runLine_204 rfl rfl (Nat.le_of_ble_eq_true rfl) ?_
                refine ⟨rfl, trivial, fun v17 ev17 => ?_⟩
                have a_n : v17 = n := ev17.1.trans l2
                refine z_aload_n (pc := 207) (x := 1) dX7_runLine_207 rfl 1 rfl ?_
                refine z_getR (pc := 208) (pl := 0) (f := 5) (ci := 6) (C := RX7) (T := TX7) (N := 13) hu_X7 (by decide) rfl rfl (by decide) rfl (List.mem_cons_of_mem _ (iw2 _ (List.mem_of_getElem? (i := 9) rfl))) rfl dX7_runLine_208 ?_
                refine z_callV (pc := 211) (kc := kX0_hour) (n := 0) (pl := 34) (ci := 0) (C := RX0) (As := []) (stk := [AI v17, AR 1]) ct_X0_hour (gdV rfl rfl (iw26 _ (List.mem_of_getElem? (i := 1) rfl)) (iw26 _ (List.mem_of_getElem? (i := 2) rfl)) (iw26 _ (List.mem_of_getElem? (i := 3) rfl)) (iw2 _ (List.mem_of_getElem? (i := 8) rfl)) (iw26 _ (List.mem_of_getElem? (i := 4) rfl))) rfl ⟨rfl, rfl⟩ (by decide +kernel) ⟨by decide, by decide⟩ (by decide) rfl rfl dX7_runLine_211 rfl rfl (Nat.le_of_ble_eq_true rfl) ?_
                refine ⟨rfl, trivial, fun v18 ev18 => ?_⟩
                have a_h : v18 = h := ev18.1.trans l3
                refine z_aload_n (pc := 214) (x := 1) dX7_runLine_214 rfl 1 rfl ?_
                refine z_getR (pc := 215) (pl := 0) (f := 5) (ci := 6) (C := RX7) (T := TX7) (N := 13) hu_X7 (by decide) rfl rfl (by decide) rfl (List.mem_cons_of_mem _ (iw2 _ (List.mem_of_getElem? (i := 9) rfl))) rfl dX7_runLine_215 ?_
                refine z_callV (pc := 218) (kc := kX0_worth) (n := 0) (pl := 34) (ci := 0) (C := RX0) (As := []) (stk := [AI v18, AI v17, AR 1]) ct_X0_worth (gdV rfl rfl (iw26 _ (List.mem_of_getElem? (i := 5) rfl)) (iw26 _ (List.mem_of_getElem? (i := 6) rfl)) (iw26 _ (List.mem_of_getElem? (i := 7) rfl)) (iw2 _ (List.mem_of_getElem? (i := 8) rfl)) (iw26 _ (List.mem_of_getElem? (i := 8) rfl))) rfl ⟨rfl, rfl⟩ (by decide +kernel) ⟨by decide, by decide⟩ (by decide) rfl rfl dX7_runLine_218 rfl rfl (Nat.le_of_ble_eq_true rfl) ?_
                refine ⟨rfl, trivial, fun v19 ev19 => ?_⟩
                have a_w : v19 = w := ev19.1.trans l5
                refine z_callV (pc := 221) (kc := kX7_worthed) (n := 3) (pl := 0) (ci := 6) (C := RX7) (As := [AI v17, AI v18, AI v19]) (stk := []) ct_X7_worthed (gdV rfl rfl (iw26 _ (List.mem_of_getElem? (i := 18) rfl)) (iw14 _ (List.mem_of_getElem? (i := 15) rfl)) (iw14 _ (List.mem_of_getElem? (i := 16) rfl)) (iw1 _ (List.mem_of_getElem? (i := 2) rfl)) (iw14 _ (List.mem_of_getElem? (i := 17) rfl))) rfl ⟨rfl, rfl⟩ (by decide +kernel) ⟨by decide, by decide⟩ (by decide) rfl rfl dX7_runLine_221 rfl rfl (Nat.le_of_ble_eq_true rfl) ?_
                refine ⟨_, _, _, rfl, ⟨hpre.1.ci, ⟨by omega, by omega⟩, ⟨by omega, by omega⟩, ⟨by omega, by omega⟩⟩, fun v20 h21 eh21 => ?_⟩
                have frh21 : Fr [2, 3, 5, 6, 7, 8, 9, 10, 11, 12, 13, 14, 15, 16, 17, 18, 19, 20, 21, 22, 23, 24] hi h21 := (Fr.call (Fr.rf) eh21.1 (by decide))
                have es := eh21.2
                refine z_iret (pc := 224) rfl dX7_runLine_224 ?_
                exact hQ v20 h21 ⟨frh21, by first | (obtain rfl : ve = 12 := (by omega); exact DoC.born (by rw [← a_n, ← a_h, ← a_w]; exact es)) | (obtain rfl : ve = 13 := (by omega); exact DoC.span (by rw [← a_n, ← a_h, ← a_o, ← a_w]; exact es)) | (obtain rfl : ve = 15 := (by omega); exact DoC.died (by rw [← a_n, ← a_h]; exact es)) | (obtain rfl : ve = 16 := (by omega); exact DoC.unborn (by rw [← a_n, ← a_h]; exact es)) | (obtain rfl : ve = 17 := (by omega); exact DoC.revived (by rw [← a_n, ← a_h]; exact es)) | (obtain rfl : ve = 18 := (by omega); exact DoC.shifted (by rw [← a_n, ← a_h, ← a_o]; exact es)) | (obtain rfl : ve = 34 := (by omega); exact DoC.worthed (by rw [← a_n, ← a_h, ← a_w]; exact es)) | (obtain rfl : ve = 21 := (by omega); exact DoC.lock ⟨_, by rw [← a_h]; exact es, by first | rw [if_pos (by omega)] | rw [if_neg (by omega)]⟩) | (obtain rfl : ve = 22 := (by omega); exact DoC.undo ⟨_, es, by first | rw [if_pos (by omega)] | rw [if_neg (by omega)]⟩)⟩
            · refine z_aload_n (pc := 166) (x := 1) dX7_runLine_166 rfl 1 rfl ?_
              refine z_aload_n (pc := 167) (x := 1) dX7_runLine_167 rfl 1 rfl ?_
              refine z_getR (pc := 168) (pl := 0) (f := 5) (ci := 6) (C := RX7) (T := TX7) (N := 13) hu_X7 (by decide) rfl rfl (by decide) rfl (List.mem_cons_of_mem _ (iw2 _ (List.mem_of_getElem? (i := 9) rfl))) rfl dX7_runLine_168 ?_
              refine z_callV (pc := 171) (kc := kX0_number) (n := 0) (pl := 34) (ci := 0) (C := RX0) (As := []) (stk := [AR 1]) ct_X0_number (gdV rfl rfl (iw25 _ (List.mem_of_getElem? (i := 21) rfl)) (iw25 _ (List.mem_of_getElem? (i := 22) rfl)) (iw25 _ (List.mem_of_getElem? (i := 23) rfl)) (iw2 _ (List.mem_of_getElem? (i := 8) rfl)) (iw26 _ (List.mem_of_getElem? (i := 0) rfl))) rfl ⟨rfl, rfl⟩ (by decide +kernel) ⟨by decide, by decide⟩ (by decide) rfl rfl dX7_runLine_171 rfl rfl (Nat.le_of_ble_eq_true rfl) ?_
              refine ⟨rfl, trivial, fun v22 ev22 => ?_⟩
              have a_n : v22 = n := ev22.1.trans l2
              refine z_aload_n (pc := 174) (x := 1) dX7_runLine_174 rfl 1 rfl ?_
              refine z_getR (pc := 175) (pl := 0) (f := 5) (ci := 6) (C := RX7) (T := TX7) (N := 13) hu_X7 (by decide) rfl rfl (by decide) rfl (List.mem_cons_of_mem _ (iw2 _ (List.mem_of_getElem? (i := 9) rfl))) rfl dX7_runLine_175 ?_
              refine z_callV (pc := 178) (kc := kX0_hour) (n := 0) (pl := 34) (ci := 0) (C := RX0) (As := []) (stk := [AI v22, AR 1]) ct_X0_hour (gdV rfl rfl (iw26 _ (List.mem_of_getElem? (i := 1) rfl)) (iw26 _ (List.mem_of_getElem? (i := 2) rfl)) (iw26 _ (List.mem_of_getElem? (i := 3) rfl)) (iw2 _ (List.mem_of_getElem? (i := 8) rfl)) (iw26 _ (List.mem_of_getElem? (i := 4) rfl))) rfl ⟨rfl, rfl⟩ (by decide +kernel) ⟨by decide, by decide⟩ (by decide) rfl rfl dX7_runLine_178 rfl rfl (Nat.le_of_ble_eq_true rfl) ?_
              refine ⟨rfl, trivial, fun v23 ev23 => ?_⟩
              have a_h : v23 = h := ev23.1.trans l3
              refine z_aload_n (pc := 181) (x := 1) dX7_runLine_181 rfl 1 rfl ?_
              refine z_getR (pc := 182) (pl := 0) (f := 5) (ci := 6) (C := RX7) (T := TX7) (N := 13) hu_X7 (by decide) rfl rfl (by decide) rfl (List.mem_cons_of_mem _ (iw2 _ (List.mem_of_getElem? (i := 9) rfl))) rfl dX7_runLine_182 ?_
              refine z_callV (pc := 185) (kc := kX0_other) (n := 0) (pl := 34) (ci := 0) (C := RX0) (As := []) (stk := [AI v23, AI v22, AR 1]) ct_X0_other (gdV rfl rfl (iw26 _ (List.mem_of_getElem? (i := 10) rfl)) (iw26 _ (List.mem_of_getElem? (i := 11) rfl)) (iw26 _ (List.mem_of_getElem? (i := 12) rfl)) (iw2 _ (List.mem_of_getElem? (i := 8) rfl)) (iw26 _ (List.mem_of_getElem? (i := 13) rfl))) rfl ⟨rfl, rfl⟩ (by decide +kernel) ⟨by decide, by decide⟩ (by decide) rfl rfl dX7_runLine_185 rfl rfl (Nat.le_of_ble_eq_true rfl) ?_
              refine ⟨rfl, trivial, fun v24 ev24 => ?_⟩
              have a_o : v24 = o := ev24.1.trans l4
              refine z_callV (pc := 188) (kc := kX7_shifted) (n := 3) (pl := 0) (ci := 6) (C := RX7) (As := [AI v22, AI v23, AI v24]) (stk := []) ct_X7_shifted (gdV rfl rfl (iw26 _ (List.mem_of_getElem? (i := 17) rfl)) (iw14 _ (List.mem_of_getElem? (i := 5) rfl)) (iw14 _ (List.mem_of_getElem? (i := 6) rfl)) (iw1 _ (List.mem_of_getElem? (i := 2) rfl)) (iw14 _ (List.mem_of_getElem? (i := 7) rfl))) rfl ⟨rfl, rfl⟩ (by decide +kernel) ⟨by decide, by decide⟩ (by decide) rfl rfl dX7_runLine_188 rfl rfl (Nat.le_of_ble_eq_true rfl) ?_
              refine ⟨_, _, _, rfl, ⟨hpre.1.ci, ⟨by omega, by omega⟩, ⟨by omega, by omega⟩, ⟨by omega, by omega⟩⟩, fun v25 h26 eh26 => ?_⟩
              have frh26 : Fr [2, 3, 5, 6, 7, 8, 9, 10, 11, 12, 13, 14, 15, 16, 17, 18, 19, 20, 21, 22, 23, 24] hi h26 := (Fr.call (Fr.rf) eh26.1 (by decide))
              have es := eh26.2
              refine z_iret (pc := 191) rfl dX7_runLine_191 ?_
              exact hQ v25 h26 ⟨frh26, by first | (obtain rfl : ve = 12 := (by omega); exact DoC.born (by rw [← a_n, ← a_h, ← a_w]; exact es)) | (obtain rfl : ve = 13 := (by omega); exact DoC.span (by rw [← a_n, ← a_h, ← a_o, ← a_w]; exact es)) | (obtain rfl : ve = 15 := (by omega); exact DoC.died (by rw [← a_n, ← a_h]; exact es)) | (obtain rfl : ve = 16 := (by omega); exact DoC.unborn (by rw [← a_n, ← a_h]; exact es)) | (obtain rfl : ve = 17 := (by omega); exact DoC.revived (by rw [← a_n, ← a_h]; exact es)) | (obtain rfl : ve = 18 := (by omega); exact DoC.shifted (by rw [← a_n, ← a_h, ← a_o]; exact es)) | (obtain rfl : ve = 34 := (by omega); exact DoC.worthed (by rw [← a_n, ← a_h, ← a_w]; exact es)) | (obtain rfl : ve = 21 := (by omega); exact DoC.lock ⟨_, by rw [← a_h]; exact es, by first | rw [if_pos (by omega)] | rw [if_neg (by omega)]⟩) | (obtain rfl : ve = 22 := (by omega); exact DoC.undo ⟨_, es, by first | rw [if_pos (by omega)] | rw [if_neg (by omega)]⟩)⟩
          · refine z_aload_n (pc := 140) (x := 1) dX7_runLine_140 rfl 1 rfl ?_
            refine z_aload_n (pc := 141) (x := 1) dX7_runLine_141 rfl 1 rfl ?_
            refine z_getR (pc := 142) (pl := 0) (f := 5) (ci := 6) (C := RX7) (T := TX7) (N := 13) hu_X7 (by decide) rfl rfl (by decide) rfl (List.mem_cons_of_mem _ (iw2 _ (List.mem_of_getElem? (i := 9) rfl))) rfl dX7_runLine_142 ?_
            refine z_callV (pc := 145) (kc := kX0_number) (n := 0) (pl := 34) (ci := 0) (C := RX0) (As := []) (stk := [AR 1]) ct_X0_number (gdV rfl rfl (iw25 _ (List.mem_of_getElem? (i := 21) rfl)) (iw25 _ (List.mem_of_getElem? (i := 22) rfl)) (iw25 _ (List.mem_of_getElem? (i := 23) rfl)) (iw2 _ (List.mem_of_getElem? (i := 8) rfl)) (iw26 _ (List.mem_of_getElem? (i := 0) rfl))) rfl ⟨rfl, rfl⟩ (by decide +kernel) ⟨by decide, by decide⟩ (by decide) rfl rfl dX7_runLine_145 rfl rfl (Nat.le_of_ble_eq_true rfl) ?_
            refine ⟨rfl, trivial, fun v27 ev27 => ?_⟩
            have a_n : v27 = n := ev27.1.trans l2
            refine z_aload_n (pc := 148) (x := 1) dX7_runLine_148 rfl 1 rfl ?_
            refine z_getR (pc := 149) (pl := 0) (f := 5) (ci := 6) (C := RX7) (T := TX7) (N := 13) hu_X7 (by decide) rfl rfl (by decide) rfl (List.mem_cons_of_mem _ (iw2 _ (List.mem_of_getElem? (i := 9) rfl))) rfl dX7_runLine_149 ?_
            refine z_callV (pc := 152) (kc := kX0_hour) (n := 0) (pl := 34) (ci := 0) (C := RX0) (As := []) (stk := [AI v27, AR 1]) ct_X0_hour (gdV rfl rfl (iw26 _ (List.mem_of_getElem? (i := 1) rfl)) (iw26 _ (List.mem_of_getElem? (i := 2) rfl)) (iw26 _ (List.mem_of_getElem? (i := 3) rfl)) (iw2 _ (List.mem_of_getElem? (i := 8) rfl)) (iw26 _ (List.mem_of_getElem? (i := 4) rfl))) rfl ⟨rfl, rfl⟩ (by decide +kernel) ⟨by decide, by decide⟩ (by decide) rfl rfl dX7_runLine_152 rfl rfl (Nat.le_of_ble_eq_true rfl) ?_
            refine ⟨rfl, trivial, fun v28 ev28 => ?_⟩
            have a_h : v28 = h := ev28.1.trans l3
            refine z_callV (pc := 155) (kc := kX7_revived) (n := 2) (pl := 0) (ci := 6) (C := RX7) (As := [AI v27, AI v28]) (stk := []) ct_X7_revived (gdV rfl rfl (iw26 _ (List.mem_of_getElem? (i := 16) rfl)) (iw13 _ (List.mem_of_getElem? (i := 17) rfl)) (iw13 _ (List.mem_of_getElem? (i := 18) rfl)) (iw1 _ (List.mem_of_getElem? (i := 2) rfl)) (iw13 _ (List.mem_of_getElem? (i := 19) rfl))) rfl ⟨rfl, rfl⟩ (by decide +kernel) ⟨by decide, by decide⟩ (by decide) rfl rfl dX7_runLine_155 rfl rfl (Nat.le_of_ble_eq_true rfl) ?_
            refine ⟨_, _, rfl, ⟨hpre.1.ci, ⟨by omega, by omega⟩, ⟨by omega, by omega⟩⟩, fun v29 h30 eh30 => ?_⟩
            have frh30 : Fr [2, 3, 5, 6, 7, 8, 9, 10, 11, 12, 13, 14, 15, 16, 17, 18, 19, 20, 21, 22, 23, 24] hi h30 := (Fr.call (Fr.rf) eh30.1 (by decide))
            have es := eh30.2
            refine z_iret (pc := 158) rfl dX7_runLine_158 ?_
            exact hQ v29 h30 ⟨frh30, by first | (obtain rfl : ve = 12 := (by omega); exact DoC.born (by rw [← a_n, ← a_h, ← a_w]; exact es)) | (obtain rfl : ve = 13 := (by omega); exact DoC.span (by rw [← a_n, ← a_h, ← a_o, ← a_w]; exact es)) | (obtain rfl : ve = 15 := (by omega); exact DoC.died (by rw [← a_n, ← a_h]; exact es)) | (obtain rfl : ve = 16 := (by omega); exact DoC.unborn (by rw [← a_n, ← a_h]; exact es)) | (obtain rfl : ve = 17 := (by omega); exact DoC.revived (by rw [← a_n, ← a_h]; exact es)) | (obtain rfl : ve = 18 := (by omega); exact DoC.shifted (by rw [← a_n, ← a_h, ← a_o]; exact es)) | (obtain rfl : ve = 34 := (by omega); exact DoC.worthed (by rw [← a_n, ← a_h, ← a_w]; exact es)) | (obtain rfl : ve = 21 := (by omega); exact DoC.lock ⟨_, by rw [← a_h]; exact es, by first | rw [if_pos (by omega)] | rw [if_neg (by omega)]⟩) | (obtain rfl : ve = 22 := (by omega); exact DoC.undo ⟨_, es, by first | rw [if_pos (by omega)] | rw [if_neg (by omega)]⟩)⟩
        · refine z_aload_n (pc := 114) (x := 1) dX7_runLine_114 rfl 1 rfl ?_
          refine z_aload_n (pc := 115) (x := 1) dX7_runLine_115 rfl 1 rfl ?_
          refine z_getR (pc := 116) (pl := 0) (f := 5) (ci := 6) (C := RX7) (T := TX7) (N := 13) hu_X7 (by decide) rfl rfl (by decide) rfl (List.mem_cons_of_mem _ (iw2 _ (List.mem_of_getElem? (i := 9) rfl))) rfl dX7_runLine_116 ?_
          refine z_callV (pc := 119) (kc := kX0_number) (n := 0) (pl := 34) (ci := 0) (C := RX0) (As := []) (stk := [AR 1]) ct_X0_number (gdV rfl rfl (iw25 _ (List.mem_of_getElem? (i := 21) rfl)) (iw25 _ (List.mem_of_getElem? (i := 22) rfl)) (iw25 _ (List.mem_of_getElem? (i := 23) rfl)) (iw2 _ (List.mem_of_getElem? (i := 8) rfl)) (iw26 _ (List.mem_of_getElem? (i := 0) rfl))) rfl ⟨rfl, rfl⟩ (by decide +kernel) ⟨by decide, by decide⟩ (by decide) rfl rfl dX7_runLine_119 rfl rfl (Nat.le_of_ble_eq_true rfl) ?_
          refine ⟨rfl, trivial, fun v31 ev31 => ?_⟩
          have a_n : v31 = n := ev31.1.trans l2
          refine z_aload_n (pc := 122) (x := 1) dX7_runLine_122 rfl 1 rfl ?_
          refine z_getR (pc := 123) (pl := 0) (f := 5) (ci := 6) (C := RX7) (T := TX7) (N := 13) hu_X7 (by decide) rfl rfl (by decide) rfl (List.mem_cons_of_mem _ (iw2 _ (List.mem_of_getElem? (i := 9) rfl))) rfl dX7_runLine_123 ?_
          refine z_callV (pc := 126) (kc := kX0_hour) (n := 0) (pl := 34) (ci := 0) (C := RX0) (As := []) (stk := [AI v31, AR 1]) ct_X0_hour (gdV rfl rfl (iw26 _ (List.mem_of_getElem? (i := 1) rfl)) (iw26 _ (List.mem_of_getElem? (i := 2) rfl)) (iw26 _ (List.mem_of_getElem? (i := 3) rfl)) (iw2 _ (List.mem_of_getElem? (i := 8) rfl)) (iw26 _ (List.mem_of_getElem? (i := 4) rfl))) rfl ⟨rfl, rfl⟩ (by decide +kernel) ⟨by decide, by decide⟩ (by decide) rfl rfl dX7_runLine_126 rfl rfl (Nat.le_of_ble_eq_true rfl) ?_
          refine ⟨rfl, trivial, fun v32 ev32 => ?_⟩
          have a_h : v32 = h := ev32.1.trans l3
          refine z_callV (pc := 129) (kc := kX7_unborn) (n := 2) (pl := 0) (ci := 6) (C := RX7) (As := [AI v31, AI v32]) (stk := []) ct_X7_unborn (gdV rfl rfl (iw26 _ (List.mem_of_getElem? (i := 15) rfl)) (iw13 _ (List.mem_of_getElem? (i := 9) rfl)) (iw13 _ (List.mem_of_getElem? (i := 10) rfl)) (iw1 _ (List.mem_of_getElem? (i := 2) rfl)) (iw13 _ (List.mem_of_getElem? (i := 11) rfl))) rfl ⟨rfl, rfl⟩ (by decide +kernel) ⟨by decide, by decide⟩ (by decide) rfl rfl dX7_runLine_129 rfl rfl (Nat.le_of_ble_eq_true rfl) ?_
          refine ⟨_, _, rfl, ⟨hpre.1.ci, ⟨by omega, by omega⟩, ⟨by omega, by omega⟩⟩, fun v33 h34 eh34 => ?_⟩
          have frh34 : Fr [2, 3, 5, 6, 7, 8, 9, 10, 11, 12, 13, 14, 15, 16, 17, 18, 19, 20, 21, 22, 23, 24] hi h34 := (Fr.call (Fr.rf) eh34.1 (by decide))
          have es := eh34.2
          refine z_iret (pc := 132) rfl dX7_runLine_132 ?_
          exact hQ v33 h34 ⟨frh34, by first | (obtain rfl : ve = 12 := (by omega); exact DoC.born (by rw [← a_n, ← a_h, ← a_w]; exact es)) | (obtain rfl : ve = 13 := (by omega); exact DoC.span (by rw [← a_n, ← a_h, ← a_o, ← a_w]; exact es)) | (obtain rfl : ve = 15 := (by omega); exact DoC.died (by rw [← a_n, ← a_h]; exact es)) | (obtain rfl : ve = 16 := (by omega); exact DoC.unborn (by rw [← a_n, ← a_h]; exact es)) | (obtain rfl : ve = 17 := (by omega); exact DoC.revived (by rw [← a_n, ← a_h]; exact es)) | (obtain rfl : ve = 18 := (by omega); exact DoC.shifted (by rw [← a_n, ← a_h, ← a_o]; exact es)) | (obtain rfl : ve = 34 := (by omega); exact DoC.worthed (by rw [← a_n, ← a_h, ← a_w]; exact es)) | (obtain rfl : ve = 21 := (by omega); exact DoC.lock ⟨_, by rw [← a_h]; exact es, by first | rw [if_pos (by omega)] | rw [if_neg (by omega)]⟩) | (obtain rfl : ve = 22 := (by omega); exact DoC.undo ⟨_, es, by first | rw [if_pos (by omega)] | rw [if_neg (by omega)]⟩)⟩
      · refine z_aload_n (pc := 88) (x := 1) dX7_runLine_88 rfl 1 rfl ?_
        refine z_aload_n (pc := 89) (x := 1) dX7_runLine_89 rfl 1 rfl ?_
        refine z_getR (pc := 90) (pl := 0) (f := 5) (ci := 6) (C := RX7) (T := TX7) (N := 13) hu_X7 (by decide) rfl rfl (by decide) rfl (List.mem_cons_of_mem _ (iw2 _ (List.mem_of_getElem? (i := 9) rfl))) rfl dX7_runLine_90 ?_
        refine z_callV (pc := 93) (kc := kX0_number) (n := 0) (pl := 34) (ci := 0) (C := RX0) (As := []) (stk := [AR 1]) ct_X0_number (gdV rfl rfl (iw25 _ (List.mem_of_getElem? (i := 21) rfl)) (iw25 _ (List.mem_of_getElem? (i := 22) rfl)) (iw25 _ (List.mem_of_getElem? (i := 23) rfl)) (iw2 _ (List.mem_of_getElem? (i := 8) rfl)) (iw26 _ (List.mem_of_getElem? (i := 0) rfl))) rfl ⟨rfl, rfl⟩ (by decide +kernel) ⟨by decide, by decide⟩ (by decide) rfl rfl dX7_runLine_93 rfl rfl (Nat.le_of_ble_eq_true rfl) ?_
        refine ⟨rfl, trivial, fun v35 ev35 => ?_⟩
        have a_n : v35 = n := ev35.1.trans l2
        refine z_aload_n (pc := 96) (x := 1) dX7_runLine_96 rfl 1 rfl ?_
        refine z_getR (pc := 97) (pl := 0) (f := 5) (ci := 6) (C := RX7) (T := TX7) (N := 13) hu_X7 (by decide) rfl rfl (by decide) rfl (List.mem_cons_of_mem _ (iw2 _ (List.mem_of_getElem? (i := 9) rfl))) rfl dX7_runLine_97 ?_
        refine z_callV (pc := 100) (kc := kX0_hour) (n := 0) (pl := 34) (ci := 0) (C := RX0) (As := []) (stk := [AI v35, AR 1]) ct_X0_hour (gdV rfl rfl (iw26 _ (List.mem_of_getElem? (i := 1) rfl)) (iw26 _ (List.mem_of_getElem? (i := 2) rfl)) (iw26 _ (List.mem_of_getElem? (i := 3) rfl)) (iw2 _ (List.mem_of_getElem? (i := 8) rfl)) (iw26 _ (List.mem_of_getElem? (i := 4) rfl))) rfl ⟨rfl, rfl⟩ (by decide +kernel) ⟨by decide, by decide⟩ (by decide) rfl rfl dX7_runLine_100 rfl rfl (Nat.le_of_ble_eq_true rfl) ?_
        refine ⟨rfl, trivial, fun v36 ev36 => ?_⟩
        have a_h : v36 = h := ev36.1.trans l3
        refine z_callV (pc := 103) (kc := kX7_died) (n := 2) (pl := 0) (ci := 6) (C := RX7) (As := [AI v35, AI v36]) (stk := []) ct_X7_died (gdV rfl rfl (iw26 _ (List.mem_of_getElem? (i := 14) rfl)) (iw11 _ (List.mem_of_getElem? (i := 15) rfl)) (iw11 _ (List.mem_of_getElem? (i := 16) rfl)) (iw1 _ (List.mem_of_getElem? (i := 2) rfl)) (iw11 _ (List.mem_of_getElem? (i := 17) rfl))) rfl ⟨rfl, rfl⟩ (by decide +kernel) ⟨by decide, by decide⟩ (by decide) rfl rfl dX7_runLine_103 rfl rfl (Nat.le_of_ble_eq_true rfl) ?_
        refine ⟨_, _, rfl, ⟨hpre.1.ci, ⟨by omega, by omega⟩, ⟨by omega, by omega⟩⟩, fun v37 h38 eh38 => ?_⟩
        have frh38 : Fr [2, 3, 5, 6, 7, 8, 9, 10, 11, 12, 13, 14, 15, 16, 17, 18, 19, 20, 21, 22, 23, 24] hi h38 := (Fr.call (Fr.rf) eh38.1 (by decide))
        have es := eh38.2
        refine z_iret (pc := 106) rfl dX7_runLine_106 ?_
        exact hQ v37 h38 ⟨frh38, by first | (obtain rfl : ve = 12 := (by omega); exact DoC.born (by rw [← a_n, ← a_h, ← a_w]; exact es)) | (obtain rfl : ve = 13 := (by omega); exact DoC.span (by rw [← a_n, ← a_h, ← a_o, ← a_w]; exact es)) | (obtain rfl : ve = 15 := (by omega); exact DoC.died (by rw [← a_n, ← a_h]; exact es)) | (obtain rfl : ve = 16 := (by omega); exact DoC.unborn (by rw [← a_n, ← a_h]; exact es)) | (obtain rfl : ve = 17 := (by omega); exact DoC.revived (by rw [← a_n, ← a_h]; exact es)) | (obtain rfl : ve = 18 := (by omega); exact DoC.shifted (by rw [← a_n, ← a_h, ← a_o]; exact es)) | (obtain rfl : ve = 34 := (by omega); exact DoC.worthed (by rw [← a_n, ← a_h, ← a_w]; exact es)) | (obtain rfl : ve = 21 := (by omega); exact DoC.lock ⟨_, by rw [← a_h]; exact es, by first | rw [if_pos (by omega)] | rw [if_neg (by omega)]⟩) | (obtain rfl : ve = 22 := (by omega); exact DoC.undo ⟨_, es, by first | rw [if_pos (by omega)] | rw [if_neg (by omega)]⟩)⟩
    · refine z_aload_n (pc := 48) (x := 1) dX7_runLine_48 rfl 1 rfl ?_
      refine z_aload_n (pc := 49) (x := 1) dX7_runLine_49 rfl 1 rfl ?_
      refine z_getR (pc := 50) (pl := 0) (f := 5) (ci := 6) (C := RX7) (T := TX7) (N := 13) hu_X7 (by decide) rfl rfl (by decide) rfl (List.mem_cons_of_mem _ (iw2 _ (List.mem_of_getElem? (i := 9) rfl))) rfl dX7_runLine_50 ?_
      refine z_callV (pc := 53) (kc := kX0_number) (n := 0) (pl := 34) (ci := 0) (C := RX0) (As := []) (stk := [AR 1]) ct_X0_number (gdV rfl rfl (iw25 _ (List.mem_of_getElem? (i := 21) rfl)) (iw25 _ (List.mem_of_getElem? (i := 22) rfl)) (iw25 _ (List.mem_of_getElem? (i := 23) rfl)) (iw2 _ (List.mem_of_getElem? (i := 8) rfl)) (iw26 _ (List.mem_of_getElem? (i := 0) rfl))) rfl ⟨rfl, rfl⟩ (by decide +kernel) ⟨by decide, by decide⟩ (by decide) rfl rfl dX7_runLine_53 rfl rfl (Nat.le_of_ble_eq_true rfl) ?_
      refine ⟨rfl, trivial, fun v39 ev39 => ?_⟩
      have a_n : v39 = n := ev39.1.trans l2
      refine z_aload_n (pc := 56) (x := 1) dX7_runLine_56 rfl 1 rfl ?_
      refine z_getR (pc := 57) (pl := 0) (f := 5) (ci := 6) (C := RX7) (T := TX7) (N := 13) hu_X7 (by decide) rfl rfl (by decide) rfl (List.mem_cons_of_mem _ (iw2 _ (List.mem_of_getElem? (i := 9) rfl))) rfl dX7_runLine_57 ?_
      refine z_callV (pc := 60) (kc := kX0_hour) (n := 0) (pl := 34) (ci := 0) (C := RX0) (As := []) (stk := [AI v39, AR 1]) ct_X0_hour (gdV rfl rfl (iw26 _ (List.mem_of_getElem? (i := 1) rfl)) (iw26 _ (List.mem_of_getElem? (i := 2) rfl)) (iw26 _ (List.mem_of_getElem? (i := 3) rfl)) (iw2 _ (List.mem_of_getElem? (i := 8) rfl)) (iw26 _ (List.mem_of_getElem? (i := 4) rfl))) rfl ⟨rfl, rfl⟩ (by decide +kernel) ⟨by decide, by decide⟩ (by decide) rfl rfl dX7_runLine_60 rfl rfl (Nat.le_of_ble_eq_true rfl) ?_
      refine ⟨rfl, trivial, fun v40 ev40 => ?_⟩
      have a_h : v40 = h := ev40.1.trans l3
      refine z_aload_n (pc := 63) (x := 1) dX7_runLine_63 rfl 1 rfl ?_
      refine z_getR (pc := 64) (pl := 0) (f := 5) (ci := 6) (C := RX7) (T := TX7) (N := 13) hu_X7 (by decide) rfl rfl (by decide) rfl (List.mem_cons_of_mem _ (iw2 _ (List.mem_of_getElem? (i := 9) rfl))) rfl dX7_runLine_64 ?_
      refine z_callV (pc := 67) (kc := kX0_other) (n := 0) (pl := 34) (ci := 0) (C := RX0) (As := []) (stk := [AI v40, AI v39, AR 1]) ct_X0_other (gdV rfl rfl (iw26 _ (List.mem_of_getElem? (i := 10) rfl)) (iw26 _ (List.mem_of_getElem? (i := 11) rfl)) (iw26 _ (List.mem_of_getElem? (i := 12) rfl)) (iw2 _ (List.mem_of_getElem? (i := 8) rfl)) (iw26 _ (List.mem_of_getElem? (i := 13) rfl))) rfl ⟨rfl, rfl⟩ (by decide +kernel) ⟨by decide, by decide⟩ (by decide) rfl rfl dX7_runLine_67 rfl rfl (Nat.le_of_ble_eq_true rfl) ?_
      refine ⟨rfl, trivial, fun v41 ev41 => ?_⟩
      have a_o : v41 = o := ev41.1.trans l4
      refine z_aload_n (pc := 70) (x := 1) dX7_runLine_70 rfl 1 rfl ?_
      refine z_getR (pc := 71) (pl := 0) (f := 5) (ci := 6) (C := RX7) (T := TX7) (N := 13) hu_X7 (by decide) rfl rfl (by decide) rfl (List.mem_cons_of_mem _ (iw2 _ (List.mem_of_getElem? (i := 9) rfl))) rfl dX7_runLine_71 ?_
      refine z_callV (pc := 74) (kc := kX0_worth) (n := 0) (pl := 34) (ci := 0) (C := RX0) (As := []) (stk := [AI v41, AI v40, AI v39, AR 1]) ct_X0_worth (gdV rfl rfl (iw26 _ (List.mem_of_getElem? (i := 5) rfl)) (iw26 _ (List.mem_of_getElem? (i := 6) rfl)) (iw26 _ (List.mem_of_getElem? (i := 7) rfl)) (iw2 _ (List.mem_of_getElem? (i := 8) rfl)) (iw26 _ (List.mem_of_getElem? (i := 8) rfl))) rfl ⟨rfl, rfl⟩ (by decide +kernel) ⟨by decide, by decide⟩ (by decide) rfl rfl dX7_runLine_74 rfl rfl (Nat.le_of_ble_eq_true rfl) ?_
      refine ⟨rfl, trivial, fun v42 ev42 => ?_⟩
      have a_w : v42 = w := ev42.1.trans l5
      refine z_callV (pc := 77) (kc := kX7_span) (n := 4) (pl := 0) (ci := 6) (C := RX7) (As := [AI v39, AI v40, AI v41, AI v42]) (stk := []) ct_X7_span (gdV rfl rfl (iw6 _ (List.mem_of_getElem? (i := 0) rfl)) (iw6 _ (List.mem_of_getElem? (i := 1) rfl)) (iw6 _ (List.mem_of_getElem? (i := 2) rfl)) (iw1 _ (List.mem_of_getElem? (i := 2) rfl)) (iw6 _ (List.mem_of_getElem? (i := 3) rfl))) rfl ⟨rfl, rfl⟩ (by decide +kernel) ⟨by decide, by decide⟩ (by decide) rfl rfl dX7_runLine_77 rfl rfl (Nat.le_of_ble_eq_true rfl) ?_
      refine ⟨_, _, _, _, rfl, ⟨hpre.1.ci, ⟨by omega, by omega⟩, ⟨by omega, by omega⟩, ⟨by omega, by omega⟩, ⟨by omega, by omega⟩⟩, fun v43 h44 eh44 => ?_⟩
      have frh44 : Fr [2, 3, 5, 6, 7, 8, 9, 10, 11, 12, 13, 14, 15, 16, 17, 18, 19, 20, 21, 22, 23, 24] hi h44 := (Fr.call (Fr.rf) eh44.1 (by decide))
      have es := eh44.2
      refine z_iret (pc := 80) rfl dX7_runLine_80 ?_
      exact hQ v43 h44 ⟨frh44, by first | (obtain rfl : ve = 12 := (by omega); exact DoC.born (by rw [← a_n, ← a_h, ← a_w]; exact es)) | (obtain rfl : ve = 13 := (by omega); exact DoC.span (by rw [← a_n, ← a_h, ← a_o, ← a_w]; exact es)) | (obtain rfl : ve = 15 := (by omega); exact DoC.died (by rw [← a_n, ← a_h]; exact es)) | (obtain rfl : ve = 16 := (by omega); exact DoC.unborn (by rw [← a_n, ← a_h]; exact es)) | (obtain rfl : ve = 17 := (by omega); exact DoC.revived (by rw [← a_n, ← a_h]; exact es)) | (obtain rfl : ve = 18 := (by omega); exact DoC.shifted (by rw [← a_n, ← a_h, ← a_o]; exact es)) | (obtain rfl : ve = 34 := (by omega); exact DoC.worthed (by rw [← a_n, ← a_h, ← a_w]; exact es)) | (obtain rfl : ve = 21 := (by omega); exact DoC.lock ⟨_, by rw [← a_h]; exact es, by first | rw [if_pos (by omega)] | rw [if_neg (by omega)]⟩) | (obtain rfl : ve = 22 := (by omega); exact DoC.undo ⟨_, es, by first | rw [if_pos (by omega)] | rw [if_neg (by omega)]⟩)⟩
  · refine z_aload_n (pc := 15) (x := 1) dX7_runLine_15 rfl 1 rfl ?_
    refine z_aload_n (pc := 16) (x := 1) dX7_runLine_16 rfl 1 rfl ?_
    refine z_getR (pc := 17) (pl := 0) (f := 5) (ci := 6) (C := RX7) (T := TX7) (N := 13) hu_X7 (by decide) rfl rfl (by decide) rfl (List.mem_cons_of_mem _ (iw2 _ (List.mem_of_getElem? (i := 9) rfl))) rfl dX7_runLine_17 ?_
    refine z_callV (pc := 20) (kc := kX0_number) (n := 0) (pl := 34) (ci := 0) (C := RX0) (As := []) (stk := [AR 1]) ct_X0_number (gdV rfl rfl (iw25 _ (List.mem_of_getElem? (i := 21) rfl)) (iw25 _ (List.mem_of_getElem? (i := 22) rfl)) (iw25 _ (List.mem_of_getElem? (i := 23) rfl)) (iw2 _ (List.mem_of_getElem? (i := 8) rfl)) (iw26 _ (List.mem_of_getElem? (i := 0) rfl))) rfl ⟨rfl, rfl⟩ (by decide +kernel) ⟨by decide, by decide⟩ (by decide) rfl rfl dX7_runLine_20 rfl rfl (Nat.le_of_ble_eq_true rfl) ?_
    refine ⟨rfl, trivial, fun v45 ev45 => ?_⟩
    have a_n : v45 = n := ev45.1.trans l2
    refine z_aload_n (pc := 23) (x := 1) dX7_runLine_23 rfl 1 rfl ?_
    refine z_getR (pc := 24) (pl := 0) (f := 5) (ci := 6) (C := RX7) (T := TX7) (N := 13) hu_X7 (by decide) rfl rfl (by decide) rfl (List.mem_cons_of_mem _ (iw2 _ (List.mem_of_getElem? (i := 9) rfl))) rfl dX7_runLine_24 ?_
    refine z_callV (pc := 27) (kc := kX0_hour) (n := 0) (pl := 34) (ci := 0) (C := RX0) (As := []) (stk := [AI v45, AR 1]) ct_X0_hour (gdV rfl rfl (iw26 _ (List.mem_of_getElem? (i := 1) rfl)) (iw26 _ (List.mem_of_getElem? (i := 2) rfl)) (iw26 _ (List.mem_of_getElem? (i := 3) rfl)) (iw2 _ (List.mem_of_getElem? (i := 8) rfl)) (iw26 _ (List.mem_of_getElem? (i := 4) rfl))) rfl ⟨rfl, rfl⟩ (by decide +kernel) ⟨by decide, by decide⟩ (by decide) rfl rfl dX7_runLine_27 rfl rfl (Nat.le_of_ble_eq_true rfl) ?_
    refine ⟨rfl, trivial, fun v46 ev46 => ?_⟩
    have a_h : v46 = h := ev46.1.trans l3
    refine z_aload_n (pc := 30) (x := 1) dX7_runLine_30 rfl 1 rfl ?_
    refine z_getR (pc := 31) (pl := 0) (f := 5) (ci := 6) (C := RX7) (T := TX7) (N := 13) hu_X7 (by decide) rfl rfl (by decide) rfl (List.mem_cons_of_mem _ (iw2 _ (List.mem_of_getElem? (i := 9) rfl))) rfl dX7_runLine_31 ?_
    refine z_callV (pc := 34) (kc := kX0_worth) (n := 0) (pl := 34) (ci := 0) (C := RX0) (As := []) (stk := [AI v46, AI v45, AR 1]) ct_X0_worth (gdV rfl rfl (iw26 _ (List.mem_of_getElem? (i := 5) rfl)) (iw26 _ (List.mem_of_getElem? (i := 6) rfl)) (iw26 _ (List.mem_of_getElem? (i := 7) rfl)) (iw2 _ (List.mem_of_getElem? (i := 8) rfl)) (iw26 _ (List.mem_of_getElem? (i := 8) rfl))) rfl ⟨rfl, rfl⟩ (by decide +kernel) ⟨by decide, by decide⟩ (by decide) rfl rfl dX7_runLine_34 rfl rfl (Nat.le_of_ble_eq_true rfl) ?_
    refine ⟨rfl, trivial, fun v47 ev47 => ?_⟩
    have a_w : v47 = w := ev47.1.trans l5
    refine z_callV (pc := 37) (kc := kX7_born) (n := 3) (pl := 0) (ci := 6) (C := RX7) (As := [AI v45, AI v46, AI v47]) (stk := []) ct_X7_born (gdV rfl rfl (iw26 _ (List.mem_of_getElem? (i := 9) rfl)) (iw5 _ (List.mem_of_getElem? (i := 21) rfl)) (iw5 _ (List.mem_of_getElem? (i := 22) rfl)) (iw1 _ (List.mem_of_getElem? (i := 2) rfl)) (iw5 _ (List.mem_of_getElem? (i := 23) rfl))) rfl ⟨rfl, rfl⟩ (by decide +kernel) ⟨by decide, by decide⟩ (by decide) rfl rfl dX7_runLine_37 rfl rfl (Nat.le_of_ble_eq_true rfl) ?_
    refine ⟨_, _, _, rfl, ⟨hpre.1.ci, ⟨by omega, by omega⟩, ⟨by omega, by omega⟩, ⟨by omega, by omega⟩⟩, fun v48 h49 eh49 => ?_⟩
    have frh49 : Fr [2, 3, 5, 6, 7, 8, 9, 10, 11, 12, 13, 14, 15, 16, 17, 18, 19, 20, 21, 22, 23, 24] hi h49 := (Fr.call (Fr.rf) eh49.1 (by decide))
    have es := eh49.2
    refine z_iret (pc := 40) rfl dX7_runLine_40 ?_
    exact hQ v48 h49 ⟨frh49, by first | (obtain rfl : ve = 12 := (by omega); exact DoC.born (by rw [← a_n, ← a_h, ← a_w]; exact es)) | (obtain rfl : ve = 13 := (by omega); exact DoC.span (by rw [← a_n, ← a_h, ← a_o, ← a_w]; exact es)) | (obtain rfl : ve = 15 := (by omega); exact DoC.died (by rw [← a_n, ← a_h]; exact es)) | (obtain rfl : ve = 16 := (by omega); exact DoC.unborn (by rw [← a_n, ← a_h]; exact es)) | (obtain rfl : ve = 17 := (by omega); exact DoC.revived (by rw [← a_n, ← a_h]; exact es)) | (obtain rfl : ve = 18 := (by omega); exact DoC.shifted (by rw [← a_n, ← a_h, ← a_o]; exact es)) | (obtain rfl : ve = 34 := (by omega); exact DoC.worthed (by rw [← a_n, ← a_h, ← a_w]; exact es)) | (obtain rfl : ve = 21 := (by omega); exact DoC.lock ⟨_, by rw [← a_h]; exact es, by first | rw [if_pos (by omega)] | rw [if_neg (by omega)]⟩) | (obtain rfl : ve = 22 := (by omega); exact DoC.undo ⟨_, es, by first | rw [if_pos (by omega)] | rw [if_neg (by omega)]⟩)⟩
