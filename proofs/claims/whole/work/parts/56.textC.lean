theorem flL_1 {R : LR} {p : Int} (h : R.1 = 0) (e : R = flL p) : False := by
  rw [e] at h; exact absurd h (by show ¬ ((1 : Int) = 0); decide)
theorem cs_ok {S P V : Nat → Int} {i i' : Int} {c2 : Nat} {ve n h o w : Int} (e : lnF S P V (cs S P V i.toNat) = okL c2 ve n h o w) (hi : i' = i + 1) (i0 : 0 ≤ i) : cs S P V i'.toNat = c2 := by
  rw [show i'.toNat = i.toNat + 1 by omega]
  show (lnF S P V (cs S P V i.toNat)).2.1.toNat = c2
  rw [e]; rfl
theorem lnOK_step {S P V : Nat → Int} {i i' : Int} {c2 : Nat} {ve n h o w : Int} (q : LnOK S P V i.toNat) (hs : S (cs S P V i.toNat) ≠ 0) (e : lnF S P V (cs S P V i.toNat) = okL c2 ve n h o w) (hi : i' = i + 1) (i0 : 0 ≤ i) : LnOK S P V i'.toNat := fun j hj => by
  by_cases c : j = i.toNat
  · rw [c]; exact ⟨hs, by rw [e]; rfl⟩
  · exact q j (by omega)
def LnG (R : LR) : Prop := (∃ (c2 : Nat) (ve n h o w : Int), R = okL c2 ve n h o w ∧ (ve = 12 ∨ ve = 13 ∨ ve = 15 ∨ ve = 16 ∨ ve = 17 ∨ ve = 18 ∨ ve = 34 ∨ ve = 21 ∨ ve = 22)) ∨ ∃ p, R = flL p
theorem LnG.f {p : Int} : LnG (flL p) := Or.inr ⟨_, rfl⟩
theorem LnG.ite {c : Prop} [Decidable c] {a b : LR} (h1 : c → LnG a) (h2 : ¬ c → LnG b) : LnG (if c then a else b) := by
  by_cases q : c
  · rw [if_pos q]; exact h1 q
  · rw [if_neg q]; exact h2 q
theorem lnF_cases (S P V : Nat → Int) (c : Nat) : LnG (lnF S P V c) := by
  have se : ∀ (c : Nat) (ve n h o w : Int), (ve = 12 ∨ ve = 13 ∨ ve = 15 ∨ ve = 16 ∨ ve = 17 ∨ ve = 18 ∨ ve = 34 ∨ ve = 21 ∨ ve = 22) → LnG (seF S P c ve n h o w) := fun c ve n h o w hv => by
    unfold seF; split
    · exact Or.inl ⟨_, _, _, _, _, _, rfl, hv⟩
    · exact LnG.f
  have wt : ∀ (c : Nat) (ve n h o : Int), (ve = 12 ∨ ve = 13 ∨ ve = 15 ∨ ve = 16 ∨ ve = 17 ∨ ve = 18 ∨ ve = 34 ∨ ve = 21 ∨ ve = 22) → LnG (wtF S P V c ve n h o) := fun c ve n h o hv => by
    unfold wtF; split
    · split
      · exact se _ _ _ _ _ _ hv
      · exact LnG.f
    · exact se _ _ _ _ _ _ hv
  unfold lnF deF boF spF shF woF hoF
  repeat' (first | exact LnG.f | exact se _ _ _ _ _ _ (by decide) | exact wt _ _ _ _ _ (by decide) | refine LnG.ite (fun _ => ?_) (fun _ => ?_))
theorem okL_verb {S P V : Nat → Int} {c c2 : Nat} {ve n h o w : Int} (e : lnF S P V c = okL c2 ve n h o w) : ve = 12 ∨ ve = 13 ∨ ve = 15 ∨ ve = 16 ∨ ve = 17 ∨ ve = 18 ∨ ve = 34 ∨ ve = 21 ∨ ve = 22 := by
  rcases lnF_cases S P V c with ⟨c3, ve', n', h', o', w', e2, q⟩ | ⟨p, e2⟩
  · rw [e] at e2
    have := congrArg (fun x : LR => x.2.2.1) e2
    have e3 : ve = ve' := this
    rw [e3]; exact q
  · rw [e] at e2; exact (flL_ne e2.symm).elim
theorem LnOK.len {S P V st f : Nat → Int} {n0 : Int} {m L : Nat} (q : LnOK S P V L) (t : TC f n0 S P V st m) : cs S P V L ≤ m ∧ 3 * (L : Int) ≤ P (cs S P V L) := chain_len t L (fun i hi => by
  obtain ⟨a, b⟩ := q i hi
  rcases lnF_cases S P V (cs S P V i) with ⟨c3, ve', n', h', o', w', e2, -⟩ | ⟨p, e2⟩
  · refine ⟨ve', n', h', o', w', ?_⟩
    have : cs S P V (i + 1) = c3 := by
      show (lnF S P V (cs S P V i)).2.1.toNat = c3
      rw [e2]; rfl
    rw [this]; exact e2
  · exact (flL_1 b e2).elim)
abbrev RanC (f : Nat → Int) (r : Int × Int × Int) : Prop := f 10 = r.1 ∧ f 11 = r.2.1 ∧ f 12 = r.2.2
theorem ranC_0 {f : Nat → Int} {r : Int × Int × Int} {k v : Int} (h : RanC f r) (e : v = 0) : RanC f (rnS r k v) := by unfold rnS; rw [if_pos e]; exact h
theorem ranC_1 {f g : Nat → Int} {r : Int × Int × Int} {k v a b c : Int} (h : RanC f r) (hv : v ≠ 0) (e : g 10 = a ∧ g 11 = b ∧ g 12 = c) (ha : a = f 10 + 1) (hbc : (f 10 = 0 ∧ b = k ∧ c = v) ∨ (f 10 ≠ 0 ∧ b = f 11 ∧ c = f 12)) : RanC g (rnS r k v) := by
  obtain ⟨h1, h2, h3⟩ := h
  obtain ⟨e1, e2, e3⟩ := e
  unfold rnS
  rw [if_neg hv]
  rcases hbc with ⟨q1, q2, q3⟩ | ⟨q1, q2, q3⟩
  · rw [if_pos (by omega)]
    exact ⟨by rw [e1, ha, q1]; rfl, by rw [e2]; exact q2, by rw [e3]; exact q3⟩
  · rw [if_neg (by omega)]
    exact ⟨by rw [e1, ha, h1], by rw [e2, q2]; exact h2, by rw [e3, q3]; exact h3⟩
theorem goto_ts {hi h2 : HI} {S P V : Nat → Int} {m : Nat} {x : Int} (h : TB hi S P V m) (h7 : hi 29 7 = 0) (e : h2 = hput hi 29 (updI (hi 29) 6 x)) (c : Nat) (hx : x = c) (hc : c ≤ m) : TS h2 S P V m c := by
  subst hx
  refine ⟨h.kp ?_ ?_ ?_ ?_, hc, ?_, ?_⟩
  · rw [e, hput_same, updI_ne _ _ (by decide)]
  · rw [e, hput_ne _ _ (by decide)]
  · rw [e, hput_ne _ _ (by decide)]
  · rw [e, hput_ne _ _ (by decide)]
  · rw [e, hput_same, updI_same]
  · rw [e, hput_same, updI_ne _ _ (by decide)]; exact h7
theorem goto_ff {hi h2 : HI} {x : Int} (e : h2 = hput hi 29 (updI (hi 29) 6 x)) : FF 29 [6] hi h2 := fun j hj => by
  rw [e, hput_same, updI_ne _ _ (fun q => hj (by rw [q]; decide))]
theorem RunC.base {S P V : Nat → Int} {h0 h1 : HI} (e : EqC h0 h1) : ∀ {k : Nat} {h : HI} {r : Int × Int × Int}, RunC S P V h1 k h r → RunC S P V h0 k h r
  | 0, _, _, q => ⟨e.tr q.1, q.2⟩
  | _ + 1, _, _, ⟨a, b, c, v, q, d⟩ => ⟨a, b, c, v, RunC.base e q, d⟩
/-- a text in the class -/
def TxtC (hi h2 : HI) (n v : Int) : Prop := (v = -1 ∧ ¬ (0 ≤ n ∧ n ≤ hi 29 1) ∧ h2 = hi) ∨ ((0 ≤ n ∧ n ≤ hi 29 1) ∧ h2 29 1 = 0 ∧ ∃ (S P V st : Nat → Int) (m : Nat), TC (hi 30) n S P V st m ∧ ∃ L : Nat, LnOK S P V L ∧ ((S (cs S P V L) ≠ 0 ∧ (∃ p, lnF S P V (cs S P V L) = flL p ∧ v = -2 - p) ∧ EqC hi h2 ∧ h2 0 = hi 0) ∨ (S (cs S P V L) = 0 ∧ ∃ r, RunC S P V hi L h2 r ∧ h2 0 8 = 1 ∧ h2 0 9 = L ∧ RanC (h2 0) r ∧ v = L - r.1)))
theorem tc_ts {hi : HI} {S P V st : Nat → Int} {f : Nat → Int} {n : Int} {m : Nat} (t : TC f n S P V st m) (h5 : hi 29 5 = m + 1) (e31 : hi 31 = S) (e32 : hi 32 = P) (e33 : hi 33 = V) (h6 : hi 29 6 = 0) (h7 : hi 29 7 = 0) : TS hi S P V m 0 := ⟨⟨h5, by have := t.1; omega, e31, e32, e33, fun i hi => t.sg_rg hi, t.2.2.1.1⟩, Nat.zero_le _, h6, h7⟩
theorem EqC.putH {a h h2 : HI} {p : Nat} {f : Nat → Int} (q : EqC a h) (e : h2 = hput h p f) (hp : p = 0 ∨ 28 < p) : EqC a h2 := fun i i0 i1 => by
  rw [e, hput_ne _ _ (by omega)]; exact q i i0 i1

theorem ct_X6_faultKind_TS : Ct kX6_faultKind yX6_faultKind (fun a hi Q => ∃ S : Nat → Int, ∃ P : Nat → Int, ∃ V : Nat → Int, ∃ m : Nat, ∃ c : Nat, a = [AR 30] ∧ (TS hi S P V m c) ∧ ∀ v : Int, (v = 0) → Q (AI v) hi) := Ct.mono ct_X6_faultKind (fun a hi Q ⟨S, P, V, m, c, ha, h, hq⟩ => ⟨ha, trivial, fun v q => hq v (q.1.trans h.2.2.2)⟩)

theorem ct_X6_faultKind_TF : Ct kX6_faultKind yX6_faultKind (fun a hi Q => ∃ S : Nat → Int, ∃ P : Nat → Int, ∃ V : Nat → Int, ∃ m : Nat, ∃ k : Int, ∃ p : Int, a = [AR 30] ∧ (TF hi S P V m k p) ∧ ∀ v : Int, (v = k) → Q (AI v) hi) := Ct.mono ct_X6_faultKind (fun a hi Q ⟨S, P, V, m, k, p, ha, h, hq⟩ => ⟨ha, trivial, fun v q => hq v (q.1.trans h.2.2.1)⟩)

theorem ct_X6_faultPlace_TF : Ct kX6_faultPlace yX6_faultPlace (fun a hi Q => ∃ S : Nat → Int, ∃ P : Nat → Int, ∃ V : Nat → Int, ∃ m : Nat, ∃ k : Int, ∃ p : Int, a = [AR 30] ∧ (TF hi S P V m k p) ∧ ∀ v : Int, (v = p ∧ inR v) → Q (AI v) hi) := Ct.mono ct_X6_faultPlace (fun a hi Q ⟨S, P, V, m, k, p, ha, h, hq⟩ => ⟨ha, trivial, fun v q => hq v ⟨q.1.trans h.2.2.2, q.2⟩⟩)

theorem ct_X6_goTo2 : Ct kX6_goTo yX6_goTo (fun a hi Q => ∃ x : Int, a = [AR 30, AI x] ∧ (inR x) ∧ ∀ h2 : HI, (Fr [29] hi h2 ∧ FF 29 [6] hi h2 ∧ (h2 = hput hi 29 (updI (hi 29) 6 x))) → Q AU h2) := Ct.mono ct_X6_goTo (fun a hi Q ⟨x, ha, hx, hq⟩ => ⟨x, ha, hx, fun h2 ⟨q1, q2⟩ => hq h2 ⟨q1, goto_ff q2, q2⟩⟩)

abbrev kX7_runLines : Kd := (cX7_runLines, .code yX7_runLines cX7_runLines 4 none :: wsL_law0, rmL 7, RX7, none, 4)
theorem ct_X7_runLines : Ct kX7_runLines yX7_runLines (fun a hi Q => ∃ n : Int, ∃ S : Nat → Int, ∃ P : Nat → Int, ∃ V : Nat → Int, ∃ m : Nat, a = [AR 1, AI n] ∧ (CX hi ∧ TB hi S P V m ∧ hi 29 7 = 0 ∧ (∀ i : Nat, i ≤ m → S i = 2 → 0 ≤ V i ∧ V i ≤ 999) ∧ (0 ≤ n ∧ n ≤ 600) ∧ LnOK S P V n.toNat) ∧ ∀ h2 : HI, (Fr [0, 2, 3, 5, 6, 7, 8, 9, 10, 11, 12, 13, 14, 15, 16, 17, 18, 19, 20, 21, 22, 23, 24, 29, 34] hi h2 ∧ FF 0 [8, 9, 10, 11, 12] hi h2 ∧ FF 29 [6, 7, 8] hi h2 ∧ (∃ r, RunC S P V hi n.toNat h2 r ∧ h2 0 8 = 1 ∧ h2 0 9 = n ∧ RanC (h2 0) r)) → Q AU h2) := by
  refine Ct.of (ws' := _) (by decide +kernel) rfl rfl ?_
  intro a hi Q hT
  obtain ⟨n, S, P, V, m, rfl, hpre, hQ⟩ := hT
  refine ⟨Nat.le_of_ble_eq_true rfl, ?_⟩
  show Z kX7_runLines Q 0 [(0, AR 1), (1, AI n)] [] hi
  have hV := hpre.2.2.2.1
  have hn := hpre.2.2.2.2.1
  have hL := hpre.2.2.2.2.2
  have tb := hpre.2.1
  refine z_aload_n (pc := 0) (x := 1) dX7_runLines_0 rfl 0 rfl ?_
  refine z_iconst (pc := 1) (v := 1) dX7_runLines_1 rfl ?_
  refine z_putI (pc := 2) (pl := 0) (f := 8) (ci := 6) (C := RX7) (T := TX7) (N := 13) hu_X7 tyX7_ok nmX7 (by decide) rfl rfl (by decide) rfl (List.mem_cons_of_mem _ (iw2 _ (List.mem_of_getElem? (i := 18) rfl))) rfl rfl (ty := .boolean) (by decide +kernel) rfl rfl ⟨by decide, by decide⟩ dX7_runLines_2 (fun h1 eh1 => ?_)
  have frh1 : Fr [0, 2, 3, 5, 6, 7, 8, 9, 10, 11, 12, 13, 14, 15, 16, 17, 18, 19, 20, 21, 22, 23, 24, 29, 34] hi h1 := (Fr.put (Fr.rf) eh1 (by decide))
  have ff0h1 : FF 0 [8, 9, 10, 11, 12] hi h1 := FF.put (FF.rf) eh1 (by decide)
  have ff29h1 : FF 29 [6, 7, 8] hi h1 := FF.oth (FF.rf) eh1 (by decide)
  refine z_aload_n (pc := 5) (x := 1) dX7_runLines_5 rfl 0 rfl ?_
  refine z_iload_n (pc := 6) dX7_runLines_6 rfl 1 rfl ?_
  refine z_putI (pc := 7) (pl := 0) (f := 9) (ci := 6) (C := RX7) (T := TX7) (N := 13) hu_X7 tyX7_ok nmX7 (by decide) rfl rfl (by decide) rfl (List.mem_cons_of_mem _ (iw2 _ (List.mem_of_getElem? (i := 19) rfl))) rfl rfl (ty := .int) (by decide +kernel) rfl rfl ⟨by omega, by omega⟩ dX7_runLines_7 (fun h2 eh2 => ?_)
  have frh2 : Fr [0, 2, 3, 5, 6, 7, 8, 9, 10, 11, 12, 13, 14, 15, 16, 17, 18, 19, 20, 21, 22, 23, 24, 29, 34] hi h2 := (Fr.put frh1 eh2 (by decide))
  have ff0h2 : FF 0 [8, 9, 10, 11, 12] hi h2 := FF.put ff0h1 eh2 (by decide)
  have ff29h2 : FF 29 [6, 7, 8] hi h2 := FF.oth ff29h1 eh2 (by decide)
  refine z_aload_n (pc := 10) (x := 1) dX7_runLines_10 rfl 0 rfl ?_
  refine z_iconst (pc := 11) (v := 0) dX7_runLines_11 rfl ?_
  refine z_putI (pc := 12) (pl := 0) (f := 10) (ci := 6) (C := RX7) (T := TX7) (N := 13) hu_X7 tyX7_ok nmX7 (by decide) rfl rfl (by decide) rfl (List.mem_cons_of_mem _ (iw2 _ (List.mem_of_getElem? (i := 20) rfl))) rfl rfl (ty := .int) (by decide +kernel) rfl rfl ⟨by decide, by decide⟩ dX7_runLines_12 (fun h3 eh3 => ?_)
  have frh3 : Fr [0, 2, 3, 5, 6, 7, 8, 9, 10, 11, 12, 13, 14, 15, 16, 17, 18, 19, 20, 21, 22, 23, 24, 29, 34] hi h3 := (Fr.put frh2 eh3 (by decide))
  have ff0h3 : FF 0 [8, 9, 10, 11, 12] hi h3 := FF.put ff0h2 eh3 (by decide)
  have ff29h3 : FF 29 [6, 7, 8] hi h3 := FF.oth ff29h2 eh3 (by decide)
  refine z_aload_n (pc := 15) (x := 1) dX7_runLines_15 rfl 0 rfl ?_
  refine z_iconst (pc := 16) (v := (-1)) dX7_runLines_16 rfl ?_
  refine z_putI (pc := 17) (pl := 0) (f := 11) (ci := 6) (C := RX7) (T := TX7) (N := 13) hu_X7 tyX7_ok nmX7 (by decide) rfl rfl (by decide) rfl (List.mem_cons_of_mem _ (iw2 _ (List.mem_of_getElem? (i := 21) rfl))) rfl rfl (ty := .int) (by decide +kernel) rfl rfl ⟨by decide, by decide⟩ dX7_runLines_17 (fun h4 eh4 => ?_)
  have frh4 : Fr [0, 2, 3, 5, 6, 7, 8, 9, 10, 11, 12, 13, 14, 15, 16, 17, 18, 19, 20, 21, 22, 23, 24, 29, 34] hi h4 := (Fr.put frh3 eh4 (by decide))
  have ff0h4 : FF 0 [8, 9, 10, 11, 12] hi h4 := FF.put ff0h3 eh4 (by decide)
  have ff29h4 : FF 29 [6, 7, 8] hi h4 := FF.oth ff29h3 eh4 (by decide)
  refine z_aload_n (pc := 20) (x := 1) dX7_runLines_20 rfl 0 rfl ?_
  refine z_iconst (pc := 21) (v := 0) dX7_runLines_21 rfl ?_
  refine z_putI (pc := 22) (pl := 0) (f := 12) (ci := 6) (C := RX7) (T := TX7) (N := 13) hu_X7 tyX7_ok nmX7 (by decide) rfl rfl (by decide) rfl (List.mem_cons_of_mem _ (iw2 _ (List.mem_of_getElem? (i := 22) rfl))) rfl rfl (ty := .int) (by decide +kernel) rfl rfl ⟨by decide, by decide⟩ dX7_runLines_22 (fun h5 eh5 => ?_)
  have frh5 : Fr [0, 2, 3, 5, 6, 7, 8, 9, 10, 11, 12, 13, 14, 15, 16, 17, 18, 19, 20, 21, 22, 23, 24, 29, 34] hi h5 := (Fr.put frh4 eh5 (by decide))
  have ff0h5 : FF 0 [8, 9, 10, 11, 12] hi h5 := FF.put ff0h4 eh5 (by decide)
  have ff29h5 : FF 29 [6, 7, 8] hi h5 := FF.oth ff29h4 eh5 (by decide)
  refine z_aload_n (pc := 25) (x := 1) dX7_runLines_25 rfl 0 rfl ?_
  refine z_getR (pc := 26) (pl := 0) (f := 4) (ci := 6) (C := RX7) (T := TX7) (N := 13) hu_X7 (by decide) rfl rfl (by decide) rfl (List.mem_cons_of_mem _ (iw2 _ (List.mem_of_getElem? (i := 5) rfl))) rfl dX7_runLines_26 ?_
  refine z_iconst (pc := 29) (v := 0) dX7_runLines_29 rfl ?_
  refine z_callV (pc := 30) (kc := kX6_goTo) (n := 1) (pl := 29) (ci := 5) (C := RX6) (As := [AI 0]) (stk := []) ct_X6_goTo2 (gdV rfl rfl (iw25 _ (List.mem_of_getElem? (i := 1) rfl)) (iw25 _ (List.mem_of_getElem? (i := 2) rfl)) (iw25 _ (List.mem_of_getElem? (i := 3) rfl)) (iw2 _ (List.mem_of_getElem? (i := 4) rfl)) (iw25 _ (List.mem_of_getElem? (i := 4) rfl))) rfl ⟨rfl, rfl⟩ (by decide +kernel) ⟨by decide, by decide⟩ (by decide) rfl rfl dX7_runLines_30 rfl rfl (Nat.le_of_ble_eq_true rfl) ?_
  refine ⟨_, rfl, ⟨by decide, by decide⟩, fun h6 eh6 => ?_⟩
  have frh6 : Fr [0, 2, 3, 5, 6, 7, 8, 9, 10, 11, 12, 13, 14, 15, 16, 17, 18, 19, 20, 21, 22, 23, 24, 29, 34] hi h6 := (Fr.call frh5 eh6.1 (by decide))
  have ff0h6 : FF 0 [8, 9, 10, 11, 12] hi h6 := FF.call0 ff0h5 eh6.1 (by decide)
  have ff29h6 : FF 29 [6, 7, 8] hi h6 := FF.call ff29h5 (eh6.2.1) (by decide)
  have tg : TS h6 S P V m 0 := goto_ts (tb.kp (by rw [(by rw [eh5]; rfl : h5 29 5 = h4 29 5), (by rw [eh4]; rfl : h4 29 5 = h3 29 5), (by rw [eh3]; rfl : h3 29 5 = h2 29 5), (by rw [eh2]; rfl : h2 29 5 = h1 29 5), (by rw [eh1]; rfl : h1 29 5 = hi 29 5)] : h5 29 5 = hi 29 5) (by rw [(by rw [eh5]; rfl : h5 31 = h4 31), (by rw [eh4]; rfl : h4 31 = h3 31), (by rw [eh3]; rfl : h3 31 = h2 31), (by rw [eh2]; rfl : h2 31 = h1 31), (by rw [eh1]; rfl : h1 31 = hi 31)] : h5 31 = hi 31) (by rw [(by rw [eh5]; rfl : h5 32 = h4 32), (by rw [eh4]; rfl : h4 32 = h3 32), (by rw [eh3]; rfl : h3 32 = h2 32), (by rw [eh2]; rfl : h2 32 = h1 32), (by rw [eh1]; rfl : h1 32 = hi 32)] : h5 32 = hi 32) (by rw [(by rw [eh5]; rfl : h5 33 = h4 33), (by rw [eh4]; rfl : h4 33 = h3 33), (by rw [eh3]; rfl : h3 33 = h2 33), (by rw [eh2]; rfl : h2 33 = h1 33), (by rw [eh1]; rfl : h1 33 = hi 33)] : h5 33 = hi 33)) (by rw [(by rw [(by rw [eh5]; rfl : h5 29 7 = h4 29 7), (by rw [eh4]; rfl : h4 29 7 = h3 29 7), (by rw [eh3]; rfl : h3 29 7 = h2 29 7), (by rw [eh2]; rfl : h2 29 7 = h1 29 7), (by rw [eh1]; rfl : h1 29 7 = hi 29 7)] : h5 29 7 = hi 29 7)]; exact hpre.2.2.1) eh6.2.2 0 rfl (Nat.zero_le _)
  refine z_iconst (pc := 33) (v := 0) dX7_runLines_33 rfl ?_
  refine z_istore_n (pc := 34) (lv' := [(2, AI 0), (0, AR 1), (1, AI n)]) dX7_runLines_34 rfl (by decide) rfl ?_
  have J35 : ∀ (N : Nat) (i : Int) (hk : HI), (0 ≤ i ∧ i ≤ n) → (∃ r, RunC S P V hi i.toNat hk r ∧ RanC (hk 0) r) → (hk 0 8 = 1 ∧ hk 0 9 = n) → (TS hk S P V m (cs S P V i.toNat)) → (Fr [0, 2, 3, 5, 6, 7, 8, 9, 10, 11, 12, 13, 14, 15, 16, 17, 18, 19, 20, 21, 22, 23, 24, 29, 34] hi hk) → (FF 0 [8, 9, 10, 11, 12] hi hk) → (FF 29 [6, 7, 8] hi hk) → ((n - i).toNat) < N → Z kX7_runLines Q 35 [(2, AI i), (0, AR 1), (1, AI n)] [] hk := by
    intro N
    induction N with
    | zero => intro i hk _ _ _ _ _ _ _ _; exact absurd (by assumption) (Nat.not_lt_zero _)
    | succ N ih35 =>
      intro i hk i0 i1 i2 i3 frlhk ffl0hk ffl29hk hm35
      obtain ⟨r, rM, rI⟩ := i1
      have cx := rM.cx hpre.1
      have rb := rM.bd
      refine z_iload_n (pc := 35) dX7_runLines_35 rfl 0 rfl ?_
      refine z_iload_n (pc := 36) dX7_runLines_36 rfl 2 rfl ?_
      refine z_icmp_ge (pc := 37) (tgt := 89) dX7_runLines_37 (by decide) ⟨by omega, by omega⟩ ⟨by omega, by omega⟩ (fun c7 => ?_) (fun c7 => ?_)
      · refine z_vret (pc := 89) rfl dX7_runLines_89 ?_
        exact hQ hk ⟨frlhk, ffl0hk, ffl29hk, ⟨r, by rw [show n.toNat = i.toNat by omega]; exact rM, i2.1, i2.2, rI⟩⟩
      · have lk := hL i.toNat (by omega)
        refine z_aload_n (pc := 40) (x := 1) dX7_runLines_40 rfl 1 rfl ?_
        refine z_getR (pc := 41) (pl := 0) (f := 5) (ci := 6) (C := RX7) (T := TX7) (N := 13) hu_X7 (by decide) rfl rfl (by decide) rfl (List.mem_cons_of_mem _ (iw2 _ (List.mem_of_getElem? (i := 9) rfl))) rfl dX7_runLines_41 ?_
        refine z_callV (pc := 44) (kc := kX0_read) (n := 0) (pl := 34) (ci := 0) (C := RX0) (As := []) (stk := []) ct_X0_read_TS (gdV rfl rfl (iw22 _ (List.mem_of_getElem? (i := 13) rfl)) (iw22 _ (List.mem_of_getElem? (i := 14) rfl)) (iw22 _ (List.mem_of_getElem? (i := 15) rfl)) (iw2 _ (List.mem_of_getElem? (i := 8) rfl)) (iw22 _ (List.mem_of_getElem? (i := 16) rfl))) rfl ⟨rfl, rfl⟩ (by decide +kernel) ⟨by decide, by decide⟩ (by decide) rfl rfl dX7_runLines_44 rfl rfl (Nat.le_of_ble_eq_true rfl) ?_
        refine ⟨S, P, V, m, (cs S P V i.toNat), rfl, ⟨i3, hV⟩, fun h8 eh8 => ?_⟩
        have frh8 : Fr [0, 2, 3, 5, 6, 7, 8, 9, 10, 11, 12, 13, 14, 15, 16, 17, 18, 19, 20, 21, 22, 23, 24, 29, 34] hi h8 := (Fr.call frlhk eh8.1 (by decide))
        have ff0h8 : FF 0 [8, 9, 10, 11, 12] hi h8 := FF.call0 ffl0hk eh8.1 (by decide)
        have ff29h8 : FF 29 [6, 7, 8] hi h8 := FF.call ffl29hk (eh8.2.1) (by decide)
        rcases eh8.2.2.2 with ⟨ch8, veh8, nh8, hh8, oh8, wh8, zh8, th8, lh8⟩ | ⟨ph8, zh8, th8⟩
        · have eq44 : EqC hk h8 := EqC.of eh8.1 (by decide)
          have cx44 := cx.eq eq44
          have l44 := lh8
          have z44 := zh8
          have ve44 := okL_verb zh8
          refine z_aload_n (pc := 47) (x := 1) dX7_runLines_47 rfl 1 rfl ?_
          refine z_callV (pc := 48) (kc := kX7_runLine) (n := 0) (pl := 0) (ci := 6) (C := RX7) (As := []) (stk := []) ct_X7_runLine (gdV rfl rfl (iw25 _ (List.mem_of_getElem? (i := 5) rfl)) (iw25 _ (List.mem_of_getElem? (i := 6) rfl)) (iw25 _ (List.mem_of_getElem? (i := 7) rfl)) (iw1 _ (List.mem_of_getElem? (i := 2) rfl)) (iw25 _ (List.mem_of_getElem? (i := 8) rfl))) rfl ⟨rfl, rfl⟩ (by decide +kernel) ⟨by decide, by decide⟩ (by decide) rfl rfl dX7_runLines_48 rfl rfl (Nat.le_of_ble_eq_true rfl) ?_
          refine ⟨_, _, _, _, _, rfl, ⟨cx44, l44, ve44⟩, fun v9 h10 eh10 => ?_⟩
          have frh10 : Fr [0, 2, 3, 5, 6, 7, 8, 9, 10, 11, 12, 13, 14, 15, 16, 17, 18, 19, 20, 21, 22, 23, 24, 29, 34] hi h10 := (Fr.call frh8 eh10.1 (by decide))
          have ff0h10 : FF 0 [8, 9, 10, 11, 12] hi h10 := FF.call0 ff0h8 eh10.1 (by decide)
          have ff29h10 : FF 29 [6, 7, 8] hi h10 := FF.call0 ff29h8 eh10.1 (by decide)
          have th10 : TS h10 S P V m ch8 := TS.fr th8 eh10.1 (by decide)
          have dC : Fr [2, 3, 5, 6, 7, 8, 9, 10, 11, 12, 13, 14, 15, 16, 17, 18, 19, 20, 21, 22, 23, 24] h8 h10 := eh10.1
          have dL : DoCL h8 h10 (lnF S P V (cs S P V i.toNat)) v9 := by rw [z44]; exact eh10.2
          have dv := DoC.rng eh10.2
          refine z_istore_n (pc := 51) (lv' := [(3, AI v9), (2, AI i), (0, AR 1), (1, AI n)]) dX7_runLines_51 rfl (by decide) rfl ?_
          refine z_iload_n (pc := 52) dX7_runLines_52 rfl 0 rfl ?_
          refine z_if_eq (pc := 53) (tgt := 83) dX7_runLines_53 (by decide) ⟨by omega, by omega⟩ (fun c11 => ?_) (fun c11 => ?_)
          · refine z_iinc (pc := 83) (j := 1) (w := fun q => (2, AI q) :: [(3, AI v9), (0, AR 1), (1, AI n)]) dX7_runLines_83 rfl (by decide) (fun _ => rfl) (fun v12 ev12 => ?_)
            refine z_goto (pc := 86) (tgt := 35) dX7_runLines_86 (by decide) ?_
            refine z_sub (lv' := [(2, AI v12), (0, AR 1), (1, AI n)]) [0, 2, 3] rfl ?_
            exact ih35 v12 h10 (by omega) (by first | exact ⟨_, runC_step (by omega) (by omega) rM eq44 dC dL EqC.rf, ranC_0 ⟨by rw [(by rw [(congrFun (eh10.1 0 (by decide)) 10 : h10 0 10 = h8 0 10), (congrFun (eh8.1 0 (by decide)) 10 : h8 0 10 = hk 0 10)] : h10 0 10 = hk 0 10)]; exact rI.1, by rw [(by rw [(congrFun (eh10.1 0 (by decide)) 11 : h10 0 11 = h8 0 11), (congrFun (eh8.1 0 (by decide)) 11 : h8 0 11 = hk 0 11)] : h10 0 11 = hk 0 11)]; exact rI.2.1, by rw [(by rw [(congrFun (eh10.1 0 (by decide)) 12 : h10 0 12 = h8 0 12), (congrFun (eh8.1 0 (by decide)) 12 : h8 0 12 = hk 0 12)] : h10 0 12 = hk 0 12)]; exact rI.2.2⟩ (by omega)⟩ | exact ⟨_, runC_step (by omega) (by omega) rM eq44 dC dL EqC.rf, ranC_1 rI (by omega) ⟨(by rw [(congrFun (eh10.1 0 (by decide)) 10 : h10 0 10 = h8 0 10), (congrFun (eh8.1 0 (by decide)) 10 : h8 0 10 = hk 0 10)] : h10 0 10 = hk 0 10), (by rw [(congrFun (eh10.1 0 (by decide)) 11 : h10 0 11 = h8 0 11), (congrFun (eh8.1 0 (by decide)) 11 : h8 0 11 = hk 0 11)] : h10 0 11 = hk 0 11), (by rw [(congrFun (eh10.1 0 (by decide)) 12 : h10 0 12 = h8 0 12), (congrFun (eh8.1 0 (by decide)) 12 : h8 0 12 = hk 0 12)] : h10 0 12 = hk 0 12)⟩ (by omega) (by omega)⟩) (⟨by rw [(by rw [(congrFun (eh10.1 0 (by decide)) 8 : h10 0 8 = h8 0 8), (congrFun (eh8.1 0 (by decide)) 8 : h8 0 8 = hk 0 8)] : h10 0 8 = hk 0 8)]; exact i2.1, by rw [(by rw [(congrFun (eh10.1 0 (by decide)) 9 : h10 0 9 = h8 0 9), (congrFun (eh8.1 0 (by decide)) 9 : h8 0 9 = hk 0 9)] : h10 0 9 = hk 0 9)]; exact i2.2⟩) (by rw [cs_ok z44 (by omega) (by omega)]; exact th10) (frh10) (ff0h10) (ff29h10) (by omega)
          · refine z_aload_n (pc := 56) (x := 1) dX7_runLines_56 rfl 2 rfl ?_
            refine z_getI (pc := 57) (pl := 0) (f := 10) (ci := 6) (C := RX7) (T := TX7) (N := 13) hu_X7 (by decide) rfl rfl (by decide) rfl (List.mem_cons_of_mem _ (iw2 _ (List.mem_of_getElem? (i := 20) rfl))) rfl (by decide) dX7_runLines_57 (fun v13 ev13 rv13 => ?_)
            rw [(congrFun (eh10.1 0 (by decide)) 10 : h10 0 10 = h8 0 10), (congrFun (eh8.1 0 (by decide)) 10 : h8 0 10 = hk 0 10)] at ev13
            refine z_if_ne (pc := 60) (tgt := 73) dX7_runLines_60 (by decide) ⟨by omega, by omega⟩ (fun c14 => ?_) (fun c14 => ?_)
            · refine z_aload_n (pc := 73) (x := 1) dX7_runLines_73 rfl 2 rfl ?_
              refine z_dup (pc := 74) dX7_runLines_74 rfl ?_
              refine z_getI (pc := 75) (pl := 0) (f := 10) (ci := 6) (C := RX7) (T := TX7) (N := 13) hu_X7 (by decide) rfl rfl (by decide) rfl (List.mem_cons_of_mem _ (iw2 _ (List.mem_of_getElem? (i := 20) rfl))) rfl (by decide) dX7_runLines_75 (fun v15 ev15 rv15 => ?_)
              rw [(congrFun (eh10.1 0 (by decide)) 10 : h10 0 10 = h8 0 10), (congrFun (eh8.1 0 (by decide)) 10 : h8 0 10 = hk 0 10)] at ev15
              refine z_iconst (pc := 78) (v := 1) dX7_runLines_78 rfl ?_
              refine z_iadd (pc := 79) dX7_runLines_79 (fun v16 ev16 => ?_)
              refine z_putI (pc := 80) (pl := 0) (f := 10) (ci := 6) (C := RX7) (T := TX7) (N := 13) hu_X7 tyX7_ok nmX7 (by decide) rfl rfl (by decide) rfl (List.mem_cons_of_mem _ (iw2 _ (List.mem_of_getElem? (i := 20) rfl))) rfl rfl (ty := .int) (by decide +kernel) rfl rfl ⟨by omega, by omega⟩ dX7_runLines_80 (fun h17 eh17 => ?_)
              have frh17 : Fr [0, 2, 3, 5, 6, 7, 8, 9, 10, 11, 12, 13, 14, 15, 16, 17, 18, 19, 20, 21, 22, 23, 24, 29, 34] hi h17 := (Fr.put frh10 eh17 (by decide))
              have ff0h17 : FF 0 [8, 9, 10, 11, 12] hi h17 := FF.put ff0h10 eh17 (by decide)
              have ff29h17 : FF 29 [6, 7, 8] hi h17 := FF.oth ff29h10 eh17 (by decide)
              have th17 : TS h17 S P V m ch8 := TS.oth th10 eh17 (by decide)
              refine z_iinc (pc := 83) (j := 1) (w := fun q => (2, AI q) :: [(3, AI v9), (0, AR 1), (1, AI n)]) dX7_runLines_83 rfl (by decide) (fun _ => rfl) (fun v18 ev18 => ?_)
              refine z_goto (pc := 86) (tgt := 35) dX7_runLines_86 (by decide) ?_
              refine z_sub (lv' := [(2, AI v18), (0, AR 1), (1, AI n)]) [0, 2, 3] rfl ?_
              exact ih35 v18 h17 (by omega) (by first | exact ⟨_, runC_step (by omega) (by omega) rM eq44 dC dL EqC.rf, ranC_0 ⟨by rw [(by rw [(by rw [eh17]; rfl : h17 0 10 = v16)] : h17 0 10 = v16)]; exact rI.1, by rw [(by rw [(by rw [eh17]; rfl : h17 0 11 = h10 0 11), (congrFun (eh10.1 0 (by decide)) 11 : h10 0 11 = h8 0 11), (congrFun (eh8.1 0 (by decide)) 11 : h8 0 11 = hk 0 11)] : h17 0 11 = hk 0 11)]; exact rI.2.1, by rw [(by rw [(by rw [eh17]; rfl : h17 0 12 = h10 0 12), (congrFun (eh10.1 0 (by decide)) 12 : h10 0 12 = h8 0 12), (congrFun (eh8.1 0 (by decide)) 12 : h8 0 12 = hk 0 12)] : h17 0 12 = hk 0 12)]; exact rI.2.2⟩ (by omega)⟩ | exact ⟨_, runC_step (by omega) (by omega) rM eq44 dC dL (EqC.putH EqC.rf eh17 (by decide)), ranC_1 rI (by omega) ⟨(by rw [(by rw [eh17]; rfl : h17 0 10 = v16)] : h17 0 10 = v16), (by rw [(by rw [eh17]; rfl : h17 0 11 = h10 0 11), (congrFun (eh10.1 0 (by decide)) 11 : h10 0 11 = h8 0 11), (congrFun (eh8.1 0 (by decide)) 11 : h8 0 11 = hk 0 11)] : h17 0 11 = hk 0 11), (by rw [(by rw [eh17]; rfl : h17 0 12 = h10 0 12), (congrFun (eh10.1 0 (by decide)) 12 : h10 0 12 = h8 0 12), (congrFun (eh8.1 0 (by decide)) 12 : h8 0 12 = hk 0 12)] : h17 0 12 = hk 0 12)⟩ (by omega) (by omega)⟩) (⟨by rw [(by rw [(by rw [eh17]; rfl : h17 0 8 = h10 0 8), (congrFun (eh10.1 0 (by decide)) 8 : h10 0 8 = h8 0 8), (congrFun (eh8.1 0 (by decide)) 8 : h8 0 8 = hk 0 8)] : h17 0 8 = hk 0 8)]; exact i2.1, by rw [(by rw [(by rw [eh17]; rfl : h17 0 9 = h10 0 9), (congrFun (eh10.1 0 (by decide)) 9 : h10 0 9 = h8 0 9), (congrFun (eh8.1 0 (by decide)) 9 : h8 0 9 = hk 0 9)] : h17 0 9 = hk 0 9)]; exact i2.2⟩) (by rw [cs_ok z44 (by omega) (by omega)]; exact th17) (frh17) (ff0h17) (ff29h17) (by omega)
            · refine z_aload_n (pc := 63) (x := 1) dX7_runLines_63 rfl 2 rfl ?_
              refine z_iload_n (pc := 64) dX7_runLines_64 rfl 1 rfl ?_
              refine z_putI (pc := 65) (pl := 0) (f := 11) (ci := 6) (C := RX7) (T := TX7) (N := 13) hu_X7 tyX7_ok nmX7 (by decide) rfl rfl (by decide) rfl (List.mem_cons_of_mem _ (iw2 _ (List.mem_of_getElem? (i := 21) rfl))) rfl rfl (ty := .int) (by decide +kernel) rfl rfl ⟨by omega, by omega⟩ dX7_runLines_65 (fun h19 eh19 => ?_)
              have frh19 : Fr [0, 2, 3, 5, 6, 7, 8, 9, 10, 11, 12, 13, 14, 15, 16, 17, 18, 19, 20, 21, 22, 23, 24, 29, 34] hi h19 := (Fr.put frh10 eh19 (by decide))
              have ff0h19 : FF 0 [8, 9, 10, 11, 12] hi h19 := FF.put ff0h10 eh19 (by decide)
              have ff29h19 : FF 29 [6, 7, 8] hi h19 := FF.oth ff29h10 eh19 (by decide)
              have th19 : TS h19 S P V m ch8 := TS.oth th10 eh19 (by decide)
              refine z_aload_n (pc := 68) (x := 1) dX7_runLines_68 rfl 2 rfl ?_
              refine z_iload_n (pc := 69) dX7_runLines_69 rfl 0 rfl ?_
              refine z_putI (pc := 70) (pl := 0) (f := 12) (ci := 6) (C := RX7) (T := TX7) (N := 13) hu_X7 tyX7_ok nmX7 (by decide) rfl rfl (by decide) rfl (List.mem_cons_of_mem _ (iw2 _ (List.mem_of_getElem? (i := 22) rfl))) rfl rfl (ty := .int) (by decide +kernel) rfl rfl ⟨by omega, by omega⟩ dX7_runLines_70 (fun h20 eh20 => ?_)
              have frh20 : Fr [0, 2, 3, 5, 6, 7, 8, 9, 10, 11, 12, 13, 14, 15, 16, 17, 18, 19, 20, 21, 22, 23, 24, 29, 34] hi h20 := (Fr.put frh19 eh20 (by decide))
              have ff0h20 : FF 0 [8, 9, 10, 11, 12] hi h20 := FF.put ff0h19 eh20 (by decide)
              have ff29h20 : FF 29 [6, 7, 8] hi h20 := FF.oth ff29h19 eh20 (by decide)
              have th20 : TS h20 S P V m ch8 := TS.oth th19 eh20 (by decide)
              refine z_aload_n (pc := 73) (x := 1) dX7_runLines_73 rfl 2 rfl ?_
              refine z_dup (pc := 74) dX7_runLines_74 rfl ?_
              refine z_getI (pc := 75) (pl := 0) (f := 10) (ci := 6) (C := RX7) (T := TX7) (N := 13) hu_X7 (by decide) rfl rfl (by decide) rfl (List.mem_cons_of_mem _ (iw2 _ (List.mem_of_getElem? (i := 20) rfl))) rfl (by decide) dX7_runLines_75 (fun v21 ev21 rv21 => ?_)
              rw [(by rw [eh20]; rfl : h20 0 10 = h19 0 10), (by rw [eh19]; rfl : h19 0 10 = h10 0 10), (congrFun (eh10.1 0 (by decide)) 10 : h10 0 10 = h8 0 10), (congrFun (eh8.1 0 (by decide)) 10 : h8 0 10 = hk 0 10)] at ev21
              refine z_iconst (pc := 78) (v := 1) dX7_runLines_78 rfl ?_
              refine z_iadd (pc := 79) dX7_runLines_79 (fun v22 ev22 => ?_)
              refine z_putI (pc := 80) (pl := 0) (f := 10) (ci := 6) (C := RX7) (T := TX7) (N := 13) hu_X7 tyX7_ok nmX7 (by decide) rfl rfl (by decide) rfl (List.mem_cons_of_mem _ (iw2 _ (List.mem_of_getElem? (i := 20) rfl))) rfl rfl (ty := .int) (by decide +kernel) rfl rfl ⟨by omega, by omega⟩ dX7_runLines_80 (fun h23 eh23 => ?_)
              have frh23 : Fr [0, 2, 3, 5, 6, 7, 8, 9, 10, 11, 12, 13, 14, 15, 16, 17, 18, 19, 20, 21, 22, 23, 24, 29, 34] hi h23 := (Fr.put frh20 eh23 (by decide))
              have ff0h23 : FF 0 [8, 9, 10, 11, 12] hi h23 := FF.put ff0h20 eh23 (by decide)
              have ff29h23 : FF 29 [6, 7, 8] hi h23 := FF.oth ff29h20 eh23 (by decide)
              have th23 : TS h23 S P V m ch8 := TS.oth th20 eh23 (by decide)
              refine z_iinc (pc := 83) (j := 1) (w := fun q => (2, AI q) :: [(3, AI v9), (0, AR 1), (1, AI n)]) dX7_runLines_83 rfl (by decide) (fun _ => rfl) (fun v24 ev24 => ?_)
              refine z_goto (pc := 86) (tgt := 35) dX7_runLines_86 (by decide) ?_
              refine z_sub (lv' := [(2, AI v24), (0, AR 1), (1, AI n)]) [0, 2, 3] rfl ?_
              exact ih35 v24 h23 (by omega) (by first | exact ⟨_, runC_step (by omega) (by omega) rM eq44 dC dL EqC.rf, ranC_0 ⟨by rw [(by rw [(by rw [eh23]; rfl : h23 0 10 = v22)] : h23 0 10 = v22)]; exact rI.1, by rw [(by rw [(by rw [eh23]; rfl : h23 0 11 = h20 0 11), (by rw [eh20]; rfl : h20 0 11 = h19 0 11), (by rw [eh19]; rfl : h19 0 11 = i)] : h23 0 11 = i)]; exact rI.2.1, by rw [(by rw [(by rw [eh23]; rfl : h23 0 12 = h20 0 12), (by rw [eh20]; rfl : h20 0 12 = v9)] : h23 0 12 = v9)]; exact rI.2.2⟩ (by omega)⟩ | exact ⟨_, runC_step (by omega) (by omega) rM eq44 dC dL (EqC.putH (EqC.putH (EqC.putH EqC.rf eh19 (by decide)) eh20 (by decide)) eh23 (by decide)), ranC_1 rI (by omega) ⟨(by rw [(by rw [eh23]; rfl : h23 0 10 = v22)] : h23 0 10 = v22), (by rw [(by rw [eh23]; rfl : h23 0 11 = h20 0 11), (by rw [eh20]; rfl : h20 0 11 = h19 0 11), (by rw [eh19]; rfl : h19 0 11 = i)] : h23 0 11 = i), (by rw [(by rw [eh23]; rfl : h23 0 12 = h20 0 12), (by rw [eh20]; rfl : h20 0 12 = v9)] : h23 0 12 = v9)⟩ (by omega) (by omega)⟩) (⟨by rw [(by rw [(by rw [eh23]; rfl : h23 0 8 = h20 0 8), (by rw [eh20]; rfl : h20 0 8 = h19 0 8), (by rw [eh19]; rfl : h19 0 8 = h10 0 8), (congrFun (eh10.1 0 (by decide)) 8 : h10 0 8 = h8 0 8), (congrFun (eh8.1 0 (by decide)) 8 : h8 0 8 = hk 0 8)] : h23 0 8 = hk 0 8)]; exact i2.1, by rw [(by rw [(by rw [eh23]; rfl : h23 0 9 = h20 0 9), (by rw [eh20]; rfl : h20 0 9 = h19 0 9), (by rw [eh19]; rfl : h19 0 9 = h10 0 9), (congrFun (eh10.1 0 (by decide)) 9 : h10 0 9 = h8 0 9), (congrFun (eh8.1 0 (by decide)) 9 : h8 0 9 = hk 0 9)] : h23 0 9 = hk 0 9)]; exact i2.2⟩) (by rw [cs_ok z44 (by omega) (by omega)]; exact th23) (frh23) (ff0h23) (ff29h23) (by omega)
        · exact (flL_1 lk.2 zh8).elim
  exact J35 _ 0 h6 (by omega) (⟨(0, -1, 0), ⟨(EqC.tr (EqC.putH (EqC.putH (EqC.putH (EqC.putH (EqC.putH EqC.rf eh1 (by decide)) eh2 (by decide)) eh3 (by decide)) eh4 (by decide)) eh5 (by decide)) (EqC.of eh6.1 (by decide))), rfl⟩, by rw [(by rw [(congrFun (eh6.1 0 (by decide)) 10 : h6 0 10 = h5 0 10), (by rw [eh5]; rfl : h5 0 10 = h4 0 10), (by rw [eh4]; rfl : h4 0 10 = h3 0 10), (by rw [eh3]; rfl : h3 0 10 = 0)] : h6 0 10 = 0)], by rw [(by rw [(congrFun (eh6.1 0 (by decide)) 11 : h6 0 11 = h5 0 11), (by rw [eh5]; rfl : h5 0 11 = h4 0 11), (by rw [eh4]; rfl : h4 0 11 = -1)] : h6 0 11 = -1)], by rw [(by rw [(congrFun (eh6.1 0 (by decide)) 12 : h6 0 12 = h5 0 12), (by rw [eh5]; rfl : h5 0 12 = 0)] : h6 0 12 = 0)]⟩) (⟨by rw [(by rw [(congrFun (eh6.1 0 (by decide)) 8 : h6 0 8 = h5 0 8), (by rw [eh5]; rfl : h5 0 8 = h4 0 8), (by rw [eh4]; rfl : h4 0 8 = h3 0 8), (by rw [eh3]; rfl : h3 0 8 = h2 0 8), (by rw [eh2]; rfl : h2 0 8 = h1 0 8), (by rw [eh1]; rfl : h1 0 8 = 1)] : h6 0 8 = 1)], by rw [(by rw [(congrFun (eh6.1 0 (by decide)) 9 : h6 0 9 = h5 0 9), (by rw [eh5]; rfl : h5 0 9 = h4 0 9), (by rw [eh4]; rfl : h4 0 9 = h3 0 9), (by rw [eh3]; rfl : h3 0 9 = h2 0 9), (by rw [eh2]; rfl : h2 0 9 = n)] : h6 0 9 = n)]⟩) (tg) (frh6) (ff0h6) (ff29h6) (Nat.lt_succ_self _)

abbrev kX7_text : Kd := (cX7_text, .code yX7_text cX7_text 3 (some .int) :: wsL_law0, rmL 9, RX7, (some .int), 3)
theorem ct_X7_text : Ct kX7_text yX7_text (fun a hi Q => ∃ n : Int, a = [AR 1, AI n] ∧ (CX hi ∧ (0 ≤ hi 29 1 ∧ hi 29 1 ≤ 600) ∧ inR n) ∧ ∀ (v : Int) (h2 : HI), (Fr [0, 2, 3, 5, 6, 7, 8, 9, 10, 11, 12, 13, 14, 15, 16, 17, 18, 19, 20, 21, 22, 23, 24, 29, 31, 32, 33, 34] hi h2 ∧ (TxtC hi h2 n v)) → Q (AI v) h2) := by
  refine Ct.of (ws' := _) (by decide +kernel) rfl rfl ?_
  intro a hi Q hT
  obtain ⟨n, rfl, hpre, hQ⟩ := hT
  refine ⟨Nat.le_of_ble_eq_true rfl, ?_⟩
  show Z kX7_text Q 0 [(0, AR 1), (1, AI n)] [] hi
  have l29 := hpre.2.1
  refine z_iload_n (pc := 0) dX7_text_0 rfl 1 rfl ?_
  refine z_if_lt (pc := 1) (tgt := 15) dX7_text_1 (by decide) ⟨by omega, by omega⟩ (fun c1 => ?_) (fun c1 => ?_)
  · refine z_iconst (pc := 15) (v := (-1)) dX7_text_15 rfl ?_
    refine z_iret (pc := 16) rfl dX7_text_16 ?_
    exact hQ (-1) hi ⟨(Fr.rf), by first | exact Or.inl ⟨rfl, by omega, rfl⟩ | exact Or.inr ⟨by omega, tf, S, P, V, st, m, tc0, i.toNat, ok, Or.inr ⟨s0, r, RunC.base i2.1 rR, rA, by omega, rI, by omega⟩⟩ | exact Or.inr ⟨by omega, i2.2.2, S, P, V, st, m, tc0, L, ok, Or.inl ⟨s0, ⟨p1, z0, by omega⟩, i2.1, i2.2.1⟩⟩ | (exfalso; omega)⟩
  · refine z_iload_n (pc := 4) dX7_text_4 rfl 1 rfl ?_
    refine z_aload_n (pc := 5) (x := 1) dX7_text_5 rfl 0 rfl ?_
    refine z_getR (pc := 6) (pl := 0) (f := 4) (ci := 6) (C := RX7) (T := TX7) (N := 13) hu_X7 (by decide) rfl rfl (by decide) rfl (List.mem_cons_of_mem _ (iw2 _ (List.mem_of_getElem? (i := 5) rfl))) rfl dX7_text_6 ?_
    refine z_callV (pc := 9) (kc := kX6_length) (n := 0) (pl := 29) (ci := 5) (C := RX6) (As := []) (stk := [AI n]) ct_X6_length (gdV rfl rfl (iw17 _ (List.mem_of_getElem? (i := 4) rfl)) (iw17 _ (List.mem_of_getElem? (i := 5) rfl)) (iw17 _ (List.mem_of_getElem? (i := 6) rfl)) (iw2 _ (List.mem_of_getElem? (i := 4) rfl)) (iw17 _ (List.mem_of_getElem? (i := 7) rfl))) rfl ⟨rfl, rfl⟩ (by decide +kernel) ⟨by decide, by decide⟩ (by decide) rfl rfl dX7_text_9 rfl rfl (Nat.le_of_ble_eq_true rfl) ?_
    refine ⟨rfl, trivial, fun v2 ev2 => ?_⟩
    refine z_icmp_le (pc := 12) (tgt := 17) dX7_text_12 (by decide) ⟨by omega, by omega⟩ ⟨by omega, by omega⟩ (fun c3 => ?_) (fun c3 => ?_)
    · refine z_aload_n (pc := 17) (x := 1) dX7_text_17 rfl 0 rfl ?_
      refine z_getR (pc := 18) (pl := 0) (f := 4) (ci := 6) (C := RX7) (T := TX7) (N := 13) hu_X7 (by decide) rfl rfl (by decide) rfl (List.mem_cons_of_mem _ (iw2 _ (List.mem_of_getElem? (i := 5) rfl))) rfl dX7_text_18 ?_
      refine z_iload_n (pc := 21) dX7_text_21 rfl 1 rfl ?_
      refine z_callV (pc := 22) (kc := kX6_cut) (n := 1) (pl := 29) (ci := 5) (C := RX6) (As := [AI n]) (stk := []) ct_X6_cut (gdV rfl rfl (iw18 _ (List.mem_of_getElem? (i := 6) rfl)) (iw18 _ (List.mem_of_getElem? (i := 7) rfl)) (iw18 _ (List.mem_of_getElem? (i := 8) rfl)) (iw2 _ (List.mem_of_getElem? (i := 4) rfl)) (iw18 _ (List.mem_of_getElem? (i := 9) rfl))) rfl ⟨rfl, rfl⟩ (by decide +kernel) ⟨by decide, by decide⟩ (by decide) rfl rfl dX7_text_22 rfl rfl (Nat.le_of_ble_eq_true rfl) ?_
      refine ⟨_, rfl, ⟨hpre.2.1, by omega, by omega⟩, fun h4 eh4 => ?_⟩
      have frh4 : Fr [0, 2, 3, 5, 6, 7, 8, 9, 10, 11, 12, 13, 14, 15, 16, 17, 18, 19, 20, 21, 22, 23, 24, 29, 31, 32, 33, 34] hi h4 := (Fr.call (Fr.rf) eh4.1 (by decide))
      obtain ⟨st, m, em, tc0⟩ := TC.of eh4.2.1 (by omega)
      obtain ⟨S, hS⟩ : ∃ S, S = h4 31 := ⟨_, rfl⟩
      obtain ⟨P, hP⟩ : ∃ P, P = h4 32 := ⟨_, rfl⟩
      obtain ⟨V, hV0⟩ : ∃ V, V = h4 33 := ⟨_, rfl⟩
      rw [← hS, ← hP, ← hV0] at tc0
      have ts0 : TS h4 S P V m 0 := tc_ts tc0 em hS.symm hP.symm hV0.symm eh4.2.2.2.1 eh4.2.2.2.2.1
      have hV : (∀ i : Nat, i ≤ m → S i = 2 → 0 ≤ V i ∧ V i ≤ 999) := fun i hi0 h2 => tc0.v2 hi0 h2
      have l1 := eh4.2.2.1
      have eq22 : EqC hi h4 := EqC.of eh4.1 (by decide)
      refine z_iconst (pc := 25) (v := 0) dX7_text_25 rfl ?_
      refine z_istore_n (pc := 26) (lv' := [(2, AI 0), (0, AR 1), (1, AI n)]) dX7_text_26 rfl (by decide) rfl ?_
      have J27 : ∀ (N : Nat) (i : Int) (hk : HI), (0 ≤ i ∧ i ≤ 600) → ((LnOK S P V i.toNat ∧ TS hk S P V m (cs S P V i.toNat)) ∨ (∃ (L : Nat) (p : Int), i = L + 1 ∧ LnOK S P V L ∧ S (cs S P V L) ≠ 0 ∧ lnF S P V (cs S P V L) = flL p ∧ TF hk S P V m 1 p)) → (EqC hi hk ∧ hk 0 = hi 0 ∧ hk 29 1 = 0) → (Fr [0, 2, 3, 5, 6, 7, 8, 9, 10, 11, 12, 13, 14, 15, 16, 17, 18, 19, 20, 21, 22, 23, 24, 29, 31, 32, 33, 34] hi hk) → ((600 - i).toNat) < N → Z kX7_text Q 27 [(2, AI i), (0, AR 1), (1, AI n)] [] hk := by
        intro N
        induction N with
        | zero => intro i hk _ _ _ _ _; exact absurd (by assumption) (Nat.not_lt_zero _)
        | succ N ih27 =>
          intro i hk i0 i1 i2 frlhk hm27
          rcases i1 with ⟨ok, t1⟩ | ⟨L, p1, iL, ok, s0, z0, t1⟩
          · have b3 := ok.len tc0
            have b4 := tc0.p_bd b3.1
            refine z_iload_n (pc := 27) dX7_text_27 rfl 0 rfl ?_
            refine z_sipush (pc := 28) (v := 600) dX7_text_28 (by decide +kernel) ?_
            refine z_icmp_ge (pc := 31) (tgt := 70) dX7_text_31 (by decide) ⟨by omega, by omega⟩ ⟨by decide, by decide⟩ (fun c5 => ?_) (fun c5 => ?_)
            · refine z_aload_n (pc := 70) (x := 1) dX7_text_70 rfl 1 rfl ?_
              refine z_getR (pc := 71) (pl := 0) (f := 4) (ci := 6) (C := RX7) (T := TX7) (N := 13) hu_X7 (by decide) rfl rfl (by decide) rfl (List.mem_cons_of_mem _ (iw2 _ (List.mem_of_getElem? (i := 5) rfl))) rfl dX7_text_71 ?_
              refine z_callV (pc := 74) (kc := kX6_faultKind) (n := 0) (pl := 29) (ci := 5) (C := RX6) (As := []) (stk := []) ct_X6_faultKind_TS (gdV rfl rfl (iw22 _ (List.mem_of_getElem? (i := 5) rfl)) (iw22 _ (List.mem_of_getElem? (i := 6) rfl)) (iw22 _ (List.mem_of_getElem? (i := 7) rfl)) (iw2 _ (List.mem_of_getElem? (i := 4) rfl)) (iw22 _ (List.mem_of_getElem? (i := 8) rfl))) rfl ⟨rfl, rfl⟩ (by decide +kernel) ⟨by decide, by decide⟩ (by decide) rfl rfl dX7_text_74 rfl rfl (Nat.le_of_ble_eq_true rfl) ?_
              refine ⟨S, P, V, m, (cs S P V i.toNat), rfl, t1, fun v6 ev6 => ?_⟩
              obtain rfl := ev6
              refine z_if_eq (pc := 77) (tgt := 91) dX7_text_77 (by decide) ⟨by decide, by decide⟩ (fun _ => ?_) (fun q => absurd q (by decide))
              refine z_aload_n (pc := 91) (x := 1) dX7_text_91 rfl 1 rfl ?_
              refine z_iload_n (pc := 92) dX7_text_92 rfl 0 rfl ?_
              refine z_callV (pc := 93) (kc := kX7_runLines) (n := 1) (pl := 0) (ci := 6) (C := RX7) (As := [AI i]) (stk := []) ct_X7_runLines (gdV rfl rfl (iw24 _ (List.mem_of_getElem? (i := 21) rfl)) (iw24 _ (List.mem_of_getElem? (i := 22) rfl)) (iw24 _ (List.mem_of_getElem? (i := 23) rfl)) (iw1 _ (List.mem_of_getElem? (i := 2) rfl)) (iw25 _ (List.mem_of_getElem? (i := 0) rfl))) rfl ⟨rfl, rfl⟩ (by decide +kernel) ⟨by decide, by decide⟩ (by decide) rfl rfl dX7_text_93 rfl rfl (Nat.le_of_ble_eq_true rfl) ?_
              refine ⟨_, S, P, V, m, rfl, ⟨hpre.1.eq i2.1, t1.1, t1.2.2.2, hV, by omega, ok⟩, fun h7 eh7 => ?_⟩
              have frh7 : Fr [0, 2, 3, 5, 6, 7, 8, 9, 10, 11, 12, 13, 14, 15, 16, 17, 18, 19, 20, 21, 22, 23, 24, 29, 31, 32, 33, 34] hi h7 := (Fr.call frlhk eh7.1 (by decide))
              obtain ⟨r, rR, rA, rB, rI⟩ := eh7.2.2.2
              have rb := rR.bd
              have tf : h7 29 1 = 0 := by rw [eh7.2.2.1 1 (by decide)]; exact i2.2.2
              refine z_aload_n (pc := 96) (x := 1) dX7_text_96 rfl 1 rfl ?_
              refine z_getI (pc := 97) (pl := 0) (f := 9) (ci := 6) (C := RX7) (T := TX7) (N := 13) hu_X7 (by decide) rfl rfl (by decide) rfl (List.mem_cons_of_mem _ (iw2 _ (List.mem_of_getElem? (i := 19) rfl))) rfl (by decide) dX7_text_97 (fun v8 ev8 rv8 => ?_)
              refine z_aload_n (pc := 100) (x := 1) dX7_text_100 rfl 1 rfl ?_
              refine z_getI (pc := 101) (pl := 0) (f := 10) (ci := 6) (C := RX7) (T := TX7) (N := 13) hu_X7 (by decide) rfl rfl (by decide) rfl (List.mem_cons_of_mem _ (iw2 _ (List.mem_of_getElem? (i := 20) rfl))) rfl (by decide) dX7_text_101 (fun v9 ev9 rv9 => ?_)
              refine z_isub (pc := 104) dX7_text_104 (fun v10 ev10 => ?_)
              refine z_iret (pc := 105) rfl dX7_text_105 ?_
              exact hQ v10 h7 ⟨frh7, by first | exact Or.inl ⟨rfl, by omega, rfl⟩ | exact Or.inr ⟨by omega, tf, S, P, V, st, m, tc0, i.toNat, ok, Or.inr ⟨s0, r, RunC.base i2.1 rR, rA, by omega, rI, by omega⟩⟩ | exact Or.inr ⟨by omega, i2.2.2, S, P, V, st, m, tc0, L, ok, Or.inl ⟨s0, ⟨p1, z0, by omega⟩, i2.1, i2.2.1⟩⟩ | (exfalso; omega)⟩
            · refine z_aload_n (pc := 34) (x := 1) dX7_text_34 rfl 1 rfl ?_
              refine z_getR (pc := 35) (pl := 0) (f := 4) (ci := 6) (C := RX7) (T := TX7) (N := 13) hu_X7 (by decide) rfl rfl (by decide) rfl (List.mem_cons_of_mem _ (iw2 _ (List.mem_of_getElem? (i := 5) rfl))) rfl dX7_text_35 ?_
              refine z_callV (pc := 38) (kc := kX6_faultKind) (n := 0) (pl := 29) (ci := 5) (C := RX6) (As := []) (stk := []) ct_X6_faultKind_TS (gdV rfl rfl (iw22 _ (List.mem_of_getElem? (i := 5) rfl)) (iw22 _ (List.mem_of_getElem? (i := 6) rfl)) (iw22 _ (List.mem_of_getElem? (i := 7) rfl)) (iw2 _ (List.mem_of_getElem? (i := 4) rfl)) (iw22 _ (List.mem_of_getElem? (i := 8) rfl))) rfl ⟨rfl, rfl⟩ (by decide +kernel) ⟨by decide, by decide⟩ (by decide) rfl rfl dX7_text_38 rfl rfl (Nat.le_of_ble_eq_true rfl) ?_
              refine ⟨S, P, V, m, (cs S P V i.toNat), rfl, t1, fun v11 ev11 => ?_⟩
              obtain rfl := ev11
              refine z_if_ne (pc := 41) (tgt := 70) dX7_text_41 (by decide) ⟨by decide, by decide⟩ (fun q => absurd q (by decide)) (fun _ => ?_)
              refine z_aload_n (pc := 44) (x := 1) dX7_text_44 rfl 1 rfl ?_
              refine z_getR (pc := 45) (pl := 0) (f := 4) (ci := 6) (C := RX7) (T := TX7) (N := 13) hu_X7 (by decide) rfl rfl (by decide) rfl (List.mem_cons_of_mem _ (iw2 _ (List.mem_of_getElem? (i := 5) rfl))) rfl dX7_text_45 ?_
              refine z_callV (pc := 48) (kc := kX6_sign) (n := 0) (pl := 29) (ci := 5) (C := RX6) (As := []) (stk := []) ct_X6_sign_TS (gdV rfl rfl (iw22 _ (List.mem_of_getElem? (i := 9) rfl)) (iw22 _ (List.mem_of_getElem? (i := 10) rfl)) (iw22 _ (List.mem_of_getElem? (i := 11) rfl)) (iw2 _ (List.mem_of_getElem? (i := 4) rfl)) (iw22 _ (List.mem_of_getElem? (i := 12) rfl))) rfl ⟨rfl, rfl⟩ (by decide +kernel) ⟨by decide, by decide⟩ (by decide) rfl rfl dX7_text_48 rfl rfl (Nat.le_of_ble_eq_true rfl) ?_
              refine ⟨S, P, V, m, (cs S P V i.toNat), rfl, t1, fun v12 ev12 => ?_⟩
              refine z_getstE (pc := 51) (i := 0) (z := 0) (by decide) rfl (List.mem_cons_of_mem _ (iw18 _ (List.mem_of_getElem? (i := 5) rfl))) dX7_text_51 ?_
              refine z_acmp_eq (pc := 54) (tgt := 70) dX7_text_54 (by decide) (by omega) (by omega) (fun c13 => ?_) (fun c13 => ?_)
              · have s0 : S (cs S P V i.toNat) = 0 := by omega
                refine z_aload_n (pc := 70) (x := 1) dX7_text_70 rfl 1 rfl ?_
                refine z_getR (pc := 71) (pl := 0) (f := 4) (ci := 6) (C := RX7) (T := TX7) (N := 13) hu_X7 (by decide) rfl rfl (by decide) rfl (List.mem_cons_of_mem _ (iw2 _ (List.mem_of_getElem? (i := 5) rfl))) rfl dX7_text_71 ?_
                refine z_callV (pc := 74) (kc := kX6_faultKind) (n := 0) (pl := 29) (ci := 5) (C := RX6) (As := []) (stk := []) ct_X6_faultKind_TS (gdV rfl rfl (iw22 _ (List.mem_of_getElem? (i := 5) rfl)) (iw22 _ (List.mem_of_getElem? (i := 6) rfl)) (iw22 _ (List.mem_of_getElem? (i := 7) rfl)) (iw2 _ (List.mem_of_getElem? (i := 4) rfl)) (iw22 _ (List.mem_of_getElem? (i := 8) rfl))) rfl ⟨rfl, rfl⟩ (by decide +kernel) ⟨by decide, by decide⟩ (by decide) rfl rfl dX7_text_74 rfl rfl (Nat.le_of_ble_eq_true rfl) ?_
                refine ⟨S, P, V, m, (cs S P V i.toNat), rfl, t1, fun v14 ev14 => ?_⟩
                obtain rfl := ev14
                refine z_if_eq (pc := 77) (tgt := 91) dX7_text_77 (by decide) ⟨by decide, by decide⟩ (fun _ => ?_) (fun q => absurd q (by decide))
                refine z_aload_n (pc := 91) (x := 1) dX7_text_91 rfl 1 rfl ?_
                refine z_iload_n (pc := 92) dX7_text_92 rfl 0 rfl ?_
                refine z_callV (pc := 93) (kc := kX7_runLines) (n := 1) (pl := 0) (ci := 6) (C := RX7) (As := [AI i]) (stk := []) ct_X7_runLines (gdV rfl rfl (iw24 _ (List.mem_of_getElem? (i := 21) rfl)) (iw24 _ (List.mem_of_getElem? (i := 22) rfl)) (iw24 _ (List.mem_of_getElem? (i := 23) rfl)) (iw1 _ (List.mem_of_getElem? (i := 2) rfl)) (iw25 _ (List.mem_of_getElem? (i := 0) rfl))) rfl ⟨rfl, rfl⟩ (by decide +kernel) ⟨by decide, by decide⟩ (by decide) rfl rfl dX7_text_93 rfl rfl (Nat.le_of_ble_eq_true rfl) ?_
                refine ⟨_, S, P, V, m, rfl, ⟨hpre.1.eq i2.1, t1.1, t1.2.2.2, hV, by omega, ok⟩, fun h15 eh15 => ?_⟩
                have frh15 : Fr [0, 2, 3, 5, 6, 7, 8, 9, 10, 11, 12, 13, 14, 15, 16, 17, 18, 19, 20, 21, 22, 23, 24, 29, 31, 32, 33, 34] hi h15 := (Fr.call frlhk eh15.1 (by decide))
                obtain ⟨r, rR, rA, rB, rI⟩ := eh15.2.2.2
                have rb := rR.bd
                have tf : h15 29 1 = 0 := by rw [eh15.2.2.1 1 (by decide)]; exact i2.2.2
                refine z_aload_n (pc := 96) (x := 1) dX7_text_96 rfl 1 rfl ?_
                refine z_getI (pc := 97) (pl := 0) (f := 9) (ci := 6) (C := RX7) (T := TX7) (N := 13) hu_X7 (by decide) rfl rfl (by decide) rfl (List.mem_cons_of_mem _ (iw2 _ (List.mem_of_getElem? (i := 19) rfl))) rfl (by decide) dX7_text_97 (fun v16 ev16 rv16 => ?_)
                refine z_aload_n (pc := 100) (x := 1) dX7_text_100 rfl 1 rfl ?_
                refine z_getI (pc := 101) (pl := 0) (f := 10) (ci := 6) (C := RX7) (T := TX7) (N := 13) hu_X7 (by decide) rfl rfl (by decide) rfl (List.mem_cons_of_mem _ (iw2 _ (List.mem_of_getElem? (i := 20) rfl))) rfl (by decide) dX7_text_101 (fun v17 ev17 rv17 => ?_)
                refine z_isub (pc := 104) dX7_text_104 (fun v18 ev18 => ?_)
                refine z_iret (pc := 105) rfl dX7_text_105 ?_
                exact hQ v18 h15 ⟨frh15, by first | exact Or.inl ⟨rfl, by omega, rfl⟩ | exact Or.inr ⟨by omega, tf, S, P, V, st, m, tc0, i.toNat, ok, Or.inr ⟨s0, r, RunC.base i2.1 rR, rA, by omega, rI, by omega⟩⟩ | exact Or.inr ⟨by omega, i2.2.2, S, P, V, st, m, tc0, L, ok, Or.inl ⟨s0, ⟨p1, z0, by omega⟩, i2.1, i2.2.1⟩⟩ | (exfalso; omega)⟩
              · have s0 : S (cs S P V i.toNat) ≠ 0 := by omega
                refine z_aload_n (pc := 57) (x := 1) dX7_text_57 rfl 1 rfl ?_
                refine z_getR (pc := 58) (pl := 0) (f := 5) (ci := 6) (C := RX7) (T := TX7) (N := 13) hu_X7 (by decide) rfl rfl (by decide) rfl (List.mem_cons_of_mem _ (iw2 _ (List.mem_of_getElem? (i := 9) rfl))) rfl dX7_text_58 ?_
                refine z_callV (pc := 61) (kc := kX0_read) (n := 0) (pl := 34) (ci := 0) (C := RX0) (As := []) (stk := []) ct_X0_read_TS (gdV rfl rfl (iw22 _ (List.mem_of_getElem? (i := 13) rfl)) (iw22 _ (List.mem_of_getElem? (i := 14) rfl)) (iw22 _ (List.mem_of_getElem? (i := 15) rfl)) (iw2 _ (List.mem_of_getElem? (i := 8) rfl)) (iw22 _ (List.mem_of_getElem? (i := 16) rfl))) rfl ⟨rfl, rfl⟩ (by decide +kernel) ⟨by decide, by decide⟩ (by decide) rfl rfl dX7_text_61 rfl rfl (Nat.le_of_ble_eq_true rfl) ?_
                refine ⟨S, P, V, m, (cs S P V i.toNat), rfl, ⟨t1, hV⟩, fun h19 eh19 => ?_⟩
                have frh19 : Fr [0, 2, 3, 5, 6, 7, 8, 9, 10, 11, 12, 13, 14, 15, 16, 17, 18, 19, 20, 21, 22, 23, 24, 29, 31, 32, 33, 34] hi h19 := (Fr.call frlhk eh19.1 (by decide))
                rcases eh19.2.2.2 with ⟨ch19, veh19, nh19, hh19, oh19, wh19, zh19, th19, lh19⟩ | ⟨ph19, zh19, th19⟩
                · have z62 := zh19
                  refine z_iinc (pc := 64) (j := 0) (w := fun q => (2, AI q) :: [(0, AR 1), (1, AI n)]) dX7_text_64 rfl (by decide) (fun _ => rfl) (fun v20 ev20 => ?_)
                  refine z_goto (pc := 67) (tgt := 27) dX7_text_67 (by decide) ?_
                  exact ih27 v20 h19 (by omega) (by first | exact Or.inl ⟨lnOK_step ok s0 z62 (by omega) (by omega), by rw [cs_ok z62 (by omega) (by omega)]; exact th19⟩ | exact Or.inr ⟨i.toNat, _, by omega, ok, s0, z62, th19⟩) (⟨i2.1.tr (EqC.of eh19.1 (by decide)), by rw [(by rw [(eh19.1 0 (by decide) : h19 0 = hk 0)] : h19 0 = hk 0)]; first | done | exact i2.2.1, by rw [(by rw [(eh19.2.1 1 (by decide) : h19 29 1 = hk 29 1)] : h19 29 1 = hk 29 1)]; exact i2.2.2⟩) (frh19) (by omega)
                · have z62 := zh19
                  refine z_iinc (pc := 64) (j := 0) (w := fun q => (2, AI q) :: [(0, AR 1), (1, AI n)]) dX7_text_64 rfl (by decide) (fun _ => rfl) (fun v21 ev21 => ?_)
                  refine z_goto (pc := 67) (tgt := 27) dX7_text_67 (by decide) ?_
                  exact ih27 v21 h19 (by omega) (by first | exact Or.inl ⟨lnOK_step ok s0 z62 (by omega) (by omega), by rw [cs_ok z62 (by omega) (by omega)]; exact th19⟩ | exact Or.inr ⟨i.toNat, _, by omega, ok, s0, z62, th19⟩) (⟨i2.1.tr (EqC.of eh19.1 (by decide)), by rw [(by rw [(eh19.1 0 (by decide) : h19 0 = hk 0)] : h19 0 = hk 0)]; first | done | exact i2.2.1, by rw [(by rw [(eh19.2.1 1 (by decide) : h19 29 1 = hk 29 1)] : h19 29 1 = hk 29 1)]; exact i2.2.2⟩) (frh19) (by omega)
          · have b3 := ok.len tc0
            have b4 := tc0.p_bd b3.1
            refine z_iload_n (pc := 27) dX7_text_27 rfl 0 rfl ?_
            refine z_sipush (pc := 28) (v := 600) dX7_text_28 (by decide +kernel) ?_
            refine z_icmp_ge (pc := 31) (tgt := 70) dX7_text_31 (by decide) ⟨by omega, by omega⟩ ⟨by decide, by decide⟩ (fun c22 => ?_) (fun c22 => ?_)
            · refine z_aload_n (pc := 70) (x := 1) dX7_text_70 rfl 1 rfl ?_
              refine z_getR (pc := 71) (pl := 0) (f := 4) (ci := 6) (C := RX7) (T := TX7) (N := 13) hu_X7 (by decide) rfl rfl (by decide) rfl (List.mem_cons_of_mem _ (iw2 _ (List.mem_of_getElem? (i := 5) rfl))) rfl dX7_text_71 ?_
              refine z_callV (pc := 74) (kc := kX6_faultKind) (n := 0) (pl := 29) (ci := 5) (C := RX6) (As := []) (stk := []) ct_X6_faultKind_TF (gdV rfl rfl (iw22 _ (List.mem_of_getElem? (i := 5) rfl)) (iw22 _ (List.mem_of_getElem? (i := 6) rfl)) (iw22 _ (List.mem_of_getElem? (i := 7) rfl)) (iw2 _ (List.mem_of_getElem? (i := 4) rfl)) (iw22 _ (List.mem_of_getElem? (i := 8) rfl))) rfl ⟨rfl, rfl⟩ (by decide +kernel) ⟨by decide, by decide⟩ (by decide) rfl rfl dX7_text_74 rfl rfl (Nat.le_of_ble_eq_true rfl) ?_
              refine ⟨S, P, V, m, 1, p1, rfl, t1, fun v23 ev23 => ?_⟩
              obtain rfl := ev23
              refine z_if_eq (pc := 77) (tgt := 91) dX7_text_77 (by decide) ⟨by decide, by decide⟩ (fun q => absurd q (by decide)) (fun _ => ?_)
              refine z_bipush (pc := 80) (v := (-2)) dX7_text_80 (by decide +kernel) ?_
              refine z_aload_n (pc := 82) (x := 1) dX7_text_82 rfl 1 rfl ?_
              refine z_getR (pc := 83) (pl := 0) (f := 4) (ci := 6) (C := RX7) (T := TX7) (N := 13) hu_X7 (by decide) rfl rfl (by decide) rfl (List.mem_cons_of_mem _ (iw2 _ (List.mem_of_getElem? (i := 5) rfl))) rfl dX7_text_83 ?_
              refine z_callV (pc := 86) (kc := kX6_faultPlace) (n := 0) (pl := 29) (ci := 5) (C := RX6) (As := []) (stk := [AI (-2)]) ct_X6_faultPlace_TF (gdV rfl rfl (iw24 _ (List.mem_of_getElem? (i := 17) rfl)) (iw24 _ (List.mem_of_getElem? (i := 18) rfl)) (iw24 _ (List.mem_of_getElem? (i := 19) rfl)) (iw2 _ (List.mem_of_getElem? (i := 4) rfl)) (iw24 _ (List.mem_of_getElem? (i := 20) rfl))) rfl ⟨rfl, rfl⟩ (by decide +kernel) ⟨by decide, by decide⟩ (by decide) rfl rfl dX7_text_86 rfl rfl (Nat.le_of_ble_eq_true rfl) ?_
              refine ⟨S, P, V, m, 1, p1, rfl, t1, fun v24 ev24 => ?_⟩
              refine z_isub (pc := 89) dX7_text_89 (fun v25 ev25 => ?_)
              refine z_iret (pc := 90) rfl dX7_text_90 ?_
              exact hQ v25 hk ⟨frlhk, by first | exact Or.inl ⟨rfl, by omega, rfl⟩ | exact Or.inr ⟨by omega, tf, S, P, V, st, m, tc0, i.toNat, ok, Or.inr ⟨s0, r, RunC.base i2.1 rR, rA, by omega, rI, by omega⟩⟩ | exact Or.inr ⟨by omega, i2.2.2, S, P, V, st, m, tc0, L, ok, Or.inl ⟨s0, ⟨p1, z0, by omega⟩, i2.1, i2.2.1⟩⟩ | (exfalso; omega)⟩
            · refine z_aload_n (pc := 34) (x := 1) dX7_text_34 rfl 1 rfl ?_
              refine z_getR (pc := 35) (pl := 0) (f := 4) (ci := 6) (C := RX7) (T := TX7) (N := 13) hu_X7 (by decide) rfl rfl (by decide) rfl (List.mem_cons_of_mem _ (iw2 _ (List.mem_of_getElem? (i := 5) rfl))) rfl dX7_text_35 ?_
              refine z_callV (pc := 38) (kc := kX6_faultKind) (n := 0) (pl := 29) (ci := 5) (C := RX6) (As := []) (stk := []) ct_X6_faultKind_TF (gdV rfl rfl (iw22 _ (List.mem_of_getElem? (i := 5) rfl)) (iw22 _ (List.mem_of_getElem? (i := 6) rfl)) (iw22 _ (List.mem_of_getElem? (i := 7) rfl)) (iw2 _ (List.mem_of_getElem? (i := 4) rfl)) (iw22 _ (List.mem_of_getElem? (i := 8) rfl))) rfl ⟨rfl, rfl⟩ (by decide +kernel) ⟨by decide, by decide⟩ (by decide) rfl rfl dX7_text_38 rfl rfl (Nat.le_of_ble_eq_true rfl) ?_
              refine ⟨S, P, V, m, 1, p1, rfl, t1, fun v26 ev26 => ?_⟩
              obtain rfl := ev26
              refine z_if_ne (pc := 41) (tgt := 70) dX7_text_41 (by decide) ⟨by decide, by decide⟩ (fun _ => ?_) (fun q => absurd q (by decide))
              refine z_aload_n (pc := 70) (x := 1) dX7_text_70 rfl 1 rfl ?_
              refine z_getR (pc := 71) (pl := 0) (f := 4) (ci := 6) (C := RX7) (T := TX7) (N := 13) hu_X7 (by decide) rfl rfl (by decide) rfl (List.mem_cons_of_mem _ (iw2 _ (List.mem_of_getElem? (i := 5) rfl))) rfl dX7_text_71 ?_
              refine z_callV (pc := 74) (kc := kX6_faultKind) (n := 0) (pl := 29) (ci := 5) (C := RX6) (As := []) (stk := []) ct_X6_faultKind_TF (gdV rfl rfl (iw22 _ (List.mem_of_getElem? (i := 5) rfl)) (iw22 _ (List.mem_of_getElem? (i := 6) rfl)) (iw22 _ (List.mem_of_getElem? (i := 7) rfl)) (iw2 _ (List.mem_of_getElem? (i := 4) rfl)) (iw22 _ (List.mem_of_getElem? (i := 8) rfl))) rfl ⟨rfl, rfl⟩ (by decide +kernel) ⟨by decide, by decide⟩ (by decide) rfl rfl dX7_text_74 rfl rfl (Nat.le_of_ble_eq_true rfl) ?_
              refine ⟨S, P, V, m, 1, p1, rfl, t1, fun v27 ev27 => ?_⟩
              obtain rfl := ev27
              refine z_if_eq (pc := 77) (tgt := 91) dX7_text_77 (by decide) ⟨by decide, by decide⟩ (fun q => absurd q (by decide)) (fun _ => ?_)
              refine z_bipush (pc := 80) (v := (-2)) dX7_text_80 (by decide +kernel) ?_
              refine z_aload_n (pc := 82) (x := 1) dX7_text_82 rfl 1 rfl ?_
              refine z_getR (pc := 83) (pl := 0) (f := 4) (ci := 6) (C := RX7) (T := TX7) (N := 13) hu_X7 (by decide) rfl rfl (by decide) rfl (List.mem_cons_of_mem _ (iw2 _ (List.mem_of_getElem? (i := 5) rfl))) rfl dX7_text_83 ?_
              refine z_callV (pc := 86) (kc := kX6_faultPlace) (n := 0) (pl := 29) (ci := 5) (C := RX6) (As := []) (stk := [AI (-2)]) ct_X6_faultPlace_TF (gdV rfl rfl (iw24 _ (List.mem_of_getElem? (i := 17) rfl)) (iw24 _ (List.mem_of_getElem? (i := 18) rfl)) (iw24 _ (List.mem_of_getElem? (i := 19) rfl)) (iw2 _ (List.mem_of_getElem? (i := 4) rfl)) (iw24 _ (List.mem_of_getElem? (i := 20) rfl))) rfl ⟨rfl, rfl⟩ (by decide +kernel) ⟨by decide, by decide⟩ (by decide) rfl rfl dX7_text_86 rfl rfl (Nat.le_of_ble_eq_true rfl) ?_
              refine ⟨S, P, V, m, 1, p1, rfl, t1, fun v28 ev28 => ?_⟩
              refine z_isub (pc := 89) dX7_text_89 (fun v29 ev29 => ?_)
              refine z_iret (pc := 90) rfl dX7_text_90 ?_
              exact hQ v29 hk ⟨frlhk, by first | exact Or.inl ⟨rfl, by omega, rfl⟩ | exact Or.inr ⟨by omega, tf, S, P, V, st, m, tc0, i.toNat, ok, Or.inr ⟨s0, r, RunC.base i2.1 rR, rA, by omega, rI, by omega⟩⟩ | exact Or.inr ⟨by omega, i2.2.2, S, P, V, st, m, tc0, L, ok, Or.inl ⟨s0, ⟨p1, z0, by omega⟩, i2.1, i2.2.1⟩⟩ | (exfalso; omega)⟩
      exact J27 _ 0 h4 (by omega) (Or.inl ⟨fun i hi0 => absurd hi0 (Nat.not_lt_zero _), ts0⟩) (⟨eq22, by rw [(by rw [(eh4.1 0 (by decide) : h4 0 = hi 0)] : h4 0 = hi 0)], l1⟩) (frh4) (Nat.lt_succ_self _)
    · refine z_iconst (pc := 15) (v := (-1)) dX7_text_15 rfl ?_
      refine z_iret (pc := 16) rfl dX7_text_16 ?_
      exact hQ (-1) hi ⟨(Fr.rf), by first | exact Or.inl ⟨rfl, by omega, rfl⟩ | exact Or.inr ⟨by omega, tf, S, P, V, st, m, tc0, i.toNat, ok, Or.inr ⟨s0, r, RunC.base i2.1 rR, rA, by omega, rI, by omega⟩⟩ | exact Or.inr ⟨by omega, i2.2.2, S, P, V, st, m, tc0, L, ok, Or.inl ⟨s0, ⟨p1, z0, by omega⟩, i2.1, i2.2.1⟩⟩ | (exfalso; omega)⟩
