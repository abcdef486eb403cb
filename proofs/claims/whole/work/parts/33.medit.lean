/-! the plain form's edits, one by one -/
def Z0 (hi : HI) : HI := hput hi 39 (updI (hi 39) 0 0)
theorem MI.z0 {hi : HI} (h : MI hi) : MI (Z0 hi) := h
def Cpd (t g : Nat → Int) : Prop := t 0 = g 0 ∧ t 1 = g 1 ∧ ∀ z : Int, 0 ≤ z → z ≤ 40 → SameE t z g z
theorem comes_put {g t1 t2 t3 : Nat → Int} {k x b d w v : Int} (c : Cpd t1 g) (p : PutAt t1 t2 k x b d w) (e : t3 = updI t2 0 v) (hk : k = g 0) (hv : v = g 0 + 1) (h0 : 0 ≤ g 0 ∧ g 0 ≤ 40) : PutM g (g 0) x (-1) b d w t3 (g 0 + 1) (g 0) := by
  subst hk
  have s : ∀ z, SameE t3 z t2 z := fun z => by
    have key : ∀ j : Nat, j ≠ 0 → (updI t2 0 v) j = t2 j := fun j hj => if_neg hj
    rw [e]; exact ⟨key _ (by omega), key _ (by omega), key _ (by omega), key _ (by omega)⟩
  refine ⟨by omega, fun z => by omega, by rw [e, ← hv]; exact if_pos rfl, by rw [e, ← c.2.1, ← p.2.1]; exact if_neg (by decide), (s _).sy.ent p.2.2.1, fun z z0 z1 zn => ?_⟩
  exact (s z).tr ((p.2.2.2 z z0 zn).tr (c.2.2 z z0 (by omega)))
theorem ends_put {g t1 t2 : Nat → Int} {k x b d w : Int} (c : Cpd t1 g) (p : PutAt t1 t2 k x b d w) (h0 : g 0 ≤ 40) (hk : 0 ≤ k ∧ k < g 0) : PutM g (g 0) x k b d w t2 (g 0) k :=
  ⟨hk, fun z => Iff.rfl, p.1.trans c.1, p.2.1.trans c.2.1, p.2.2.1, fun z z0 z1 zn => (p.2.2.2 z z0 zn).tr (c.2.2 z z0 (by omega))⟩
theorem ends_cut {g t1 t2 : Nat → Int} {k : Int} (c : Cpd t1 g) (p : RemM t1 t2 k) (h0 : g 0 ≤ 40) (hk : 0 ≤ k ∧ k < g 0) : CutM g (g 0) k t2 :=
  ⟨hk, by rw [p.1, c.1], p.2.1.trans c.2.1, fun z z0 z1 => (p.2.2.1 z z0 z1).tr (c.2.2 z z0 (by omega)), fun z z0 z1 => (p.2.2.2 z z0 (by omega)).tr (c.2.2 (z + 1) (by omega) (by omega))⟩
theorem tells_pre {B h : HI} {x o b d w m p : Int} (hm : MI B) (F : Fr [41] B h) (q : PutM (B 40) (B 40 0) x o b d w (h 41) m p) (hb : 0 ≤ b ∧ b < d ∧ d ≤ 64) (hx : 0 ≤ x ∧ x ≤ 999) (hw : 0 ≤ w ∧ w ≤ 99) (hm2 : m ≤ 41) : MI h ∧ (0 ≤ h 41 0 ∧ h 41 0 ≤ 41) ∧ (Rng (h 41) (h 41 0) ∧ PWx (h 41) (h 41 0) x) ∧ inR x := by
  have r := q.rng hm.1 hb hx hw
  have em := q.2.2.1
  have q1 := q.1
  refine ⟨?_, by omega, by rw [em]; exact r, by omega, by omega⟩
  unfold MI; rw [F 40 (by decide), F 39 (by decide)]; exact hm
theorem tells_pre2 {B h : HI} {x o : Int} (hm : MI B) (F : Fr [41] B h) (q : CutM (B 40) (B 40 0) o (h 41)) (hx : 0 ≤ x ∧ x ≤ 999) : MI h ∧ (0 ≤ h 41 0 ∧ h 41 0 ≤ 41) ∧ (Rng (h 41) (h 41 0) ∧ PWx (h 41) (h 41 0) x) ∧ inR x := by
  have r := q.rng hm.1
  have em := q.2.1
  have q1 := q.1
  have q2 := hm.1.1
  refine ⟨?_, by omega, by rw [em]; exact ⟨r.1, fun z y z0 z1 y0 y1 zy e _ => r.2 z y z0 z1 y0 y1 zy e⟩, by omega, by omega⟩
  unfold MI; rw [F 40 (by decide), F 39 (by decide)]; exact hm
theorem NoC.rf {hi : HI} : NoC hi hi := ⟨rfl, rfl, rfl⟩
abbrev kX8_comes : Kd := (cX8_comes, .code yX8_comes cX8_comes 5 (some .int) :: wsL_law0, rmL 6, RX8, (some .int), 5)
theorem ct_X8_comes : Ct kX8_comes yX8_comes (fun a hi Q => ∃ x : Int, ∃ b : Int, ∃ d : Int, ∃ w : Int, a = [AR 40, AI x, AI b, AI d, AI w] ∧ (MI hi ∧ inR x ∧ inR b ∧ inR d ∧ inR w) ∧ ∀ (v : Int) (h2 : HI), (Fr [39, 40, 41, 42] hi h2 ∧ ((v = 1 ∧ ¬ ((0 ≤ x ∧ x ≤ 999) ∧ (0 ≤ b ∧ b < 64) ∧ (0 ≤ w ∧ w ≤ 99) ∧ b < d ∧ d ≤ 64) ∧ NoC hi h2) ∨ (((0 ≤ x ∧ x ≤ 999) ∧ (0 ≤ b ∧ b < 64) ∧ (0 ≤ w ∧ w ≤ 99) ∧ b < d ∧ d ≤ 64) ∧ EdM hi h2 x (-1) b d w v))) → Q (AI v) h2) := by
  refine Ct.of (ws' := _) (by decide +kernel) rfl rfl ?_
  intro a hi Q hT
  obtain ⟨x, b, d, w, rfl, hpre, hQ⟩ := hT
  refine ⟨Nat.le_of_ble_eq_true rfl, ?_⟩
  show Z kX8_comes Q 0 [(0, AR 40), (1, AI x), (2, AI b), (3, AI d), (4, AI w)] [] hi
  refine z_iload_n (pc := 0) dX8_comes_0 rfl 1 rfl ?_
  refine z_callS (pc := 1) (kc := kX8_isNumber) (n := 1) (As := [AI x]) (stk := []) ct_X8_isNumber (gdS rfl rfl (iw9 _ (List.mem_of_getElem? (i := 5) rfl)) (iw9 _ (List.mem_of_getElem? (i := 6) rfl)) (iw1 _ (List.mem_of_getElem? (i := 5) rfl)) (iw9 _ (List.mem_of_getElem? (i := 7) rfl))) rfl ⟨rfl, rfl⟩ (by decide +kernel) ⟨by decide, by decide⟩ dX8_comes_1 rfl rfl (Nat.le_of_ble_eq_true rfl) ?_
  refine ⟨_, rfl, by omega, fun v1 ev1 => ?_⟩
  refine z_if_eq (pc := 4) (tgt := 42) dX8_comes_4 (by decide) ⟨by omega, by omega⟩ (fun c2 => ?_) (fun c2 => ?_)
  · refine z_iconst (pc := 42) (v := 1) dX8_comes_42 rfl ?_
    refine z_iret (pc := 43) rfl dX8_comes_43 ?_
    exact hQ 1 hi ⟨(Fr.rf), by first | exact Or.inl ⟨rfl, by omega, NoC.rf⟩ | exact Or.inr ⟨by omega, ed⟩⟩
  · refine z_iload_n (pc := 7) dX8_comes_7 rfl 2 rfl ?_
    refine z_callS (pc := 8) (kc := kX8_isHour) (n := 1) (As := [AI b]) (stk := []) ct_X8_isHour (gdS rfl rfl (iw9 _ (List.mem_of_getElem? (i := 12) rfl)) (iw9 _ (List.mem_of_getElem? (i := 13) rfl)) (iw1 _ (List.mem_of_getElem? (i := 5) rfl)) (iw9 _ (List.mem_of_getElem? (i := 14) rfl))) rfl ⟨rfl, rfl⟩ (by decide +kernel) ⟨by decide, by decide⟩ dX8_comes_8 rfl rfl (Nat.le_of_ble_eq_true rfl) ?_
    refine ⟨_, rfl, by omega, fun v3 ev3 => ?_⟩
    refine z_if_eq (pc := 11) (tgt := 42) dX8_comes_11 (by decide) ⟨by omega, by omega⟩ (fun c4 => ?_) (fun c4 => ?_)
    · refine z_iconst (pc := 42) (v := 1) dX8_comes_42 rfl ?_
      refine z_iret (pc := 43) rfl dX8_comes_43 ?_
      exact hQ 1 hi ⟨(Fr.rf), by first | exact Or.inl ⟨rfl, by omega, NoC.rf⟩ | exact Or.inr ⟨by omega, ed⟩⟩
    · refine z_iload_n (pc := 14) dX8_comes_14 rfl 3 rfl ?_
      refine z_i2l (pc := 15) dX8_comes_15 ⟨by omega, by omega⟩ ?_
      refine z_iload_n (pc := 16) dX8_comes_16 rfl 2 rfl ?_
      refine z_iconst (pc := 17) (v := 1) dX8_comes_17 rfl ?_
      refine z_iadd (pc := 18) dX8_comes_18 (fun v5 ev5 => ?_)
      refine z_i2l (pc := 19) dX8_comes_19 ⟨by omega, by omega⟩ ?_
      refine z_ldc2 (pc := 20) (v := 64) (x := 64) (List.mem_cons_of_mem _ (iw9 _ (List.mem_of_getElem? (i := 3) rfl))) (by decide +kernel) dX8_comes_20 ?_
      refine z_callS (pc := 23) (kc := kX8_within) (n := 3) (As := [AL d, AL v5, AL 64]) (stk := []) ct_X8_within (gdS rfl rfl (iw9 _ (List.mem_of_getElem? (i := 9) rfl)) (iw9 _ (List.mem_of_getElem? (i := 10) rfl)) (iw1 _ (List.mem_of_getElem? (i := 5) rfl)) (iw9 _ (List.mem_of_getElem? (i := 11) rfl))) rfl ⟨rfl, rfl⟩ (by decide +kernel) ⟨by decide, by decide⟩ dX8_comes_23 rfl rfl (Nat.le_of_ble_eq_true rfl) ?_
      refine ⟨_, _, _, rfl, ⟨⟨by omega, by omega⟩, ⟨by omega, by omega⟩, ⟨by omega, by omega⟩⟩, fun v6 ev6 => ?_⟩
      refine z_if_eq (pc := 26) (tgt := 42) dX8_comes_26 (by decide) ⟨by omega, by omega⟩ (fun c7 => ?_) (fun c7 => ?_)
      · refine z_iconst (pc := 42) (v := 1) dX8_comes_42 rfl ?_
        refine z_iret (pc := 43) rfl dX8_comes_43 ?_
        exact hQ 1 hi ⟨(Fr.rf), by first | exact Or.inl ⟨rfl, by omega, NoC.rf⟩ | exact Or.inr ⟨by omega, ed⟩⟩
      · refine z_iload (pc := 29) dX8_comes_29 4 rfl ?_
        refine z_i2l (pc := 31) dX8_comes_31 ⟨by omega, by omega⟩ ?_
        refine z_lconst (pc := 32) (v := 0) dX8_comes_32 (by decide +kernel) ?_
        refine z_ldc2 (pc := 33) (v := 99) (x := 99) (List.mem_cons_of_mem _ (iw9 _ (List.mem_of_getElem? (i := 4) rfl))) (by decide +kernel) dX8_comes_33 ?_
        refine z_callS (pc := 36) (kc := kX8_within) (n := 3) (As := [AL w, AL 0, AL 99]) (stk := []) ct_X8_within (gdS rfl rfl (iw9 _ (List.mem_of_getElem? (i := 9) rfl)) (iw9 _ (List.mem_of_getElem? (i := 10) rfl)) (iw1 _ (List.mem_of_getElem? (i := 5) rfl)) (iw9 _ (List.mem_of_getElem? (i := 11) rfl))) rfl ⟨rfl, rfl⟩ (by decide +kernel) ⟨by decide, by decide⟩ dX8_comes_36 rfl rfl (Nat.le_of_ble_eq_true rfl) ?_
        refine ⟨_, _, _, rfl, ⟨⟨by omega, by omega⟩, ⟨by omega, by omega⟩, ⟨by omega, by omega⟩⟩, fun v8 ev8 => ?_⟩
        refine z_if_ne (pc := 39) (tgt := 44) dX8_comes_39 (by decide) ⟨by omega, by omega⟩ (fun c9 => ?_) (fun c9 => ?_)
        · refine z_aload_n (pc := 44) (x := 40) dX8_comes_44 rfl 0 rfl ?_
          refine z_getR (pc := 45) (pl := 39) (f := 1) (ci := 7) (C := RX8) (T := TX8) (N := 33) hu_X8 (by decide) rfl rfl (by decide) rfl (List.mem_cons_of_mem _ (iw5 _ (List.mem_of_getElem? (i := 5) rfl))) rfl dX8_comes_45 ?_
          refine z_iconst (pc := 48) (v := 0) dX8_comes_48 rfl ?_
          refine z_aload_n (pc := 49) (x := 40) dX8_comes_49 rfl 0 rfl ?_
          refine z_getR (pc := 50) (pl := 39) (f := 2) (ci := 7) (C := RX8) (T := TX8) (N := 33) hu_X8 (by decide) rfl rfl (by decide) rfl (List.mem_cons_of_mem _ (iw5 _ (List.mem_of_getElem? (i := 6) rfl))) rfl dX8_comes_50 ?_
          refine z_iconst (pc := 53) (v := 0) dX8_comes_53 rfl ?_
          refine z_callS (pc := 54) (kc := kX8_copies) (n := 4) (As := [AR 41, AI 0, AR 42, AI 0]) (stk := []) ct_X8_copies_nt (gdS rfl rfl (iw9 _ (List.mem_of_getElem? (i := 16) rfl)) (iw9 _ (List.mem_of_getElem? (i := 17) rfl)) (iw1 _ (List.mem_of_getElem? (i := 5) rfl)) (iw9 _ (List.mem_of_getElem? (i := 18) rfl))) rfl ⟨rfl, rfl⟩ (by decide +kernel) ⟨by decide, by decide⟩ dX8_comes_54 rfl rfl (Nat.le_of_ble_eq_true rfl) ?_
          refine ⟨_, _, rfl, by omega, fun h10 eh10 => ?_⟩
          have frh10 : Fr [39, 40, 41, 42] hi h10 := (Fr.call (Fr.rf) eh10.1 (by decide))
          have F1 : Fr [41] hi h10 := eh10.1
          have c1 : Cpd (h10 41) (hi 40) := by rw [eh10.2, hput_same]; exact cpy_same
          have n0 := hpre.1.1.1
          have c0 := c1.1
          refine z_aload_n (pc := 57) (x := 40) dX8_comes_57 rfl 0 rfl ?_
          refine z_aload_n (pc := 58) (x := 40) dX8_comes_58 rfl 0 rfl ?_
          refine z_getR (pc := 59) (pl := 39) (f := 2) (ci := 7) (C := RX8) (T := TX8) (N := 33) hu_X8 (by decide) rfl rfl (by decide) rfl (List.mem_cons_of_mem _ (iw5 _ (List.mem_of_getElem? (i := 6) rfl))) rfl dX8_comes_59 ?_
          refine z_iconst (pc := 62) (v := 0) dX8_comes_62 rfl ?_
          refine z_iald (pc := 63) (pl := 41) (by decide) rfl (by decide) (by decide) (by decide) (by decide) dX8_comes_63 (fun v11 ev11 rv11 => ?_)
          replace ev11 : v11 = h10 41 0 := ev11
          refine z_iload_n (pc := 64) dX8_comes_64 rfl 1 rfl ?_
          refine z_iload_n (pc := 65) dX8_comes_65 rfl 2 rfl ?_
          refine z_iload_n (pc := 66) dX8_comes_66 rfl 3 rfl ?_
          refine z_iload (pc := 67) dX8_comes_67 4 rfl ?_
          refine z_callV (pc := 69) (kc := kX8_puts) (n := 5) (pl := 39) (ci := 7) (C := RX8) (As := [AI v11, AI x, AI b, AI d, AI w]) (stk := []) ct_X8_puts (gdV rfl rfl (iw9 _ (List.mem_of_getElem? (i := 19) rfl)) (iw9 _ (List.mem_of_getElem? (i := 20) rfl)) (iw9 _ (List.mem_of_getElem? (i := 21) rfl)) (iw1 _ (List.mem_of_getElem? (i := 5) rfl)) (iw9 _ (List.mem_of_getElem? (i := 22) rfl))) rfl ⟨rfl, rfl⟩ (by decide +kernel) ⟨by decide, by decide⟩ (by decide) rfl rfl dX8_comes_69 rfl rfl (Nat.le_of_ble_eq_true rfl) ?_
          refine ⟨_, _, _, _, _, rfl, by omega, fun h12 eh12 => ?_⟩
          have frh12 : Fr [39, 40, 41, 42] hi h12 := (Fr.call frh10 eh12.1 (by decide))
          have F2 : Fr [41] hi h12 := Fr.call F1 eh12.1 (by decide)
          obtain ⟨f2, w2, p2⟩ := eh12.2
          have m2 : h12 41 = f2 := by rw [w2, hput_same]
          rw [← m2] at p2
          have t0 := p2.1
          refine z_aload_n (pc := 72) (x := 40) dX8_comes_72 rfl 0 rfl ?_
          refine z_getR (pc := 73) (pl := 39) (f := 2) (ci := 7) (C := RX8) (T := TX8) (N := 33) hu_X8 (by decide) rfl rfl (by decide) rfl (List.mem_cons_of_mem _ (iw5 _ (List.mem_of_getElem? (i := 6) rfl))) rfl dX8_comes_73 ?_
          refine z_iconst (pc := 76) (v := 0) dX8_comes_76 rfl ?_
          refine z_dup2 (pc := 77) dX8_comes_77 rfl rfl ?_
          refine z_iald (pc := 78) (pl := 41) (by decide) rfl (by decide) (by decide) (by decide) (by decide) dX8_comes_78 (fun v13 ev13 rv13 => ?_)
          replace ev13 : v13 = h12 41 0 := ev13
          refine z_iconst (pc := 79) (v := 1) dX8_comes_79 rfl ?_
          refine z_iadd (pc := 80) dX8_comes_80 (fun v14 ev14 => ?_)
          refine z_iast (pc := 81) (pl := 41) (by decide) rfl (by decide) (by decide) (by decide) ⟨by omega, by omega⟩ dX8_comes_81 (fun h15 eh15 => ?_)
          replace eh15 : h15 = hput h12 41 (updI (h12 41) 0 v14) := eh15
          have frh15 : Fr [39, 40, 41, 42] hi h15 := (Fr.put frh12 eh15 (by decide))
          have F3 : Fr [41] hi h15 := Fr.put F2 eh15 (by decide)
          have pm := comes_put (x := x) (b := b) (d := d) (w := w) c1 p2 (t3 := h15 41) (by rw [eh15, hput_same]) (by omega) (by omega) n0
          refine z_aload_n (pc := 82) (x := 40) dX8_comes_82 rfl 0 rfl ?_
          refine z_iload_n (pc := 83) dX8_comes_83 rfl 1 rfl ?_
          refine z_callV (pc := 84) (kc := kX8_tells) (n := 1) (pl := 39) (ci := 7) (C := RX8) (As := [AI x]) (stk := []) ct_X8_tells (gdV rfl rfl (iw9 _ (List.mem_of_getElem? (i := 23) rfl)) (iw10 _ (List.mem_of_getElem? (i := 0) rfl)) (iw10 _ (List.mem_of_getElem? (i := 1) rfl)) (iw1 _ (List.mem_of_getElem? (i := 5) rfl)) (iw10 _ (List.mem_of_getElem? (i := 2) rfl))) rfl ⟨rfl, rfl⟩ (by decide +kernel) ⟨by decide, by decide⟩ (by decide) rfl rfl dX8_comes_84 rfl rfl (Nat.le_of_ble_eq_true rfl) ?_
          refine ⟨_, rfl, tells_pre hpre.1 F3 pm (by omega) (by omega) (by omega) (by omega), fun v16 h17 eh17 => ?_⟩
          have frh17 : Fr [39, 40, 41, 42] hi h17 := (Fr.call frh15 eh17.1 (by decide))
          try rw [(by rw [eh15]; rfl : h15 39 = h12 39), (eh12.1 39 (by decide) : h12 39 = h10 39), (eh10.1 39 (by decide) : h10 39 = hi 39)] at eh17
          try rw [(by rw [eh15]; rfl : h15 40 = h12 40), (eh12.1 40 (by decide) : h12 40 = h10 40), (eh10.1 40 (by decide) : h10 40 = hi 40)] at eh17
          try rw [(by rw [eh15]; rfl : h15 42 = h12 42), (eh12.1 42 (by decide) : h12 42 = h10 42), (eh10.1 42 (by decide) : h10 42 = hi 42)] at eh17
          have ed := put_ed hpre.1 F3 pm (by omega) (by omega) eh17.2
          refine z_iret (pc := 87) rfl dX8_comes_87 ?_
          exact hQ v16 h17 ⟨frh17, by first | exact Or.inl ⟨rfl, by omega, NoC.rf⟩ | exact Or.inr ⟨by omega, ed⟩⟩
        · refine z_iconst (pc := 42) (v := 1) dX8_comes_42 rfl ?_
          refine z_iret (pc := 43) rfl dX8_comes_43 ?_
          exact hQ 1 hi ⟨(Fr.rf), by first | exact Or.inl ⟨rfl, by omega, NoC.rf⟩ | exact Or.inr ⟨by omega, ed⟩⟩

abbrev kX8_ends : Kd := (cX8_ends, .code yX8_ends cX8_ends 5 (some .int) :: wsL_law0, rmL 6, RX8, (some .int), 5)
theorem ct_X8_ends : Ct kX8_ends yX8_ends (fun a hi Q => ∃ x : Int, ∃ h : Int, ∃ y : Int, a = [AR 40, AI x, AI h, AI y] ∧ (MI hi ∧ inR x ∧ inR h ∧ (y = 0 ∨ y = 1)) ∧ ∀ (v : Int) (h2 : HI), (Fr [39, 40, 41, 42] hi h2 ∧ ((v = 1 ∧ ¬ ((0 ≤ x ∧ x ≤ 999) ∧ (0 ≤ h ∧ h < 64)) ∧ NoC hi h2) ∨ (((0 ≤ x ∧ x ≤ 999) ∧ (0 ≤ h ∧ h < 64)) ∧ ∃ k : Int, Fst (fun z => nO (hi 40) z = x ∧ al (hi 40) z h) (hi 40 0) k ∧ ((k < 0 ∧ v = 2 ∧ NoC hi h2) ∨ (0 ≤ k ∧ EdM hi h2 x k (bO (hi 40) k) (if y = 0 then h else bO (hi 40) k) (wO (hi 40) k) v))))) → Q (AI v) h2) := by
  refine Ct.of (ws' := _) (by decide +kernel) rfl rfl ?_
  intro a hi Q hT
  obtain ⟨x, h, y, rfl, hpre, hQ⟩ := hT
  refine ⟨Nat.le_of_ble_eq_true rfl, ?_⟩
  show Z kX8_ends Q 0 [(0, AR 40), (1, AI x), (2, AI h), (3, AI y)] [] hi
  refine z_iload_n (pc := 0) dX8_ends_0 rfl 1 rfl ?_
  refine z_callS (pc := 1) (kc := kX8_isNumber) (n := 1) (As := [AI x]) (stk := []) ct_X8_isNumber (gdS rfl rfl (iw9 _ (List.mem_of_getElem? (i := 5) rfl)) (iw9 _ (List.mem_of_getElem? (i := 6) rfl)) (iw1 _ (List.mem_of_getElem? (i := 5) rfl)) (iw9 _ (List.mem_of_getElem? (i := 7) rfl))) rfl ⟨rfl, rfl⟩ (by decide +kernel) ⟨by decide, by decide⟩ dX8_ends_1 rfl rfl (Nat.le_of_ble_eq_true rfl) ?_
  refine ⟨_, rfl, by omega, fun v1 ev1 => ?_⟩
  refine z_if_eq (pc := 4) (tgt := 14) dX8_ends_4 (by decide) ⟨by omega, by omega⟩ (fun c2 => ?_) (fun c2 => ?_)
  · refine z_iconst (pc := 14) (v := 1) dX8_ends_14 rfl ?_
    refine z_iret (pc := 15) rfl dX8_ends_15 ?_
    exact hQ 1 hi ⟨(Fr.rf), by first | exact Or.inl ⟨rfl, by omega, NoC.rf⟩ | exact Or.inr ⟨by omega, _, wf, Or.inl ⟨by omega, rfl, NoC.rf⟩⟩ | exact Or.inr ⟨by omega, _, wf, Or.inr ⟨by omega, cut_ed hpre.1 F2 pm (by (split <;> omega)) te⟩⟩ | exact Or.inr ⟨by omega, _, wf, Or.inr ⟨by omega, by rw [if_pos (by omega)]; exact put_ed hpre.1 F2 pm (by omega) (by omega) te⟩⟩⟩
  · refine z_iload_n (pc := 7) dX8_ends_7 rfl 2 rfl ?_
    refine z_callS (pc := 8) (kc := kX8_isHour) (n := 1) (As := [AI h]) (stk := []) ct_X8_isHour (gdS rfl rfl (iw9 _ (List.mem_of_getElem? (i := 12) rfl)) (iw9 _ (List.mem_of_getElem? (i := 13) rfl)) (iw1 _ (List.mem_of_getElem? (i := 5) rfl)) (iw9 _ (List.mem_of_getElem? (i := 14) rfl))) rfl ⟨rfl, rfl⟩ (by decide +kernel) ⟨by decide, by decide⟩ dX8_ends_8 rfl rfl (Nat.le_of_ble_eq_true rfl) ?_
    refine ⟨_, rfl, by omega, fun v3 ev3 => ?_⟩
    refine z_if_ne (pc := 11) (tgt := 16) dX8_ends_11 (by decide) ⟨by omega, by omega⟩ (fun c4 => ?_) (fun c4 => ?_)
    · refine z_aload_n (pc := 16) (x := 40) dX8_ends_16 rfl 0 rfl ?_
      refine z_getR (pc := 17) (pl := 39) (f := 1) (ci := 7) (C := RX8) (T := TX8) (N := 33) hu_X8 (by decide) rfl rfl (by decide) rfl (List.mem_cons_of_mem _ (iw5 _ (List.mem_of_getElem? (i := 5) rfl))) rfl dX8_ends_17 ?_
      refine z_iload_n (pc := 20) dX8_ends_20 rfl 1 rfl ?_
      refine z_iload_n (pc := 21) dX8_ends_21 rfl 2 rfl ?_
      refine z_callS (pc := 22) (kc := kX8_lifeAt) (n := 3) (As := [AR 41, AI x, AI h]) (stk := []) ct_X8_lifeAt_40 (gdS rfl rfl (iw10 _ (List.mem_of_getElem? (i := 7) rfl)) (iw10 _ (List.mem_of_getElem? (i := 8) rfl)) (iw1 _ (List.mem_of_getElem? (i := 5) rfl)) (iw10 _ (List.mem_of_getElem? (i := 9) rfl))) rfl ⟨rfl, rfl⟩ (by decide +kernel) ⟨by decide, by decide⟩ dX8_ends_22 rfl rfl (Nat.le_of_ble_eq_true rfl) ?_
      refine ⟨_, _, rfl, by have q := hpre.1.1.1; exact ⟨by omega, ⟨by omega, by omega⟩, ⟨by omega, by omega⟩⟩, fun v5 ev5 => ?_⟩
      have wf := ev5
      have n0 := hpre.1.1.1
      have gf := Fst.rng wf n0
      refine z_istore (pc := 25) (lv' := [(4, AI v5), (0, AR 40), (1, AI x), (2, AI h), (3, AI y)]) dX8_ends_25 (by decide) rfl ?_
      refine z_iload (pc := 27) dX8_ends_27 0 rfl ?_
      refine z_iconst (pc := 29) (v := (-1)) dX8_ends_29 rfl ?_
      refine z_icmp_ne (pc := 30) (tgt := 35) dX8_ends_30 (by decide) ⟨by omega, by omega⟩ ⟨by decide, by decide⟩ (fun c6 => ?_) (fun c6 => ?_)
      · refine z_aload_n (pc := 35) (x := 40) dX8_ends_35 rfl 1 rfl ?_
        refine z_getR (pc := 36) (pl := 39) (f := 1) (ci := 7) (C := RX8) (T := TX8) (N := 33) hu_X8 (by decide) rfl rfl (by decide) rfl (List.mem_cons_of_mem _ (iw5 _ (List.mem_of_getElem? (i := 5) rfl))) rfl dX8_ends_36 ?_
        refine z_iconst (pc := 39) (v := 0) dX8_ends_39 rfl ?_
        refine z_aload_n (pc := 40) (x := 40) dX8_ends_40 rfl 1 rfl ?_
        refine z_getR (pc := 41) (pl := 39) (f := 2) (ci := 7) (C := RX8) (T := TX8) (N := 33) hu_X8 (by decide) rfl rfl (by decide) rfl (List.mem_cons_of_mem _ (iw5 _ (List.mem_of_getElem? (i := 6) rfl))) rfl dX8_ends_41 ?_
        refine z_iconst (pc := 44) (v := 0) dX8_ends_44 rfl ?_
        refine z_callS (pc := 45) (kc := kX8_copies) (n := 4) (As := [AR 41, AI 0, AR 42, AI 0]) (stk := []) ct_X8_copies_nt (gdS rfl rfl (iw9 _ (List.mem_of_getElem? (i := 16) rfl)) (iw9 _ (List.mem_of_getElem? (i := 17) rfl)) (iw1 _ (List.mem_of_getElem? (i := 5) rfl)) (iw9 _ (List.mem_of_getElem? (i := 18) rfl))) rfl ⟨rfl, rfl⟩ (by decide +kernel) ⟨by decide, by decide⟩ dX8_ends_45 rfl rfl (Nat.le_of_ble_eq_true rfl) ?_
        refine ⟨_, _, rfl, by omega, fun h7 eh7 => ?_⟩
        have frh7 : Fr [39, 40, 41, 42] hi h7 := (Fr.call (Fr.rf) eh7.1 (by decide))
        have F1 : Fr [41] hi h7 := eh7.1
        have c1 : Cpd (h7 41) (hi 40) := by rw [eh7.2, hput_same]; exact cpy_same
        have pk := Fst.pos wf (by omega)
        have rk := toRng hpre.1.1 ⟨(by omega), pk.1⟩
        have c0 := c1.1
        have ak : al (hi 40) _ h := pk.2.2
        refine z_iload_n (pc := 48) dX8_ends_48 rfl 4 rfl ?_
        refine z_if_ne (pc := 49) (tgt := 63) dX8_ends_49 (by decide) ⟨by omega, by omega⟩ (fun c8 => ?_) (fun c8 => ?_)
        · refine z_aload_n (pc := 63) (x := 40) dX8_ends_63 rfl 1 rfl ?_
          refine z_iload (pc := 64) dX8_ends_64 0 rfl ?_
          refine z_callV (pc := 66) (kc := kX8_leaves) (n := 1) (pl := 39) (ci := 7) (C := RX8) (As := [AI v5]) (stk := []) ct_X8_leaves (gdV rfl rfl (iw13 _ (List.mem_of_getElem? (i := 4) rfl)) (iw13 _ (List.mem_of_getElem? (i := 5) rfl)) (iw13 _ (List.mem_of_getElem? (i := 6) rfl)) (iw1 _ (List.mem_of_getElem? (i := 5) rfl)) (iw13 _ (List.mem_of_getElem? (i := 7) rfl))) rfl ⟨rfl, rfl⟩ (by decide +kernel) ⟨by decide, by decide⟩ (by decide) rfl rfl dX8_ends_66 rfl rfl (Nat.le_of_ble_eq_true rfl) ?_
          refine ⟨_, rfl, by omega, fun h9 eh9 => ?_⟩
          have frh9 : Fr [39, 40, 41, 42] hi h9 := (Fr.call frh7 eh9.1 (by decide))
          have F2 : Fr [41] hi h9 := Fr.call F1 eh9.1 (by decide)
          obtain ⟨f2, w2, p2⟩ := eh9.2
          have m2 : h9 41 = f2 := by rw [w2, hput_same]
          rw [← m2] at p2
          have pm := ends_cut c1 p2 n0.2 (by omega)
          refine z_goto (pc := 69) (tgt := 94) dX8_ends_69 (by decide) ?_
          refine z_aload_n (pc := 94) (x := 40) dX8_ends_94 rfl 1 rfl ?_
          refine z_iload_n (pc := 95) dX8_ends_95 rfl 2 rfl ?_
          refine z_callV (pc := 96) (kc := kX8_tells) (n := 1) (pl := 39) (ci := 7) (C := RX8) (As := [AI x]) (stk := []) ct_X8_tells (gdV rfl rfl (iw9 _ (List.mem_of_getElem? (i := 23) rfl)) (iw10 _ (List.mem_of_getElem? (i := 0) rfl)) (iw10 _ (List.mem_of_getElem? (i := 1) rfl)) (iw1 _ (List.mem_of_getElem? (i := 5) rfl)) (iw10 _ (List.mem_of_getElem? (i := 2) rfl))) rfl ⟨rfl, rfl⟩ (by decide +kernel) ⟨by decide, by decide⟩ (by decide) rfl rfl dX8_ends_96 rfl rfl (Nat.le_of_ble_eq_true rfl) ?_
          refine ⟨_, rfl, by first | exact tells_pre2 hpre.1 F2 pm (by omega) | exact tells_pre hpre.1 F2 pm (by omega) (by omega) (by omega) (by omega), fun v10 h11 eh11 => ?_⟩
          have frh11 : Fr [39, 40, 41, 42] hi h11 := (Fr.call frh9 eh11.1 (by decide))
          try rw [(eh9.1 39 (by decide) : h9 39 = h7 39), (eh7.1 39 (by decide) : h7 39 = hi 39)] at eh11
          try rw [(eh9.1 40 (by decide) : h9 40 = h7 40), (eh7.1 40 (by decide) : h7 40 = hi 40)] at eh11
          try rw [(eh9.1 42 (by decide) : h9 42 = h7 42), (eh7.1 42 (by decide) : h7 42 = hi 42)] at eh11
          have te := eh11.2
          refine z_iret (pc := 99) rfl dX8_ends_99 ?_
          exact hQ v10 h11 ⟨frh11, by first | exact Or.inl ⟨rfl, by omega, NoC.rf⟩ | exact Or.inr ⟨by omega, _, wf, Or.inl ⟨by omega, rfl, NoC.rf⟩⟩ | exact Or.inr ⟨by omega, _, wf, Or.inr ⟨by omega, cut_ed hpre.1 F2 pm (by (split <;> omega)) te⟩⟩ | exact Or.inr ⟨by omega, _, wf, Or.inr ⟨by omega, by rw [if_pos (by omega)]; exact put_ed hpre.1 F2 pm (by omega) (by omega) te⟩⟩⟩
        · refine z_aload_n (pc := 52) (x := 40) dX8_ends_52 rfl 1 rfl ?_
          refine z_iload (pc := 53) dX8_ends_53 0 rfl ?_
          refine z_iconst (pc := 55) (v := 1) dX8_ends_55 rfl ?_
          refine z_callV (pc := 56) (kc := kX8_its) (n := 2) (pl := 39) (ci := 7) (C := RX8) (As := [AI v5, AI 1]) (stk := []) ct_X8_its (gdV rfl rfl (iw13 _ (List.mem_of_getElem? (i := 0) rfl)) (iw13 _ (List.mem_of_getElem? (i := 1) rfl)) (iw13 _ (List.mem_of_getElem? (i := 2) rfl)) (iw1 _ (List.mem_of_getElem? (i := 5) rfl)) (iw13 _ (List.mem_of_getElem? (i := 3) rfl))) rfl ⟨rfl, rfl⟩ (by decide +kernel) ⟨by decide, by decide⟩ (by decide) rfl rfl dX8_ends_56 rfl rfl (Nat.le_of_ble_eq_true rfl) ?_
          refine ⟨_, _, rfl, by have q := (Fst.pos wf (by omega)).1; omega, fun v12 ev12 => ?_⟩
          try rw [(eh7.1 40 (by decide) : h7 40 = hi 40)] at ev12
          replace ev12 : v12 = bO (hi 40) v5 ∧ inR v12 := ev12
          refine z_iload_n (pc := 59) dX8_ends_59 rfl 3 rfl ?_
          refine z_icmp_ne (pc := 60) (tgt := 72) dX8_ends_60 (by decide) ⟨by omega, by omega⟩ ⟨by omega, by omega⟩ (fun c13 => ?_) (fun c13 => ?_)
          · refine z_aload_n (pc := 72) (x := 40) dX8_ends_72 rfl 1 rfl ?_
            refine z_iload (pc := 73) dX8_ends_73 0 rfl ?_
            refine z_iload_n (pc := 75) dX8_ends_75 rfl 2 rfl ?_
            refine z_aload_n (pc := 76) (x := 40) dX8_ends_76 rfl 1 rfl ?_
            refine z_iload (pc := 77) dX8_ends_77 0 rfl ?_
            refine z_iconst (pc := 79) (v := 1) dX8_ends_79 rfl ?_
            refine z_callV (pc := 80) (kc := kX8_its) (n := 2) (pl := 39) (ci := 7) (C := RX8) (As := [AI v5, AI 1]) (stk := [AI x, AI v5, AR 40]) ct_X8_its (gdV rfl rfl (iw13 _ (List.mem_of_getElem? (i := 0) rfl)) (iw13 _ (List.mem_of_getElem? (i := 1) rfl)) (iw13 _ (List.mem_of_getElem? (i := 2) rfl)) (iw1 _ (List.mem_of_getElem? (i := 5) rfl)) (iw13 _ (List.mem_of_getElem? (i := 3) rfl))) rfl ⟨rfl, rfl⟩ (by decide +kernel) ⟨by decide, by decide⟩ (by decide) rfl rfl dX8_ends_80 rfl rfl (Nat.le_of_ble_eq_true rfl) ?_
            refine ⟨_, _, rfl, by have q := (Fst.pos wf (by omega)).1; omega, fun v14 ev14 => ?_⟩
            try rw [(eh7.1 40 (by decide) : h7 40 = hi 40)] at ev14
            replace ev14 : v14 = bO (hi 40) v5 ∧ inR v14 := ev14
            refine z_iload_n (pc := 83) dX8_ends_83 rfl 3 rfl ?_
            refine z_aload_n (pc := 84) (x := 40) dX8_ends_84 rfl 1 rfl ?_
            refine z_iload (pc := 85) dX8_ends_85 0 rfl ?_
            refine z_iconst (pc := 87) (v := 3) dX8_ends_87 rfl ?_
            refine z_callV (pc := 88) (kc := kX8_its) (n := 2) (pl := 39) (ci := 7) (C := RX8) (As := [AI v5, AI 3]) (stk := [AI h, AI v14, AI x, AI v5, AR 40]) ct_X8_its (gdV rfl rfl (iw13 _ (List.mem_of_getElem? (i := 0) rfl)) (iw13 _ (List.mem_of_getElem? (i := 1) rfl)) (iw13 _ (List.mem_of_getElem? (i := 2) rfl)) (iw1 _ (List.mem_of_getElem? (i := 5) rfl)) (iw13 _ (List.mem_of_getElem? (i := 3) rfl))) rfl ⟨rfl, rfl⟩ (by decide +kernel) ⟨by decide, by decide⟩ (by decide) rfl rfl dX8_ends_88 rfl rfl (Nat.le_of_ble_eq_true rfl) ?_
            refine ⟨_, _, rfl, by have q := (Fst.pos wf (by omega)).1; omega, fun v15 ev15 => ?_⟩
            try rw [(eh7.1 40 (by decide) : h7 40 = hi 40)] at ev15
            replace ev15 : v15 = wO (hi 40) v5 ∧ inR v15 := ev15
            refine z_callV (pc := 91) (kc := kX8_puts) (n := 5) (pl := 39) (ci := 7) (C := RX8) (As := [AI v5, AI x, AI v14, AI h, AI v15]) (stk := []) ct_X8_puts (gdV rfl rfl (iw9 _ (List.mem_of_getElem? (i := 19) rfl)) (iw9 _ (List.mem_of_getElem? (i := 20) rfl)) (iw9 _ (List.mem_of_getElem? (i := 21) rfl)) (iw1 _ (List.mem_of_getElem? (i := 5) rfl)) (iw9 _ (List.mem_of_getElem? (i := 22) rfl))) rfl ⟨rfl, rfl⟩ (by decide +kernel) ⟨by decide, by decide⟩ (by decide) rfl rfl dX8_ends_91 rfl rfl (Nat.le_of_ble_eq_true rfl) ?_
            refine ⟨_, _, _, _, _, rfl, by omega, fun h16 eh16 => ?_⟩
            have frh16 : Fr [39, 40, 41, 42] hi h16 := (Fr.call frh7 eh16.1 (by decide))
            have F2 : Fr [41] hi h16 := Fr.call F1 eh16.1 (by decide)
            obtain ⟨f2, w2, p2⟩ := eh16.2
            have m2 : h16 41 = f2 := by rw [w2, hput_same]
            rw [← m2] at p2
            have pm := ends_put c1 p2 n0.2 (by omega)
            rw [show v14 = bO (hi 40) v5 by omega, show v15 = wO (hi 40) v5 by omega] at pm
            refine z_aload_n (pc := 94) (x := 40) dX8_ends_94 rfl 1 rfl ?_
            refine z_iload_n (pc := 95) dX8_ends_95 rfl 2 rfl ?_
            refine z_callV (pc := 96) (kc := kX8_tells) (n := 1) (pl := 39) (ci := 7) (C := RX8) (As := [AI x]) (stk := []) ct_X8_tells (gdV rfl rfl (iw9 _ (List.mem_of_getElem? (i := 23) rfl)) (iw10 _ (List.mem_of_getElem? (i := 0) rfl)) (iw10 _ (List.mem_of_getElem? (i := 1) rfl)) (iw1 _ (List.mem_of_getElem? (i := 5) rfl)) (iw10 _ (List.mem_of_getElem? (i := 2) rfl))) rfl ⟨rfl, rfl⟩ (by decide +kernel) ⟨by decide, by decide⟩ (by decide) rfl rfl dX8_ends_96 rfl rfl (Nat.le_of_ble_eq_true rfl) ?_
            refine ⟨_, rfl, by first | exact tells_pre2 hpre.1 F2 pm (by omega) | exact tells_pre hpre.1 F2 pm (by omega) (by omega) (by omega) (by omega), fun v17 h18 eh18 => ?_⟩
            have frh18 : Fr [39, 40, 41, 42] hi h18 := (Fr.call frh16 eh18.1 (by decide))
            try rw [(eh16.1 39 (by decide) : h16 39 = h7 39), (eh7.1 39 (by decide) : h7 39 = hi 39)] at eh18
            try rw [(eh16.1 40 (by decide) : h16 40 = h7 40), (eh7.1 40 (by decide) : h7 40 = hi 40)] at eh18
            try rw [(eh16.1 42 (by decide) : h16 42 = h7 42), (eh7.1 42 (by decide) : h7 42 = hi 42)] at eh18
            have te := eh18.2
            refine z_iret (pc := 99) rfl dX8_ends_99 ?_
            exact hQ v17 h18 ⟨frh18, by first | exact Or.inl ⟨rfl, by omega, NoC.rf⟩ | exact Or.inr ⟨by omega, _, wf, Or.inl ⟨by omega, rfl, NoC.rf⟩⟩ | exact Or.inr ⟨by omega, _, wf, Or.inr ⟨by omega, cut_ed hpre.1 F2 pm (by (split <;> omega)) te⟩⟩ | exact Or.inr ⟨by omega, _, wf, Or.inr ⟨by omega, by rw [if_pos (by omega)]; exact put_ed hpre.1 F2 pm (by omega) (by omega) te⟩⟩⟩
          · refine z_aload_n (pc := 63) (x := 40) dX8_ends_63 rfl 1 rfl ?_
            refine z_iload (pc := 64) dX8_ends_64 0 rfl ?_
            refine z_callV (pc := 66) (kc := kX8_leaves) (n := 1) (pl := 39) (ci := 7) (C := RX8) (As := [AI v5]) (stk := []) ct_X8_leaves (gdV rfl rfl (iw13 _ (List.mem_of_getElem? (i := 4) rfl)) (iw13 _ (List.mem_of_getElem? (i := 5) rfl)) (iw13 _ (List.mem_of_getElem? (i := 6) rfl)) (iw1 _ (List.mem_of_getElem? (i := 5) rfl)) (iw13 _ (List.mem_of_getElem? (i := 7) rfl))) rfl ⟨rfl, rfl⟩ (by decide +kernel) ⟨by decide, by decide⟩ (by decide) rfl rfl dX8_ends_66 rfl rfl (Nat.le_of_ble_eq_true rfl) ?_
            refine ⟨_, rfl, by omega, fun h19 eh19 => ?_⟩
            have frh19 : Fr [39, 40, 41, 42] hi h19 := (Fr.call frh7 eh19.1 (by decide))
            have F2 : Fr [41] hi h19 := Fr.call F1 eh19.1 (by decide)
            obtain ⟨f2, w2, p2⟩ := eh19.2
            have m2 : h19 41 = f2 := by rw [w2, hput_same]
            rw [← m2] at p2
            have pm := ends_cut c1 p2 n0.2 (by omega)
            refine z_goto (pc := 69) (tgt := 94) dX8_ends_69 (by decide) ?_
            refine z_aload_n (pc := 94) (x := 40) dX8_ends_94 rfl 1 rfl ?_
            refine z_iload_n (pc := 95) dX8_ends_95 rfl 2 rfl ?_
            refine z_callV (pc := 96) (kc := kX8_tells) (n := 1) (pl := 39) (ci := 7) (C := RX8) (As := [AI x]) (stk := []) ct_X8_tells (gdV rfl rfl (iw9 _ (List.mem_of_getElem? (i := 23) rfl)) (iw10 _ (List.mem_of_getElem? (i := 0) rfl)) (iw10 _ (List.mem_of_getElem? (i := 1) rfl)) (iw1 _ (List.mem_of_getElem? (i := 5) rfl)) (iw10 _ (List.mem_of_getElem? (i := 2) rfl))) rfl ⟨rfl, rfl⟩ (by decide +kernel) ⟨by decide, by decide⟩ (by decide) rfl rfl dX8_ends_96 rfl rfl (Nat.le_of_ble_eq_true rfl) ?_
            refine ⟨_, rfl, by first | exact tells_pre2 hpre.1 F2 pm (by omega) | exact tells_pre hpre.1 F2 pm (by omega) (by omega) (by omega) (by omega), fun v20 h21 eh21 => ?_⟩
            have frh21 : Fr [39, 40, 41, 42] hi h21 := (Fr.call frh19 eh21.1 (by decide))
            try rw [(eh19.1 39 (by decide) : h19 39 = h7 39), (eh7.1 39 (by decide) : h7 39 = hi 39)] at eh21
            try rw [(eh19.1 40 (by decide) : h19 40 = h7 40), (eh7.1 40 (by decide) : h7 40 = hi 40)] at eh21
            try rw [(eh19.1 42 (by decide) : h19 42 = h7 42), (eh7.1 42 (by decide) : h7 42 = hi 42)] at eh21
            have te := eh21.2
            refine z_iret (pc := 99) rfl dX8_ends_99 ?_
            exact hQ v20 h21 ⟨frh21, by first | exact Or.inl ⟨rfl, by omega, NoC.rf⟩ | exact Or.inr ⟨by omega, _, wf, Or.inl ⟨by omega, rfl, NoC.rf⟩⟩ | exact Or.inr ⟨by omega, _, wf, Or.inr ⟨by omega, cut_ed hpre.1 F2 pm (by (split <;> omega)) te⟩⟩ | exact Or.inr ⟨by omega, _, wf, Or.inr ⟨by omega, by rw [if_pos (by omega)]; exact put_ed hpre.1 F2 pm (by omega) (by omega) te⟩⟩⟩
      · refine z_iconst (pc := 33) (v := 2) dX8_ends_33 rfl ?_
        refine z_iret (pc := 34) rfl dX8_ends_34 ?_
        exact hQ 2 hi ⟨(Fr.rf), by first | exact Or.inl ⟨rfl, by omega, NoC.rf⟩ | exact Or.inr ⟨by omega, _, wf, Or.inl ⟨by omega, rfl, NoC.rf⟩⟩ | exact Or.inr ⟨by omega, _, wf, Or.inr ⟨by omega, cut_ed hpre.1 F2 pm (by (split <;> omega)) te⟩⟩ | exact Or.inr ⟨by omega, _, wf, Or.inr ⟨by omega, by rw [if_pos (by omega)]; exact put_ed hpre.1 F2 pm (by omega) (by omega) te⟩⟩⟩
    · refine z_iconst (pc := 14) (v := 1) dX8_ends_14 rfl ?_
      refine z_iret (pc := 15) rfl dX8_ends_15 ?_
      exact hQ 1 hi ⟨(Fr.rf), by first | exact Or.inl ⟨rfl, by omega, NoC.rf⟩ | exact Or.inr ⟨by omega, _, wf, Or.inl ⟨by omega, rfl, NoC.rf⟩⟩ | exact Or.inr ⟨by omega, _, wf, Or.inr ⟨by omega, cut_ed hpre.1 F2 pm (by (split <;> omega)) te⟩⟩ | exact Or.inr ⟨by omega, _, wf, Or.inr ⟨by omega, by rw [if_pos (by omega)]; exact put_ed hpre.1 F2 pm (by omega) (by omega) te⟩⟩⟩
