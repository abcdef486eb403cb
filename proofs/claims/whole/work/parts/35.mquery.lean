/-! questions to the plain form -/
theorem ak_none {f : Nat → Int} {h i : Int} : ∀ {n : Nat}, (∀ z : Int, 0 ≤ z → z < n → ¬ (al f z h ∧ cA f h z.toNat = i)) → ak f h n i = -2
  | 0, _ => rfl
  | n + 1, q => by
    rw [ak_succ, if_neg (fun c => q n (by omega) (by omega) ⟨c.2, c.1⟩)]
    exact ak_none (fun z z0 z1 => q z z0 (by omega))
theorem kth_ak {f : Nat → Int} {n h k i v : Int} (hn : 0 ≤ n) (w : Fst (fun z => al f z h ∧ cA f h z.toNat = k) n i) (hv : (i < 0 ∧ v = -2) ∨ (0 ≤ i ∧ v = nO f i)) : v = ak f h n.toNat k := by
  rcases w with ⟨a1, a2, a3, a4⟩ | ⟨a1, a2⟩
  · rcases hv with c | c
    · omega
    · have := ak_at (f := f) (h := h) (i := k) (n := n.toNat) (z := i.toNat) (by omega) (by rw [show ((i.toNat : Nat) : Int) = i by omega]; exact a3.1) a3.2
      rw [this, c.2]; congr 1; omega
  · rcases hv with c | c
    · rw [c.2, ak_none (fun z z0 z1 => a2 z z0 (by omega))]
    · omega
theorem cntP_all {P : Int → Prop} : ∀ {n : Nat}, cntP P n = n ↔ ∀ z : Int, 0 ≤ z → z < n → P z
  | 0 => ⟨fun _ z z0 z1 => by omega, fun _ => rfl⟩
  | n + 1 => by
    have ih := cntP_all (P := P) (n := n)
    have bd := cntP_bd (P := P) n
    have e : cntP P (n + 1) = cntP P n + @ite Int (P n) (Classical.propDecidable _) 1 0 := rfl
    rw [e]
    by_cases q : P n
    · rw [if_pos q]
      refine ⟨fun c z z0 z1 => ?_, fun c => ?_⟩
      · by_cases q2 : z = n
        · rw [q2]; exact q
        · exact ih.mp (by omega) z z0 (by omega)
      · have := ih.mpr (fun z z0 z1 => c z z0 (by omega)); omega
    · rw [if_neg q]
      exact ⟨fun c => by omega, fun c => absurd (c n (by omega) (by omega)) q⟩
theorem cntP_some {P : Int → Prop} : ∀ {n : Nat}, 0 < cntP P n ↔ ∃ z : Int, 0 ≤ z ∧ z < n ∧ P z
  | 0 => ⟨fun c => absurd (show (0 : Int) < 0 from c) (by decide), fun ⟨z, z0, z1, _⟩ => by omega⟩
  | n + 1 => by
    have ih := cntP_some (P := P) (n := n)
    have bd := cntP_bd (P := P) n
    have e : cntP P (n + 1) = cntP P n + @ite Int (P n) (Classical.propDecidable _) 1 0 := rfl
    rw [e]
    by_cases q : P n
    · rw [if_pos q]
      exact ⟨fun _ => ⟨n, by omega, by omega, q⟩, fun _ => by omega⟩
    · rw [if_neg q]
      refine ⟨fun c => ?_, fun ⟨z, z0, z1, p⟩ => ?_⟩
      · obtain ⟨z, z0, z1, p⟩ := ih.mp (by omega)
        exact ⟨z, z0, by omega, p⟩
      · have : z ≠ n := fun c => q (c ▸ p)
        have := ih.mpr ⟨z, z0, by omega, p⟩; omega
/-- how many hours from a to b a number lives -/
noncomputable def cHr (f : Nat → Int) (n x a b : Int) : Int := cntP (fun j => Hrs f n x (-1) (a + j)) (b - a + 1).toNat
theorem cHr_all {f : Nat → Int} {n x a b : Int} (h : a ≤ b) : cHr f n x a b = b - a + 1 ↔ AllH f n x a b := by
  have e : ((b - a + 1).toNat : Int) = b - a + 1 := by omega
  have q := cntP_all (P := fun j => Hrs f n x (-1) (a + j)) (n := (b - a + 1).toNat)
  rw [e] at q
  unfold cHr AllH
  rw [q]
  refine ⟨fun c h h0 h1 => ?_, fun c z z0 z1 => c _ (by omega) (by omega)⟩
  have := c (h - a) (by omega) (by omega)
  rw [show a + (h - a) = h by omega] at this; exact this
theorem cHr_some {f : Nat → Int} {n x a b : Int} (h : a ≤ b) : 0 < cHr f n x a b ↔ SomeH f n x a b := by
  have e : ((b - a + 1).toNat : Int) = b - a + 1 := by omega
  have q := cntP_some (P := fun j => Hrs f n x (-1) (a + j)) (n := (b - a + 1).toNat)
  rw [e] at q
  unfold cHr SomeH
  rw [q]
  refine ⟨fun ⟨z, z0, z1, p⟩ => ⟨a + z, by omega, by omega, p⟩, fun ⟨h, h0, h1, p⟩ => ⟨h - a, by omega, by omega, ?_⟩⟩
  rw [show a + (h - a) = h by omega]; exact p
theorem cHr_bd {f : Nat → Int} {n x a b : Int} (h : a ≤ b) : 0 ≤ cHr f n x a b ∧ cHr f n x a b ≤ b - a + 1 := by
  have := cntP_bd (P := fun j => Hrs f n x (-1) (a + j)) (b - a + 1).toNat
  unfold cHr; omega
theorem gs_bd {A : Int → Int} (hA : ∀ i, -2 ≤ A i ∧ A i ≤ 999) : ∀ k, (-2 ≤ (gs A k).1 ∧ (gs A k).1 ≤ 999) ∧ 0 ≤ (gs A k).2 ∧ (gs A k).2 ≤ 1001
  | 0 => by unfold gs; simp
  | k + 1 => by
    have ih := gs_bd hA k
    have h1 := hA (k + 1)
    have h2 := hA k
    unfold gs
    split
    · simp only; omega
    · exact ih
theorem gs_step {A : Int → Int} {k k' b m u w b' m' : Int} (h0 : 0 ≤ k) (hk : k' = k + 1) (i : (b, m) = gs A k.toNat) (hu : u = A (k + 1)) (hw : w = A k) (hc : (m < u - w ∧ b' = w ∧ m' = u - w) ∨ (u - w ≤ m ∧ b' = b ∧ m' = m)) : (b', m') = gs A k'.toNat := by
  obtain ⟨n, rfl⟩ : ∃ n : Nat, k = n := ⟨k.toNat, by omega⟩
  subst hk
  have e : ((n : Int) + 1).toNat = n + 1 := by omega
  rw [Int.toNat_natCast] at i
  rw [e]
  unfold gs
  rw [← i, ← hu, ← hw]
  rcases hc with ⟨c1, c2, c3⟩ | ⟨c1, c2, c3⟩
  · rw [if_pos c1, c2, c3]
  · rw [if_neg (by simp only; omega), c2, c3]
abbrev kX8_countAt : Kd := (cX8_countAt, .code yX8_countAt cX8_countAt 4 (some .int) :: wsL_law0, rmL 3, RX8, (some .int), 4)
theorem ct_X8_countAt : Ct kX8_countAt yX8_countAt (fun a hi Q => ∃ h : Int, a = [AR 40, AI h] ∧ (RI (hi 40) (hi 40 0) ∧ inR h) ∧ ∀ v : Int, (v = sm (fun z => if al (hi 40) z h then 1 else 0) (hi 40 0).toNat) → Q (AI v) hi) := by
  refine Ct.of (ws' := _) (by decide +kernel) rfl rfl ?_
  intro a hi Q hT
  obtain ⟨h, rfl, hpre, hQ⟩ := hT
  refine ⟨Nat.le_of_ble_eq_true rfl, ?_⟩
  show Z kX8_countAt Q 0 [(0, AR 40), (1, AI h)] [] hi
  refine z_iconst (pc := 0) (v := 0) dX8_countAt_0 rfl ?_
  refine z_istore_n (pc := 1) (lv' := [(2, AI 0), (0, AR 40), (1, AI h)]) dX8_countAt_1 rfl (by decide) rfl ?_
  refine z_iconst (pc := 2) (v := 0) dX8_countAt_2 rfl ?_
  refine z_istore_n (pc := 3) (lv' := [(3, AI 0), (2, AI 0), (0, AR 40), (1, AI h)]) dX8_countAt_3 rfl (by decide) rfl ?_
  have n0 := hpre.1.1
  have J4 : ∀ (N : Nat) (k acc : Int), (0 ≤ k ∧ k ≤ hi 40 0) → (acc = sm (fun z => if al (hi 40) z h then 1 else 0) k.toNat) → ((hi 40 0 - k).toNat) < N → Z kX8_countAt Q 4 [(3, AI k), (2, AI acc), (0, AR 40), (1, AI h)] [] hi := by
    intro N
    induction N with
    | zero => intro k acc _ _ _; exact absurd (by assumption) (Nat.not_lt_zero _)
    | succ N ih4 =>
      intro k acc i0 i1 hm4
      refine z_iload_n (pc := 4) dX8_countAt_4 rfl 0 rfl ?_
      refine z_aload_n (pc := 5) (x := 40) dX8_countAt_5 rfl 2 rfl ?_
      refine z_getR (pc := 6) (pl := 39) (f := 1) (ci := 7) (C := RX8) (T := TX8) (N := 33) hu_X8 (by decide) rfl rfl (by decide) rfl (List.mem_cons_of_mem _ (iw5 _ (List.mem_of_getElem? (i := 5) rfl))) rfl dX8_countAt_6 ?_
      refine z_iconst (pc := 9) (v := 0) dX8_countAt_9 rfl ?_
      refine z_iald (pc := 10) (pl := 40) (by decide) rfl (by decide) (by decide) (by decide) (by decide) dX8_countAt_10 (fun v1 ev1 rv1 => ?_)
      replace ev1 : v1 = hi 40 0 := ev1
      refine z_icmp_ge (pc := 11) (tgt := 40) dX8_countAt_11 (by decide) ⟨by omega, by omega⟩ ⟨by omega, by omega⟩ (fun c2 => ?_) (fun c2 => ?_)
      · refine z_iload_n (pc := 40) dX8_countAt_40 rfl 1 rfl ?_
        refine z_iret (pc := 41) rfl dX8_countAt_41 ?_
        exact hQ acc (by rw [i1, show k = hi 40 0 by omega])
      · refine z_iload_n (pc := 14) dX8_countAt_14 rfl 1 rfl ?_
        refine z_aload_n (pc := 15) (x := 40) dX8_countAt_15 rfl 2 rfl ?_
        refine z_getR (pc := 16) (pl := 39) (f := 1) (ci := 7) (C := RX8) (T := TX8) (N := 33) hu_X8 (by decide) rfl rfl (by decide) rfl (List.mem_cons_of_mem _ (iw5 _ (List.mem_of_getElem? (i := 5) rfl))) rfl dX8_countAt_16 ?_
        refine z_iload_n (pc := 19) dX8_countAt_19 rfl 0 rfl ?_
        refine z_iload_n (pc := 20) dX8_countAt_20 rfl 3 rfl ?_
        refine z_callS (pc := 21) (kc := kX8_lives) (n := 3) (As := [AR 41, AI k, AI h]) (stk := [AI acc]) ct_X8_lives_40 (gdS rfl rfl (iw10 _ (List.mem_of_getElem? (i := 13) rfl)) (iw10 _ (List.mem_of_getElem? (i := 14) rfl)) (iw1 _ (List.mem_of_getElem? (i := 5) rfl)) (iw10 _ (List.mem_of_getElem? (i := 15) rfl))) rfl ⟨rfl, rfl⟩ (by decide +kernel) ⟨by decide, by decide⟩ dX8_countAt_21 rfl rfl (Nat.le_of_ble_eq_true rfl) ?_
        refine ⟨_, _, rfl, by omega, fun v3 ev3 => ?_⟩
        refine z_if_eq (pc := 24) (tgt := 31) dX8_countAt_24 (by decide) ⟨by omega, by omega⟩ (fun c4 => ?_) (fun c4 => ?_)
        · refine z_iconst (pc := 31) (v := 0) dX8_countAt_31 rfl ?_
          refine z_iadd (pc := 32) dX8_countAt_32 (fun v5 ev5 => ?_)
          refine z_istore_n (pc := 33) (lv' := [(2, AI v5), (3, AI k), (0, AR 40), (1, AI h)]) dX8_countAt_33 rfl (by decide) rfl ?_
          refine z_iinc (pc := 34) (j := 1) (w := fun q => (3, AI q) :: [(2, AI v5), (0, AR 40), (1, AI h)]) dX8_countAt_34 rfl (by decide) (fun _ => rfl) (fun v6 ev6 => ?_)
          refine z_goto (pc := 37) (tgt := 4) dX8_countAt_37 (by decide) ?_
          exact ih4 v6 v5 (by omega) (sm_step (by omega) (by omega) i1 (by first | omega | (split <;> omega))) (by omega)
        · refine z_iconst (pc := 27) (v := 1) dX8_countAt_27 rfl ?_
          refine z_goto (pc := 28) (tgt := 32) dX8_countAt_28 (by decide) ?_
          refine z_iadd (pc := 32) dX8_countAt_32 (fun v7 ev7 => ?_)
          refine z_istore_n (pc := 33) (lv' := [(2, AI v7), (3, AI k), (0, AR 40), (1, AI h)]) dX8_countAt_33 rfl (by decide) rfl ?_
          refine z_iinc (pc := 34) (j := 1) (w := fun q => (3, AI q) :: [(2, AI v7), (0, AR 40), (1, AI h)]) dX8_countAt_34 rfl (by decide) (fun _ => rfl) (fun v8 ev8 => ?_)
          refine z_goto (pc := 37) (tgt := 4) dX8_countAt_37 (by decide) ?_
          exact ih4 v8 v7 (by omega) (sm_step (by omega) (by omega) i1 (by first | omega | (split <;> omega))) (by omega)
  exact J4 _ 0 0 (by omega) (sm_0 rfl rfl) (Nat.lt_succ_self _)

abbrev kX8_sumAt : Kd := (cX8_sumAt, .code yX8_sumAt cX8_sumAt 6 (some .int) :: wsL_law0, rmL 3, RX8, (some .int), 6)
theorem ct_X8_sumAt : Ct kX8_sumAt yX8_sumAt (fun a hi Q => ∃ h : Int, ∃ x : Int, ∃ y : Int, a = [AR 40, AI h, AI x, AI y] ∧ (RI (hi 40) (hi 40 0) ∧ inR h ∧ inR x ∧ inR y) ∧ ∀ v : Int, (v = sm (fun z => if al (hi 40) z h ∧ x ≤ nO (hi 40) z ∧ nO (hi 40) z ≤ y then wO (hi 40) z else 0) (hi 40 0).toNat) → Q (AI v) hi) := by
  refine Ct.of (ws' := _) (by decide +kernel) rfl rfl ?_
  intro a hi Q hT
  obtain ⟨h, x, y, rfl, hpre, hQ⟩ := hT
  refine ⟨Nat.le_of_ble_eq_true rfl, ?_⟩
  show Z kX8_sumAt Q 0 [(0, AR 40), (1, AI h), (2, AI x), (3, AI y)] [] hi
  refine z_iconst (pc := 0) (v := 0) dX8_sumAt_0 rfl ?_
  refine z_istore (pc := 1) (lv' := [(4, AI 0), (0, AR 40), (1, AI h), (2, AI x), (3, AI y)]) dX8_sumAt_1 (by decide) rfl ?_
  refine z_iconst (pc := 3) (v := 0) dX8_sumAt_3 rfl ?_
  refine z_istore (pc := 4) (lv' := [(5, AI 0), (4, AI 0), (0, AR 40), (1, AI h), (2, AI x), (3, AI y)]) dX8_sumAt_4 (by decide) rfl ?_
  have n0 := hpre.1.1
  have J6 : ∀ (N : Nat) (k acc : Int), (0 ≤ k ∧ k ≤ hi 40 0) → (acc = sm (fun z => if al (hi 40) z h ∧ x ≤ nO (hi 40) z ∧ nO (hi 40) z ≤ y then wO (hi 40) z else 0) k.toNat) → ((hi 40 0 - k).toNat) < N → Z kX8_sumAt Q 6 [(5, AI k), (4, AI acc), (0, AR 40), (1, AI h), (2, AI x), (3, AI y)] [] hi := by
    intro N
    induction N with
    | zero => intro k acc _ _ _; exact absurd (by assumption) (Nat.not_lt_zero _)
    | succ N ih6 =>
      intro k acc i0 i1 hm6
      refine z_iload (pc := 6) dX8_sumAt_6 0 rfl ?_
      refine z_aload_n (pc := 8) (x := 40) dX8_sumAt_8 rfl 2 rfl ?_
      refine z_getR (pc := 9) (pl := 39) (f := 1) (ci := 7) (C := RX8) (T := TX8) (N := 33) hu_X8 (by decide) rfl rfl (by decide) rfl (List.mem_cons_of_mem _ (iw5 _ (List.mem_of_getElem? (i := 5) rfl))) rfl dX8_sumAt_9 ?_
      refine z_iconst (pc := 12) (v := 0) dX8_sumAt_12 rfl ?_
      refine z_iald (pc := 13) (pl := 40) (by decide) rfl (by decide) (by decide) (by decide) (by decide) dX8_sumAt_13 (fun v1 ev1 rv1 => ?_)
      replace ev1 : v1 = hi 40 0 := ev1
      refine z_icmp_ge (pc := 14) (tgt := 70) dX8_sumAt_14 (by decide) ⟨by omega, by omega⟩ ⟨by omega, by omega⟩ (fun c2 => ?_) (fun c2 => ?_)
      · refine z_iload (pc := 70) dX8_sumAt_70 1 rfl ?_
        refine z_iret (pc := 72) rfl dX8_sumAt_72 ?_
        exact hQ acc (by rw [i1, show k = hi 40 0 by omega])
      · refine z_iload (pc := 17) dX8_sumAt_17 1 rfl ?_
        refine z_aload_n (pc := 19) (x := 40) dX8_sumAt_19 rfl 2 rfl ?_
        refine z_getR (pc := 20) (pl := 39) (f := 1) (ci := 7) (C := RX8) (T := TX8) (N := 33) hu_X8 (by decide) rfl rfl (by decide) rfl (List.mem_cons_of_mem _ (iw5 _ (List.mem_of_getElem? (i := 5) rfl))) rfl dX8_sumAt_20 ?_
        refine z_iload (pc := 23) dX8_sumAt_23 0 rfl ?_
        refine z_iload_n (pc := 25) dX8_sumAt_25 rfl 3 rfl ?_
        refine z_callS (pc := 26) (kc := kX8_lives) (n := 3) (As := [AR 41, AI k, AI h]) (stk := [AI acc]) ct_X8_lives_40 (gdS rfl rfl (iw10 _ (List.mem_of_getElem? (i := 13) rfl)) (iw10 _ (List.mem_of_getElem? (i := 14) rfl)) (iw1 _ (List.mem_of_getElem? (i := 5) rfl)) (iw10 _ (List.mem_of_getElem? (i := 15) rfl))) rfl ⟨rfl, rfl⟩ (by decide +kernel) ⟨by decide, by decide⟩ dX8_sumAt_26 rfl rfl (Nat.le_of_ble_eq_true rfl) ?_
        refine ⟨_, _, rfl, by omega, fun v3 ev3 => ?_⟩
        refine z_if_eq (pc := 29) (tgt := 60) dX8_sumAt_29 (by decide) ⟨by omega, by omega⟩ (fun c4 => ?_) (fun c4 => ?_)
        · refine z_iconst (pc := 60) (v := 0) dX8_sumAt_60 rfl ?_
          refine z_iadd (pc := 61) dX8_sumAt_61 (fun v5 ev5 => ?_)
          refine z_istore (pc := 62) (lv' := [(4, AI v5), (5, AI k), (0, AR 40), (1, AI h), (2, AI x), (3, AI y)]) dX8_sumAt_62 (by decide) rfl ?_
          refine z_iinc (pc := 64) (j := 1) (w := fun q => (5, AI q) :: [(4, AI v5), (0, AR 40), (1, AI h), (2, AI x), (3, AI y)]) dX8_sumAt_64 rfl (by decide) (fun _ => rfl) (fun v6 ev6 => ?_)
          refine z_goto (pc := 67) (tgt := 6) dX8_sumAt_67 (by decide) ?_
          exact ih6 v6 v5 (by omega) (sm_step (by omega) (by omega) i1 (by first | omega | (split <;> omega))) (by omega)
        · refine z_aload_n (pc := 32) (x := 40) dX8_sumAt_32 rfl 2 rfl ?_
          refine z_iload (pc := 33) dX8_sumAt_33 0 rfl ?_
          refine z_iconst (pc := 35) (v := 0) dX8_sumAt_35 rfl ?_
          refine z_callV (pc := 36) (kc := kX8_its) (n := 2) (pl := 39) (ci := 7) (C := RX8) (As := [AI k, AI 0]) (stk := [AI acc]) ct_X8_its (gdV rfl rfl (iw13 _ (List.mem_of_getElem? (i := 0) rfl)) (iw13 _ (List.mem_of_getElem? (i := 1) rfl)) (iw13 _ (List.mem_of_getElem? (i := 2) rfl)) (iw1 _ (List.mem_of_getElem? (i := 5) rfl)) (iw13 _ (List.mem_of_getElem? (i := 3) rfl))) rfl ⟨rfl, rfl⟩ (by decide +kernel) ⟨by decide, by decide⟩ (by decide) rfl rfl dX8_sumAt_36 rfl rfl (Nat.le_of_ble_eq_true rfl) ?_
          refine ⟨_, _, rfl, by omega, fun v7 ev7 => ?_⟩
          replace ev7 : v7 = nO (hi 40) k ∧ inR v7 := ev7
          refine z_i2l (pc := 39) dX8_sumAt_39 ⟨by omega, by omega⟩ ?_
          refine z_iload_n (pc := 40) dX8_sumAt_40 rfl 4 rfl ?_
          refine z_i2l (pc := 41) dX8_sumAt_41 ⟨by omega, by omega⟩ ?_
          refine z_iload_n (pc := 42) dX8_sumAt_42 rfl 5 rfl ?_
          refine z_i2l (pc := 43) dX8_sumAt_43 ⟨by omega, by omega⟩ ?_
          refine z_callS (pc := 44) (kc := kX8_within) (n := 3) (As := [AL v7, AL x, AL y]) (stk := [AI acc]) ct_X8_within (gdS rfl rfl (iw9 _ (List.mem_of_getElem? (i := 9) rfl)) (iw9 _ (List.mem_of_getElem? (i := 10) rfl)) (iw1 _ (List.mem_of_getElem? (i := 5) rfl)) (iw9 _ (List.mem_of_getElem? (i := 11) rfl))) rfl ⟨rfl, rfl⟩ (by decide +kernel) ⟨by decide, by decide⟩ dX8_sumAt_44 rfl rfl (Nat.le_of_ble_eq_true rfl) ?_
          refine ⟨_, _, _, rfl, ⟨⟨by omega, by omega⟩, ⟨by omega, by omega⟩, ⟨by omega, by omega⟩⟩, fun v8 ev8 => ?_⟩
          refine z_if_eq (pc := 47) (tgt := 60) dX8_sumAt_47 (by decide) ⟨by omega, by omega⟩ (fun c9 => ?_) (fun c9 => ?_)
          · refine z_iconst (pc := 60) (v := 0) dX8_sumAt_60 rfl ?_
            refine z_iadd (pc := 61) dX8_sumAt_61 (fun v10 ev10 => ?_)
            refine z_istore (pc := 62) (lv' := [(4, AI v10), (5, AI k), (0, AR 40), (1, AI h), (2, AI x), (3, AI y)]) dX8_sumAt_62 (by decide) rfl ?_
            refine z_iinc (pc := 64) (j := 1) (w := fun q => (5, AI q) :: [(4, AI v10), (0, AR 40), (1, AI h), (2, AI x), (3, AI y)]) dX8_sumAt_64 rfl (by decide) (fun _ => rfl) (fun v11 ev11 => ?_)
            refine z_goto (pc := 67) (tgt := 6) dX8_sumAt_67 (by decide) ?_
            exact ih6 v11 v10 (by omega) (sm_step (by omega) (by omega) i1 (by first | omega | (split <;> omega))) (by omega)
          · refine z_aload_n (pc := 50) (x := 40) dX8_sumAt_50 rfl 2 rfl ?_
            refine z_iload (pc := 51) dX8_sumAt_51 0 rfl ?_
            refine z_iconst (pc := 53) (v := 3) dX8_sumAt_53 rfl ?_
            refine z_callV (pc := 54) (kc := kX8_its) (n := 2) (pl := 39) (ci := 7) (C := RX8) (As := [AI k, AI 3]) (stk := [AI acc]) ct_X8_its (gdV rfl rfl (iw13 _ (List.mem_of_getElem? (i := 0) rfl)) (iw13 _ (List.mem_of_getElem? (i := 1) rfl)) (iw13 _ (List.mem_of_getElem? (i := 2) rfl)) (iw1 _ (List.mem_of_getElem? (i := 5) rfl)) (iw13 _ (List.mem_of_getElem? (i := 3) rfl))) rfl ⟨rfl, rfl⟩ (by decide +kernel) ⟨by decide, by decide⟩ (by decide) rfl rfl dX8_sumAt_54 rfl rfl (Nat.le_of_ble_eq_true rfl) ?_
            refine ⟨_, _, rfl, by omega, fun v12 ev12 => ?_⟩
            replace ev12 : v12 = wO (hi 40) k ∧ inR v12 := ev12
            refine z_goto (pc := 57) (tgt := 61) dX8_sumAt_57 (by decide) ?_
            refine z_iadd (pc := 61) dX8_sumAt_61 (fun v13 ev13 => ?_)
            refine z_istore (pc := 62) (lv' := [(4, AI v13), (5, AI k), (0, AR 40), (1, AI h), (2, AI x), (3, AI y)]) dX8_sumAt_62 (by decide) rfl ?_
            refine z_iinc (pc := 64) (j := 1) (w := fun q => (5, AI q) :: [(4, AI v13), (0, AR 40), (1, AI h), (2, AI x), (3, AI y)]) dX8_sumAt_64 rfl (by decide) (fun _ => rfl) (fun v14 ev14 => ?_)
            refine z_goto (pc := 67) (tgt := 6) dX8_sumAt_67 (by decide) ?_
            exact ih6 v14 v13 (by omega) (sm_step (by omega) (by omega) i1 (by first | omega | (split <;> omega))) (by omega)
  exact J6 _ 0 0 (by omega) (sm_0 rfl rfl) (Nat.lt_succ_self _)

abbrev kX8_leastFrom : Kd := (cX8_leastFrom, .code yX8_leastFrom cX8_leastFrom 4 (some .int) :: wsL_law0, rmL 3, RX8, (some .int), 4)
theorem ct_X8_leastFrom : Ct kX8_leastFrom yX8_leastFrom (fun a hi Q => ∃ x : Int, ∃ h : Int, a = [AR 40, AI x, AI h] ∧ (RI (hi 40) (hi 40 0) ∧ inR x ∧ inR h) ∧ ∀ v : Int, (∃ k : Int, Fst (fun z => x ≤ nO (hi 40) z ∧ al (hi 40) z h) (hi 40 0) k ∧ ((k < 0 ∧ v = -1) ∨ (0 ≤ k ∧ v = nO (hi 40) k ∧ 0 ≤ v ∧ v ≤ 999))) → Q (AI v) hi) := by
  refine Ct.of (ws' := _) (by decide +kernel) rfl rfl ?_
  intro a hi Q hT
  obtain ⟨x, h, rfl, hpre, hQ⟩ := hT
  refine ⟨Nat.le_of_ble_eq_true rfl, ?_⟩
  show Z kX8_leastFrom Q 0 [(0, AR 40), (1, AI x), (2, AI h)] [] hi
  refine z_iconst (pc := 0) (v := 0) dX8_leastFrom_0 rfl ?_
  refine z_istore_n (pc := 1) (lv' := [(3, AI 0), (0, AR 40), (1, AI x), (2, AI h)]) dX8_leastFrom_1 rfl (by decide) rfl ?_
  have n0 := hpre.1.1
  have J2 : ∀ (N : Nat) (k : Int), (0 ≤ k ∧ k ≤ hi 40 0) → (∀ z : Int, 0 ≤ z → z < k → ¬ (x ≤ nO (hi 40) z ∧ al (hi 40) z h)) → ((hi 40 0 - k).toNat) < N → Z kX8_leastFrom Q 2 [(3, AI k), (0, AR 40), (1, AI x), (2, AI h)] [] hi := by
    intro N
    induction N with
    | zero => intro k _ _ _; exact absurd (by assumption) (Nat.not_lt_zero _)
    | succ N ih2 =>
      intro k i0 i1 hm2
      refine z_iload_n (pc := 2) dX8_leastFrom_2 rfl 0 rfl ?_
      refine z_aload_n (pc := 3) (x := 40) dX8_leastFrom_3 rfl 1 rfl ?_
      refine z_getR (pc := 4) (pl := 39) (f := 1) (ci := 7) (C := RX8) (T := TX8) (N := 33) hu_X8 (by decide) rfl rfl (by decide) rfl (List.mem_cons_of_mem _ (iw5 _ (List.mem_of_getElem? (i := 5) rfl))) rfl dX8_leastFrom_4 ?_
      refine z_iconst (pc := 7) (v := 0) dX8_leastFrom_7 rfl ?_
      refine z_iald (pc := 8) (pl := 40) (by decide) rfl (by decide) (by decide) (by decide) (by decide) dX8_leastFrom_8 (fun v1 ev1 rv1 => ?_)
      replace ev1 : v1 = hi 40 0 := ev1
      refine z_icmp_ge (pc := 9) (tgt := 47) dX8_leastFrom_9 (by decide) ⟨by omega, by omega⟩ ⟨by omega, by omega⟩ (fun c2 => ?_) (fun c2 => ?_)
      · refine z_iconst (pc := 47) (v := (-1)) dX8_leastFrom_47 rfl ?_
        refine z_iret (pc := 48) rfl dX8_leastFrom_48 ?_
        exact hQ (-1) (by first | exact ⟨-1, Or.inr ⟨rfl, fun z z0 z1 => i1 z z0 (by omega)⟩, by omega⟩ | exact ⟨k, Or.inl ⟨by omega, by omega, by omega, i1⟩, by omega⟩)
      · refine z_aload_n (pc := 12) (x := 40) dX8_leastFrom_12 rfl 1 rfl ?_
        refine z_getR (pc := 13) (pl := 39) (f := 1) (ci := 7) (C := RX8) (T := TX8) (N := 33) hu_X8 (by decide) rfl rfl (by decide) rfl (List.mem_cons_of_mem _ (iw5 _ (List.mem_of_getElem? (i := 5) rfl))) rfl dX8_leastFrom_13 ?_
        refine z_iload_n (pc := 16) dX8_leastFrom_16 rfl 0 rfl ?_
        refine z_iload_n (pc := 17) dX8_leastFrom_17 rfl 3 rfl ?_
        refine z_callS (pc := 18) (kc := kX8_lives) (n := 3) (As := [AR 41, AI k, AI h]) (stk := []) ct_X8_lives_40 (gdS rfl rfl (iw10 _ (List.mem_of_getElem? (i := 13) rfl)) (iw10 _ (List.mem_of_getElem? (i := 14) rfl)) (iw1 _ (List.mem_of_getElem? (i := 5) rfl)) (iw10 _ (List.mem_of_getElem? (i := 15) rfl))) rfl ⟨rfl, rfl⟩ (by decide +kernel) ⟨by decide, by decide⟩ dX8_leastFrom_18 rfl rfl (Nat.le_of_ble_eq_true rfl) ?_
        refine ⟨_, _, rfl, by omega, fun v3 ev3 => ?_⟩
        have rk := hpre.1.2.1 k (by omega) (by omega)
        refine z_if_eq (pc := 21) (tgt := 41) dX8_leastFrom_21 (by decide) ⟨by omega, by omega⟩ (fun c4 => ?_) (fun c4 => ?_)
        · refine z_iinc (pc := 41) (j := 0) (w := fun q => (3, AI q) :: [(0, AR 40), (1, AI x), (2, AI h)]) dX8_leastFrom_41 rfl (by decide) (fun _ => rfl) (fun v5 ev5 => ?_)
          refine z_goto (pc := 44) (tgt := 2) dX8_leastFrom_44 (by decide) ?_
          exact ih2 v5 (by omega) (no_step i1 (by omega) (by omega)) (by omega)
        · refine z_aload_n (pc := 24) (x := 40) dX8_leastFrom_24 rfl 1 rfl ?_
          refine z_iload_n (pc := 25) dX8_leastFrom_25 rfl 0 rfl ?_
          refine z_iconst (pc := 26) (v := 0) dX8_leastFrom_26 rfl ?_
          refine z_callV (pc := 27) (kc := kX8_its) (n := 2) (pl := 39) (ci := 7) (C := RX8) (As := [AI k, AI 0]) (stk := []) ct_X8_its (gdV rfl rfl (iw13 _ (List.mem_of_getElem? (i := 0) rfl)) (iw13 _ (List.mem_of_getElem? (i := 1) rfl)) (iw13 _ (List.mem_of_getElem? (i := 2) rfl)) (iw1 _ (List.mem_of_getElem? (i := 5) rfl)) (iw13 _ (List.mem_of_getElem? (i := 3) rfl))) rfl ⟨rfl, rfl⟩ (by decide +kernel) ⟨by decide, by decide⟩ (by decide) rfl rfl dX8_leastFrom_27 rfl rfl (Nat.le_of_ble_eq_true rfl) ?_
          refine ⟨_, _, rfl, by omega, fun v6 ev6 => ?_⟩
          replace ev6 : v6 = nO (hi 40) k ∧ inR v6 := ev6
          refine z_iload_n (pc := 30) dX8_leastFrom_30 rfl 2 rfl ?_
          refine z_icmp_lt (pc := 31) (tgt := 41) dX8_leastFrom_31 (by decide) ⟨by omega, by omega⟩ ⟨by omega, by omega⟩ (fun c7 => ?_) (fun c7 => ?_)
          · refine z_iinc (pc := 41) (j := 0) (w := fun q => (3, AI q) :: [(0, AR 40), (1, AI x), (2, AI h)]) dX8_leastFrom_41 rfl (by decide) (fun _ => rfl) (fun v8 ev8 => ?_)
            refine z_goto (pc := 44) (tgt := 2) dX8_leastFrom_44 (by decide) ?_
            exact ih2 v8 (by omega) (no_step i1 (by omega) (by omega)) (by omega)
          · refine z_aload_n (pc := 34) (x := 40) dX8_leastFrom_34 rfl 1 rfl ?_
            refine z_iload_n (pc := 35) dX8_leastFrom_35 rfl 0 rfl ?_
            refine z_iconst (pc := 36) (v := 0) dX8_leastFrom_36 rfl ?_
            refine z_callV (pc := 37) (kc := kX8_its) (n := 2) (pl := 39) (ci := 7) (C := RX8) (As := [AI k, AI 0]) (stk := []) ct_X8_its (gdV rfl rfl (iw13 _ (List.mem_of_getElem? (i := 0) rfl)) (iw13 _ (List.mem_of_getElem? (i := 1) rfl)) (iw13 _ (List.mem_of_getElem? (i := 2) rfl)) (iw1 _ (List.mem_of_getElem? (i := 5) rfl)) (iw13 _ (List.mem_of_getElem? (i := 3) rfl))) rfl ⟨rfl, rfl⟩ (by decide +kernel) ⟨by decide, by decide⟩ (by decide) rfl rfl dX8_leastFrom_37 rfl rfl (Nat.le_of_ble_eq_true rfl) ?_
            refine ⟨_, _, rfl, by omega, fun v9 ev9 => ?_⟩
            replace ev9 : v9 = nO (hi 40) k ∧ inR v9 := ev9
            refine z_iret (pc := 40) rfl dX8_leastFrom_40 ?_
            exact hQ v9 (by first | exact ⟨-1, Or.inr ⟨rfl, fun z z0 z1 => i1 z z0 (by omega)⟩, by omega⟩ | exact ⟨k, Or.inl ⟨by omega, by omega, by omega, i1⟩, by omega⟩)
  exact J2 _ 0 (by omega) (no_0 rfl) (Nat.lt_succ_self _)

abbrev kX8_greatestTo : Kd := (cX8_greatestTo, .code yX8_greatestTo cX8_greatestTo 4 (some .int) :: wsL_law0, rmL 3, RX8, (some .int), 4)
theorem ct_X8_greatestTo : Ct kX8_greatestTo yX8_greatestTo (fun a hi Q => ∃ x : Int, ∃ h : Int, a = [AR 40, AI x, AI h] ∧ (RI (hi 40) (hi 40 0) ∧ inR x ∧ inR h) ∧ ∀ v : Int, (∃ k : Int, Lst (fun z => nO (hi 40) z ≤ x ∧ al (hi 40) z h) (hi 40 0) k ∧ ((k < 0 ∧ v = -1) ∨ (0 ≤ k ∧ v = nO (hi 40) k ∧ 0 ≤ v ∧ v ≤ 999))) → Q (AI v) hi) := by
  refine Ct.of (ws' := _) (by decide +kernel) rfl rfl ?_
  intro a hi Q hT
  obtain ⟨x, h, rfl, hpre, hQ⟩ := hT
  refine ⟨Nat.le_of_ble_eq_true rfl, ?_⟩
  show Z kX8_greatestTo Q 0 [(0, AR 40), (1, AI x), (2, AI h)] [] hi
  refine z_aload_n (pc := 0) (x := 40) dX8_greatestTo_0 rfl 0 rfl ?_
  refine z_getR (pc := 1) (pl := 39) (f := 1) (ci := 7) (C := RX8) (T := TX8) (N := 33) hu_X8 (by decide) rfl rfl (by decide) rfl (List.mem_cons_of_mem _ (iw5 _ (List.mem_of_getElem? (i := 5) rfl))) rfl dX8_greatestTo_1 ?_
  refine z_iconst (pc := 4) (v := 0) dX8_greatestTo_4 rfl ?_
  refine z_iald (pc := 5) (pl := 40) (by decide) rfl (by decide) (by decide) (by decide) (by decide) dX8_greatestTo_5 (fun v1 ev1 rv1 => ?_)
  replace ev1 : v1 = hi 40 0 := ev1
  refine z_iconst (pc := 6) (v := 1) dX8_greatestTo_6 rfl ?_
  refine z_isub (pc := 7) dX8_greatestTo_7 (fun v2 ev2 => ?_)
  refine z_istore_n (pc := 8) (lv' := [(3, AI v2), (0, AR 40), (1, AI x), (2, AI h)]) dX8_greatestTo_8 rfl (by decide) rfl ?_
  have n0 := hpre.1.1
  have J9 : ∀ (N : Nat) (k : Int), (-1 ≤ k ∧ k < hi 40 0) → (∀ z : Int, k < z → z < hi 40 0 → ¬ (nO (hi 40) z ≤ x ∧ al (hi 40) z h)) → ((k + 1).toNat) < N → Z kX8_greatestTo Q 9 [(3, AI k), (0, AR 40), (1, AI x), (2, AI h)] [] hi := by
    intro N
    induction N with
    | zero => intro k _ _ _; exact absurd (by assumption) (Nat.not_lt_zero _)
    | succ N ih9 =>
      intro k i0 i1 hm9
      refine z_iload_n (pc := 9) dX8_greatestTo_9 rfl 0 rfl ?_
      refine z_if_lt (pc := 10) (tgt := 48) dX8_greatestTo_10 (by decide) ⟨by omega, by omega⟩ (fun c3 => ?_) (fun c3 => ?_)
      · refine z_iconst (pc := 48) (v := (-1)) dX8_greatestTo_48 rfl ?_
        refine z_iret (pc := 49) rfl dX8_greatestTo_49 ?_
        exact hQ (-1) (by first | exact ⟨-1, Or.inr ⟨rfl, fun z z0 z1 => i1 z (by omega) z1⟩, by omega⟩ | exact ⟨k, Or.inl ⟨by omega, by omega, by omega, i1⟩, by omega⟩)
      · refine z_aload_n (pc := 13) (x := 40) dX8_greatestTo_13 rfl 1 rfl ?_
        refine z_getR (pc := 14) (pl := 39) (f := 1) (ci := 7) (C := RX8) (T := TX8) (N := 33) hu_X8 (by decide) rfl rfl (by decide) rfl (List.mem_cons_of_mem _ (iw5 _ (List.mem_of_getElem? (i := 5) rfl))) rfl dX8_greatestTo_14 ?_
        refine z_iload_n (pc := 17) dX8_greatestTo_17 rfl 0 rfl ?_
        refine z_iload_n (pc := 18) dX8_greatestTo_18 rfl 3 rfl ?_
        refine z_callS (pc := 19) (kc := kX8_lives) (n := 3) (As := [AR 41, AI k, AI h]) (stk := []) ct_X8_lives_40 (gdS rfl rfl (iw10 _ (List.mem_of_getElem? (i := 13) rfl)) (iw10 _ (List.mem_of_getElem? (i := 14) rfl)) (iw1 _ (List.mem_of_getElem? (i := 5) rfl)) (iw10 _ (List.mem_of_getElem? (i := 15) rfl))) rfl ⟨rfl, rfl⟩ (by decide +kernel) ⟨by decide, by decide⟩ dX8_greatestTo_19 rfl rfl (Nat.le_of_ble_eq_true rfl) ?_
        refine ⟨_, _, rfl, by omega, fun v4 ev4 => ?_⟩
        have rk := hpre.1.2.1 k (by omega) (by omega)
        refine z_if_eq (pc := 22) (tgt := 42) dX8_greatestTo_22 (by decide) ⟨by omega, by omega⟩ (fun c5 => ?_) (fun c5 => ?_)
        · refine z_iinc (pc := 42) (j := 0) (w := fun q => (3, AI q) :: [(0, AR 40), (1, AI x), (2, AI h)]) dX8_greatestTo_42 rfl (by decide) (fun _ => rfl) (fun v6 ev6 => ?_)
          refine z_goto (pc := 45) (tgt := 9) dX8_greatestTo_45 (by decide) ?_
          exact ih9 v6 (by omega) (nl_step i1 (by omega) (by omega)) (by omega)
        · refine z_aload_n (pc := 25) (x := 40) dX8_greatestTo_25 rfl 1 rfl ?_
          refine z_iload_n (pc := 26) dX8_greatestTo_26 rfl 0 rfl ?_
          refine z_iconst (pc := 27) (v := 0) dX8_greatestTo_27 rfl ?_
          refine z_callV (pc := 28) (kc := kX8_its) (n := 2) (pl := 39) (ci := 7) (C := RX8) (As := [AI k, AI 0]) (stk := []) ct_X8_its (gdV rfl rfl (iw13 _ (List.mem_of_getElem? (i := 0) rfl)) (iw13 _ (List.mem_of_getElem? (i := 1) rfl)) (iw13 _ (List.mem_of_getElem? (i := 2) rfl)) (iw1 _ (List.mem_of_getElem? (i := 5) rfl)) (iw13 _ (List.mem_of_getElem? (i := 3) rfl))) rfl ⟨rfl, rfl⟩ (by decide +kernel) ⟨by decide, by decide⟩ (by decide) rfl rfl dX8_greatestTo_28 rfl rfl (Nat.le_of_ble_eq_true rfl) ?_
          refine ⟨_, _, rfl, by omega, fun v7 ev7 => ?_⟩
          replace ev7 : v7 = nO (hi 40) k ∧ inR v7 := ev7
          refine z_iload_n (pc := 31) dX8_greatestTo_31 rfl 2 rfl ?_
          refine z_icmp_gt (pc := 32) (tgt := 42) dX8_greatestTo_32 (by decide) ⟨by omega, by omega⟩ ⟨by omega, by omega⟩ (fun c8 => ?_) (fun c8 => ?_)
          · refine z_iinc (pc := 42) (j := 0) (w := fun q => (3, AI q) :: [(0, AR 40), (1, AI x), (2, AI h)]) dX8_greatestTo_42 rfl (by decide) (fun _ => rfl) (fun v9 ev9 => ?_)
            refine z_goto (pc := 45) (tgt := 9) dX8_greatestTo_45 (by decide) ?_
            exact ih9 v9 (by omega) (nl_step i1 (by omega) (by omega)) (by omega)
          · refine z_aload_n (pc := 35) (x := 40) dX8_greatestTo_35 rfl 1 rfl ?_
            refine z_iload_n (pc := 36) dX8_greatestTo_36 rfl 0 rfl ?_
            refine z_iconst (pc := 37) (v := 0) dX8_greatestTo_37 rfl ?_
            refine z_callV (pc := 38) (kc := kX8_its) (n := 2) (pl := 39) (ci := 7) (C := RX8) (As := [AI k, AI 0]) (stk := []) ct_X8_its (gdV rfl rfl (iw13 _ (List.mem_of_getElem? (i := 0) rfl)) (iw13 _ (List.mem_of_getElem? (i := 1) rfl)) (iw13 _ (List.mem_of_getElem? (i := 2) rfl)) (iw1 _ (List.mem_of_getElem? (i := 5) rfl)) (iw13 _ (List.mem_of_getElem? (i := 3) rfl))) rfl ⟨rfl, rfl⟩ (by decide +kernel) ⟨by decide, by decide⟩ (by decide) rfl rfl dX8_greatestTo_38 rfl rfl (Nat.le_of_ble_eq_true rfl) ?_
            refine ⟨_, _, rfl, by omega, fun v10 ev10 => ?_⟩
            replace ev10 : v10 = nO (hi 40) k ∧ inR v10 := ev10
            refine z_iret (pc := 41) rfl dX8_greatestTo_41 ?_
            exact hQ v10 (by first | exact ⟨-1, Or.inr ⟨rfl, fun z z0 z1 => i1 z (by omega) z1⟩, by omega⟩ | exact ⟨k, Or.inl ⟨by omega, by omega, by omega, i1⟩, by omega⟩)
  exact J9 _ v2 (by omega) (fun z h0 h1 => by omega) (Nat.lt_succ_self _)

abbrev kX8_kthAt : Kd := (cX8_kthAt, .code yX8_kthAt cX8_kthAt 5 (some .int) :: wsL_law0, rmL 3, RX8, (some .int), 5)
theorem ct_X8_kthAt : Ct kX8_kthAt yX8_kthAt (fun a hi Q => ∃ h : Int, ∃ k : Int, a = [AR 40, AI h, AI k] ∧ (RI (hi 40) (hi 40 0) ∧ inR h ∧ inR k) ∧ ∀ v : Int, (∃ i : Int, Fst (fun z => al (hi 40) z h ∧ cA (hi 40) h z.toNat = k) (hi 40 0) i ∧ ((i < 0 ∧ v = -2) ∨ (0 ≤ i ∧ v = nO (hi 40) i ∧ 0 ≤ v ∧ v ≤ 999))) → Q (AI v) hi) := by
  refine Ct.of (ws' := _) (by decide +kernel) rfl rfl ?_
  intro a hi Q hT
  obtain ⟨h, k, rfl, hpre, hQ⟩ := hT
  refine ⟨Nat.le_of_ble_eq_true rfl, ?_⟩
  show Z kX8_kthAt Q 0 [(0, AR 40), (1, AI h), (2, AI k)] [] hi
  refine z_iconst (pc := 0) (v := 0) dX8_kthAt_0 rfl ?_
  refine z_istore_n (pc := 1) (lv' := [(3, AI 0), (0, AR 40), (1, AI h), (2, AI k)]) dX8_kthAt_1 rfl (by decide) rfl ?_
  refine z_iconst (pc := 2) (v := 0) dX8_kthAt_2 rfl ?_
  refine z_istore (pc := 3) (lv' := [(4, AI 0), (3, AI 0), (0, AR 40), (1, AI h), (2, AI k)]) dX8_kthAt_3 (by decide) rfl ?_
  have n0 := hpre.1.1
  have J5 : ∀ (N : Nat) (j acc : Int), (0 ≤ j ∧ j ≤ hi 40 0) → (acc = cA (hi 40) h j.toNat ∧ 0 ≤ acc ∧ acc ≤ j) → (∀ z : Int, 0 ≤ z → z < j → ¬ (al (hi 40) z h ∧ cA (hi 40) h z.toNat = k)) → ((hi 40 0 - j).toNat) < N → Z kX8_kthAt Q 5 [(4, AI j), (3, AI acc), (0, AR 40), (1, AI h), (2, AI k)] [] hi := by
    intro N
    induction N with
    | zero => intro j acc _ _ _ _; exact absurd (by assumption) (Nat.not_lt_zero _)
    | succ N ih5 =>
      intro j acc i0 i1 i2 hm5
      refine z_iload (pc := 5) dX8_kthAt_5 0 rfl ?_
      refine z_aload_n (pc := 7) (x := 40) dX8_kthAt_7 rfl 2 rfl ?_
      refine z_getR (pc := 8) (pl := 39) (f := 1) (ci := 7) (C := RX8) (T := TX8) (N := 33) hu_X8 (by decide) rfl rfl (by decide) rfl (List.mem_cons_of_mem _ (iw5 _ (List.mem_of_getElem? (i := 5) rfl))) rfl dX8_kthAt_8 ?_
      refine z_iconst (pc := 11) (v := 0) dX8_kthAt_11 rfl ?_
      refine z_iald (pc := 12) (pl := 40) (by decide) rfl (by decide) (by decide) (by decide) (by decide) dX8_kthAt_12 (fun v1 ev1 rv1 => ?_)
      replace ev1 : v1 = hi 40 0 := ev1
      refine z_icmp_ge (pc := 13) (tgt := 51) dX8_kthAt_13 (by decide) ⟨by omega, by omega⟩ ⟨by omega, by omega⟩ (fun c2 => ?_) (fun c2 => ?_)
      · refine z_bipush (pc := 51) (v := (-2)) dX8_kthAt_51 (by decide +kernel) ?_
        refine z_iret (pc := 53) rfl dX8_kthAt_53 ?_
        exact hQ (-2) (by first | exact ⟨-1, Or.inr ⟨rfl, fun z z0 z1 => i2 z z0 (by omega)⟩, by omega⟩ | exact ⟨j, Or.inl ⟨by omega, by omega, ⟨by omega, by rw [← i1.1]; omega⟩, i2⟩, by omega⟩)
      · refine z_aload_n (pc := 16) (x := 40) dX8_kthAt_16 rfl 2 rfl ?_
        refine z_getR (pc := 17) (pl := 39) (f := 1) (ci := 7) (C := RX8) (T := TX8) (N := 33) hu_X8 (by decide) rfl rfl (by decide) rfl (List.mem_cons_of_mem _ (iw5 _ (List.mem_of_getElem? (i := 5) rfl))) rfl dX8_kthAt_17 ?_
        refine z_iload (pc := 20) dX8_kthAt_20 0 rfl ?_
        refine z_iload_n (pc := 22) dX8_kthAt_22 rfl 3 rfl ?_
        refine z_callS (pc := 23) (kc := kX8_lives) (n := 3) (As := [AR 41, AI j, AI h]) (stk := []) ct_X8_lives_40 (gdS rfl rfl (iw10 _ (List.mem_of_getElem? (i := 13) rfl)) (iw10 _ (List.mem_of_getElem? (i := 14) rfl)) (iw1 _ (List.mem_of_getElem? (i := 5) rfl)) (iw10 _ (List.mem_of_getElem? (i := 15) rfl))) rfl ⟨rfl, rfl⟩ (by decide +kernel) ⟨by decide, by decide⟩ dX8_kthAt_23 rfl rfl (Nat.le_of_ble_eq_true rfl) ?_
        refine ⟨_, _, rfl, by omega, fun v3 ev3 => ?_⟩
        have rk := hpre.1.2.1 j (by omega) (by omega)
        refine z_if_eq (pc := 26) (tgt := 45) dX8_kthAt_26 (by decide) ⟨by omega, by omega⟩ (fun c4 => ?_) (fun c4 => ?_)
        · refine z_iinc (pc := 45) (j := 0) (w := fun q => (4, AI q) :: [(3, AI acc), (0, AR 40), (1, AI h), (2, AI k)]) dX8_kthAt_45 rfl (by decide) (fun _ => rfl) (fun v5 ev5 => ?_)
          refine z_goto (pc := 48) (tgt := 5) dX8_kthAt_48 (by decide) ?_
          exact ih5 v5 acc (by omega) (⟨sm_step (g := fun z => if al (hi 40) z h then 1 else 0) (by omega) (by omega) i1.1 (by first | omega | (split <;> omega)), by omega⟩) (no_step i2 (by rw [← i1.1]; omega) (by omega)) (by omega)
        · refine z_iload_n (pc := 29) dX8_kthAt_29 rfl 1 rfl ?_
          refine z_iload_n (pc := 30) dX8_kthAt_30 rfl 4 rfl ?_
          refine z_icmp_ne (pc := 31) (tgt := 42) dX8_kthAt_31 (by decide) ⟨by omega, by omega⟩ ⟨by omega, by omega⟩ (fun c6 => ?_) (fun c6 => ?_)
          · refine z_iinc (pc := 42) (j := 1) (w := fun q => (3, AI q) :: [(4, AI j), (0, AR 40), (1, AI h), (2, AI k)]) dX8_kthAt_42 rfl (by decide) (fun _ => rfl) (fun v7 ev7 => ?_)
            refine z_iinc (pc := 45) (j := 1) (w := fun q => (4, AI q) :: [(3, AI v7), (0, AR 40), (1, AI h), (2, AI k)]) dX8_kthAt_45 rfl (by decide) (fun _ => rfl) (fun v8 ev8 => ?_)
            refine z_goto (pc := 48) (tgt := 5) dX8_kthAt_48 (by decide) ?_
            exact ih5 v8 v7 (by omega) (⟨sm_step (g := fun z => if al (hi 40) z h then 1 else 0) (by omega) (by omega) i1.1 (by first | omega | (split <;> omega)), by omega⟩) (no_step i2 (by rw [← i1.1]; omega) (by omega)) (by omega)
          · refine z_aload_n (pc := 34) (x := 40) dX8_kthAt_34 rfl 2 rfl ?_
            refine z_iload (pc := 35) dX8_kthAt_35 0 rfl ?_
            refine z_iconst (pc := 37) (v := 0) dX8_kthAt_37 rfl ?_
            refine z_callV (pc := 38) (kc := kX8_its) (n := 2) (pl := 39) (ci := 7) (C := RX8) (As := [AI j, AI 0]) (stk := []) ct_X8_its (gdV rfl rfl (iw13 _ (List.mem_of_getElem? (i := 0) rfl)) (iw13 _ (List.mem_of_getElem? (i := 1) rfl)) (iw13 _ (List.mem_of_getElem? (i := 2) rfl)) (iw1 _ (List.mem_of_getElem? (i := 5) rfl)) (iw13 _ (List.mem_of_getElem? (i := 3) rfl))) rfl ⟨rfl, rfl⟩ (by decide +kernel) ⟨by decide, by decide⟩ (by decide) rfl rfl dX8_kthAt_38 rfl rfl (Nat.le_of_ble_eq_true rfl) ?_
            refine ⟨_, _, rfl, by omega, fun v9 ev9 => ?_⟩
            replace ev9 : v9 = nO (hi 40) j ∧ inR v9 := ev9
            refine z_iret (pc := 41) rfl dX8_kthAt_41 ?_
            exact hQ v9 (by first | exact ⟨-1, Or.inr ⟨rfl, fun z z0 z1 => i2 z z0 (by omega)⟩, by omega⟩ | exact ⟨j, Or.inl ⟨by omega, by omega, ⟨by omega, by rw [← i1.1]; omega⟩, i2⟩, by omega⟩)
  exact J5 _ 0 0 (by omega) (⟨rfl, by omega⟩) (no_0 rfl) (Nat.lt_succ_self _)

abbrev kX8_which : Kd := (cX8_which, .code yX8_which cX8_which 4 (some .int) :: wsL_law0, rmL 4, RX8, (some .int), 4)
theorem ct_X8_which : Ct kX8_which yX8_which (fun a hi Q => ∃ x : Int, ∃ h : Int, a = [AR 40, AI x, AI h] ∧ (RI (hi 40) (hi 40 0) ∧ inR x ∧ inR h) ∧ ∀ (v : Int) (h2 : HI), (Fr [39] hi h2 ∧ (h2 = Z0 hi ∧ ((v = -1 ∧ ¬ ((0 ≤ x ∧ x ≤ 999) ∧ (0 ≤ h ∧ h < 64))) ∨ (((0 ≤ x ∧ x ≤ 999) ∧ (0 ≤ h ∧ h < 64)) ∧ ∃ k : Int, Fst (fun z => nO (hi 40) z = x ∧ al (hi 40) z h) (hi 40 0) k ∧ ((k < 0 ∧ v = -2) ∨ (0 ≤ k ∧ v = k)))))) → Q (AI v) h2) := by
  refine Ct.of (ws' := _) (by decide +kernel) rfl rfl ?_
  intro a hi Q hT
  obtain ⟨x, h, rfl, hpre, hQ⟩ := hT
  refine ⟨Nat.le_of_ble_eq_true rfl, ?_⟩
  show Z kX8_which Q 0 [(0, AR 40), (1, AI x), (2, AI h)] [] hi
  refine z_aload_n (pc := 0) (x := 40) dX8_which_0 rfl 0 rfl ?_
  refine z_iconst (pc := 1) (v := 0) dX8_which_1 rfl ?_
  refine z_putI (pc := 2) (pl := 39) (f := 0) (ci := 7) (C := RX8) (T := TX8) (N := 33) hu_X8 tyX8_ok nmX8 (by decide) rfl rfl (by decide) rfl (List.mem_cons_of_mem _ (iw8 _ (List.mem_of_getElem? (i := 22) rfl))) rfl rfl (ty := .int) (by decide +kernel) rfl rfl ⟨by decide, by decide⟩ dX8_which_2 (fun h1 eh1 => ?_)
  have frh1 : Fr [39] hi h1 := (Fr.put (Fr.rf) eh1 (by decide))
  have z1 : h1 = Z0 hi := eh1
  have n0 := hpre.1.1
  have e40 : h1 40 = hi 40 := by rw [z1]; rfl
  refine z_iload_n (pc := 5) dX8_which_5 rfl 1 rfl ?_
  refine z_callS (pc := 6) (kc := kX8_isNumber) (n := 1) (As := [AI x]) (stk := []) ct_X8_isNumber (gdS rfl rfl (iw9 _ (List.mem_of_getElem? (i := 5) rfl)) (iw9 _ (List.mem_of_getElem? (i := 6) rfl)) (iw1 _ (List.mem_of_getElem? (i := 5) rfl)) (iw9 _ (List.mem_of_getElem? (i := 7) rfl))) rfl ⟨rfl, rfl⟩ (by decide +kernel) ⟨by decide, by decide⟩ dX8_which_6 rfl rfl (Nat.le_of_ble_eq_true rfl) ?_
  refine ⟨_, rfl, by omega, fun v2 ev2 => ?_⟩
  refine z_if_eq (pc := 9) (tgt := 19) dX8_which_9 (by decide) ⟨by omega, by omega⟩ (fun c3 => ?_) (fun c3 => ?_)
  · refine z_iconst (pc := 19) (v := (-1)) dX8_which_19 rfl ?_
    refine z_iret (pc := 20) rfl dX8_which_20 ?_
    exact hQ (-1) h1 ⟨frh1, ⟨z1, by first | exact Or.inl ⟨rfl, by omega⟩ | exact Or.inr ⟨by omega, _, wf, by omega⟩⟩⟩
  · refine z_iload_n (pc := 12) dX8_which_12 rfl 2 rfl ?_
    refine z_callS (pc := 13) (kc := kX8_isHour) (n := 1) (As := [AI h]) (stk := []) ct_X8_isHour (gdS rfl rfl (iw9 _ (List.mem_of_getElem? (i := 12) rfl)) (iw9 _ (List.mem_of_getElem? (i := 13) rfl)) (iw1 _ (List.mem_of_getElem? (i := 5) rfl)) (iw9 _ (List.mem_of_getElem? (i := 14) rfl))) rfl ⟨rfl, rfl⟩ (by decide +kernel) ⟨by decide, by decide⟩ dX8_which_13 rfl rfl (Nat.le_of_ble_eq_true rfl) ?_
    refine ⟨_, rfl, by omega, fun v4 ev4 => ?_⟩
    refine z_if_ne (pc := 16) (tgt := 21) dX8_which_16 (by decide) ⟨by omega, by omega⟩ (fun c5 => ?_) (fun c5 => ?_)
    · refine z_aload_n (pc := 21) (x := 40) dX8_which_21 rfl 0 rfl ?_
      refine z_getR (pc := 22) (pl := 39) (f := 1) (ci := 7) (C := RX8) (T := TX8) (N := 33) hu_X8 (by decide) rfl rfl (by decide) rfl (List.mem_cons_of_mem _ (iw5 _ (List.mem_of_getElem? (i := 5) rfl))) rfl dX8_which_22 ?_
      refine z_iload_n (pc := 25) dX8_which_25 rfl 1 rfl ?_
      refine z_iload_n (pc := 26) dX8_which_26 rfl 2 rfl ?_
      refine z_callS (pc := 27) (kc := kX8_lifeAt) (n := 3) (As := [AR 41, AI x, AI h]) (stk := []) ct_X8_lifeAt_40 (gdS rfl rfl (iw10 _ (List.mem_of_getElem? (i := 7) rfl)) (iw10 _ (List.mem_of_getElem? (i := 8) rfl)) (iw1 _ (List.mem_of_getElem? (i := 5) rfl)) (iw10 _ (List.mem_of_getElem? (i := 9) rfl))) rfl ⟨rfl, rfl⟩ (by decide +kernel) ⟨by decide, by decide⟩ dX8_which_27 rfl rfl (Nat.le_of_ble_eq_true rfl) ?_
      refine ⟨_, _, rfl, by (try rw [(by rw [eh1]; rfl : h1 40 = hi 40)]); exact ⟨by omega, ⟨by omega, by omega⟩, ⟨by omega, by omega⟩⟩, fun v6 ev6 => ?_⟩
      try rw [(by rw [eh1]; rfl : h1 40 = hi 40)] at ev6
      have wf := ev6
      have gf := Fst.rng wf n0
      refine z_istore_n (pc := 30) (lv' := [(3, AI v6), (0, AR 40), (1, AI x), (2, AI h)]) dX8_which_30 rfl (by decide) rfl ?_
      refine z_iload_n (pc := 31) dX8_which_31 rfl 0 rfl ?_
      refine z_iconst (pc := 32) (v := (-1)) dX8_which_32 rfl ?_
      refine z_icmp_ne (pc := 33) (tgt := 41) dX8_which_33 (by decide) ⟨by omega, by omega⟩ ⟨by decide, by decide⟩ (fun c7 => ?_) (fun c7 => ?_)
      · refine z_iload_n (pc := 41) dX8_which_41 rfl 0 rfl ?_
        refine z_iret (pc := 42) rfl dX8_which_42 ?_
        exact hQ v6 h1 ⟨frh1, ⟨z1, by first | exact Or.inl ⟨rfl, by omega⟩ | exact Or.inr ⟨by omega, _, wf, by omega⟩⟩⟩
      · refine z_bipush (pc := 36) (v := (-2)) dX8_which_36 (by decide +kernel) ?_
        refine z_goto (pc := 38) (tgt := 42) dX8_which_38 (by decide) ?_
        refine z_iret (pc := 42) rfl dX8_which_42 ?_
        exact hQ (-2) h1 ⟨frh1, ⟨z1, by first | exact Or.inl ⟨rfl, by omega⟩ | exact Or.inr ⟨by omega, _, wf, by omega⟩⟩⟩
    · refine z_iconst (pc := 19) (v := (-1)) dX8_which_19 rfl ?_
      refine z_iret (pc := 20) rfl dX8_which_20 ?_
      exact hQ (-1) h1 ⟨frh1, ⟨z1, by first | exact Or.inl ⟨rfl, by omega⟩ | exact Or.inr ⟨by omega, _, wf, by omega⟩⟩⟩

abbrev kX8_alive : Kd := (cX8_alive, .code yX8_alive cX8_alive 2 (some .int) :: wsL_law0, rmL 4, RX8, (some .int), 2)
theorem ct_X8_alive : Ct kX8_alive yX8_alive (fun a hi Q => ∃ h : Int, a = [AR 40, AI h] ∧ (RI (hi 40) (hi 40 0) ∧ inR h) ∧ ∀ (v : Int) (h2 : HI), (Fr [39] hi h2 ∧ (h2 = Z0 hi ∧ ((v = -1 ∧ ¬ (0 ≤ h ∧ h < 64)) ∨ ((0 ≤ h ∧ h < 64) ∧ v = sm (fun z => if al (hi 40) z h then 1 else 0) (hi 40 0).toNat)))) → Q (AI v) h2) := by
  refine Ct.of (ws' := _) (by decide +kernel) rfl rfl ?_
  intro a hi Q hT
  obtain ⟨h, rfl, hpre, hQ⟩ := hT
  refine ⟨Nat.le_of_ble_eq_true rfl, ?_⟩
  show Z kX8_alive Q 0 [(0, AR 40), (1, AI h)] [] hi
  refine z_aload_n (pc := 0) (x := 40) dX8_alive_0 rfl 0 rfl ?_
  refine z_iconst (pc := 1) (v := 0) dX8_alive_1 rfl ?_
  refine z_putI (pc := 2) (pl := 39) (f := 0) (ci := 7) (C := RX8) (T := TX8) (N := 33) hu_X8 tyX8_ok nmX8 (by decide) rfl rfl (by decide) rfl (List.mem_cons_of_mem _ (iw8 _ (List.mem_of_getElem? (i := 22) rfl))) rfl rfl (ty := .int) (by decide +kernel) rfl rfl ⟨by decide, by decide⟩ dX8_alive_2 (fun h1 eh1 => ?_)
  have frh1 : Fr [39] hi h1 := (Fr.put (Fr.rf) eh1 (by decide))
  have z1 : h1 = Z0 hi := eh1
  have n0 := hpre.1.1
  have e40 : h1 40 = hi 40 := by rw [z1]; rfl
  refine z_iload_n (pc := 5) dX8_alive_5 rfl 1 rfl ?_
  refine z_callS (pc := 6) (kc := kX8_isHour) (n := 1) (As := [AI h]) (stk := []) ct_X8_isHour (gdS rfl rfl (iw9 _ (List.mem_of_getElem? (i := 12) rfl)) (iw9 _ (List.mem_of_getElem? (i := 13) rfl)) (iw1 _ (List.mem_of_getElem? (i := 5) rfl)) (iw9 _ (List.mem_of_getElem? (i := 14) rfl))) rfl ⟨rfl, rfl⟩ (by decide +kernel) ⟨by decide, by decide⟩ dX8_alive_6 rfl rfl (Nat.le_of_ble_eq_true rfl) ?_
  refine ⟨_, rfl, by omega, fun v2 ev2 => ?_⟩
  refine z_if_eq (pc := 9) (tgt := 20) dX8_alive_9 (by decide) ⟨by omega, by omega⟩ (fun c3 => ?_) (fun c3 => ?_)
  · refine z_iconst (pc := 20) (v := (-1)) dX8_alive_20 rfl ?_
    refine z_iret (pc := 21) rfl dX8_alive_21 ?_
    exact hQ (-1) h1 ⟨frh1, ⟨z1, by first | exact Or.inl ⟨rfl, by omega⟩ | exact Or.inr ⟨by omega, by assumption⟩⟩⟩
  · refine z_aload_n (pc := 12) (x := 40) dX8_alive_12 rfl 0 rfl ?_
    refine z_iload_n (pc := 13) dX8_alive_13 rfl 1 rfl ?_
    refine z_callV (pc := 14) (kc := kX8_countAt) (n := 1) (pl := 39) (ci := 7) (C := RX8) (As := [AI h]) (stk := []) ct_X8_countAt (gdV rfl rfl (iw38 _ (List.mem_of_getElem? (i := 19) rfl)) (iw38 _ (List.mem_of_getElem? (i := 20) rfl)) (iw38 _ (List.mem_of_getElem? (i := 21) rfl)) (iw1 _ (List.mem_of_getElem? (i := 5) rfl)) (iw38 _ (List.mem_of_getElem? (i := 22) rfl))) rfl ⟨rfl, rfl⟩ (by decide +kernel) ⟨by decide, by decide⟩ (by decide) rfl rfl dX8_alive_14 rfl rfl (Nat.le_of_ble_eq_true rfl) ?_
    refine ⟨_, rfl, by (try rw [(by rw [eh1]; rfl : h1 40 = hi 40)]); exact ⟨hpre.1, ⟨by omega, by omega⟩⟩, fun v4 ev4 => ?_⟩
    try rw [(by rw [eh1]; rfl : h1 40 = hi 40)] at ev4
    refine z_goto (pc := 17) (tgt := 21) dX8_alive_17 (by decide) ?_
    refine z_iret (pc := 21) rfl dX8_alive_21 ?_
    exact hQ v4 h1 ⟨frh1, ⟨z1, by first | exact Or.inl ⟨rfl, by omega⟩ | exact Or.inr ⟨by omega, by assumption⟩⟩⟩

abbrev kX8_next : Kd := (cX8_next, .code yX8_next cX8_next 4 (some .int) :: wsL_law0, rmL 4, RX8, (some .int), 4)
theorem ct_X8_next : Ct kX8_next yX8_next (fun a hi Q => ∃ x : Int, ∃ h : Int, a = [AR 40, AI x, AI h] ∧ (RI (hi 40) (hi 40 0) ∧ inR x ∧ inR h) ∧ ∀ (v : Int) (h2 : HI), (Fr [39] hi h2 ∧ (h2 = Z0 hi ∧ ((v = -1 ∧ ¬ ((0 ≤ x ∧ x ≤ 999) ∧ (0 ≤ h ∧ h < 64))) ∨ (((0 ≤ x ∧ x ≤ 999) ∧ (0 ≤ h ∧ h < 64)) ∧ ∃ k : Int, Fst (fun z => x ≤ nO (hi 40) z ∧ al (hi 40) z h) (hi 40 0) k ∧ ((k < 0 ∧ v = -2) ∨ (0 ≤ k ∧ v = nO (hi 40) k)))))) → Q (AI v) h2) := by
  refine Ct.of (ws' := _) (by decide +kernel) rfl rfl ?_
  intro a hi Q hT
  obtain ⟨x, h, rfl, hpre, hQ⟩ := hT
  refine ⟨Nat.le_of_ble_eq_true rfl, ?_⟩
  show Z kX8_next Q 0 [(0, AR 40), (1, AI x), (2, AI h)] [] hi
  refine z_aload_n (pc := 0) (x := 40) dX8_next_0 rfl 0 rfl ?_
  refine z_iconst (pc := 1) (v := 0) dX8_next_1 rfl ?_
  refine z_putI (pc := 2) (pl := 39) (f := 0) (ci := 7) (C := RX8) (T := TX8) (N := 33) hu_X8 tyX8_ok nmX8 (by decide) rfl rfl (by decide) rfl (List.mem_cons_of_mem _ (iw8 _ (List.mem_of_getElem? (i := 22) rfl))) rfl rfl (ty := .int) (by decide +kernel) rfl rfl ⟨by decide, by decide⟩ dX8_next_2 (fun h1 eh1 => ?_)
  have frh1 : Fr [39] hi h1 := (Fr.put (Fr.rf) eh1 (by decide))
  have z1 : h1 = Z0 hi := eh1
  have n0 := hpre.1.1
  have e40 : h1 40 = hi 40 := by rw [z1]; rfl
  refine z_iload_n (pc := 5) dX8_next_5 rfl 1 rfl ?_
  refine z_callS (pc := 6) (kc := kX8_isNumber) (n := 1) (As := [AI x]) (stk := []) ct_X8_isNumber (gdS rfl rfl (iw9 _ (List.mem_of_getElem? (i := 5) rfl)) (iw9 _ (List.mem_of_getElem? (i := 6) rfl)) (iw1 _ (List.mem_of_getElem? (i := 5) rfl)) (iw9 _ (List.mem_of_getElem? (i := 7) rfl))) rfl ⟨rfl, rfl⟩ (by decide +kernel) ⟨by decide, by decide⟩ dX8_next_6 rfl rfl (Nat.le_of_ble_eq_true rfl) ?_
  refine ⟨_, rfl, by omega, fun v2 ev2 => ?_⟩
  refine z_if_eq (pc := 9) (tgt := 19) dX8_next_9 (by decide) ⟨by omega, by omega⟩ (fun c3 => ?_) (fun c3 => ?_)
  · refine z_iconst (pc := 19) (v := (-1)) dX8_next_19 rfl ?_
    refine z_iret (pc := 20) rfl dX8_next_20 ?_
    exact hQ (-1) h1 ⟨frh1, ⟨z1, by first | exact Or.inl ⟨rfl, by omega⟩ | exact Or.inr ⟨by omega, kk, wf, by omega⟩⟩⟩
  · refine z_iload_n (pc := 12) dX8_next_12 rfl 2 rfl ?_
    refine z_callS (pc := 13) (kc := kX8_isHour) (n := 1) (As := [AI h]) (stk := []) ct_X8_isHour (gdS rfl rfl (iw9 _ (List.mem_of_getElem? (i := 12) rfl)) (iw9 _ (List.mem_of_getElem? (i := 13) rfl)) (iw1 _ (List.mem_of_getElem? (i := 5) rfl)) (iw9 _ (List.mem_of_getElem? (i := 14) rfl))) rfl ⟨rfl, rfl⟩ (by decide +kernel) ⟨by decide, by decide⟩ dX8_next_13 rfl rfl (Nat.le_of_ble_eq_true rfl) ?_
    refine ⟨_, rfl, by omega, fun v4 ev4 => ?_⟩
    refine z_if_ne (pc := 16) (tgt := 21) dX8_next_16 (by decide) ⟨by omega, by omega⟩ (fun c5 => ?_) (fun c5 => ?_)
    · refine z_aload_n (pc := 21) (x := 40) dX8_next_21 rfl 0 rfl ?_
      refine z_iload_n (pc := 22) dX8_next_22 rfl 1 rfl ?_
      refine z_iload_n (pc := 23) dX8_next_23 rfl 2 rfl ?_
      refine z_callV (pc := 24) (kc := kX8_leastFrom) (n := 2) (pl := 39) (ci := 7) (C := RX8) (As := [AI x, AI h]) (stk := []) ct_X8_leastFrom (gdV rfl rfl (iw39 _ (List.mem_of_getElem? (i := 3) rfl)) (iw39 _ (List.mem_of_getElem? (i := 4) rfl)) (iw39 _ (List.mem_of_getElem? (i := 5) rfl)) (iw1 _ (List.mem_of_getElem? (i := 5) rfl)) (iw39 _ (List.mem_of_getElem? (i := 6) rfl))) rfl ⟨rfl, rfl⟩ (by decide +kernel) ⟨by decide, by decide⟩ (by decide) rfl rfl dX8_next_24 rfl rfl (Nat.le_of_ble_eq_true rfl) ?_
      refine ⟨_, _, rfl, by (try rw [(by rw [eh1]; rfl : h1 40 = hi 40)]); exact ⟨hpre.1, ⟨by omega, by omega⟩, ⟨by omega, by omega⟩⟩, fun v6 ev6 => ?_⟩
      try rw [(by rw [eh1]; rfl : h1 40 = hi 40)] at ev6
      obtain ⟨kk, wf, wv⟩ := ev6
      refine z_istore_n (pc := 27) (lv' := [(3, AI v6), (0, AR 40), (1, AI x), (2, AI h)]) dX8_next_27 rfl (by decide) rfl ?_
      refine z_iload_n (pc := 28) dX8_next_28 rfl 0 rfl ?_
      refine z_iconst (pc := 29) (v := (-1)) dX8_next_29 rfl ?_
      refine z_icmp_ne (pc := 30) (tgt := 38) dX8_next_30 (by decide) ⟨by omega, by omega⟩ ⟨by decide, by decide⟩ (fun c7 => ?_) (fun c7 => ?_)
      · refine z_iload_n (pc := 38) dX8_next_38 rfl 0 rfl ?_
        refine z_iret (pc := 39) rfl dX8_next_39 ?_
        exact hQ v6 h1 ⟨frh1, ⟨z1, by first | exact Or.inl ⟨rfl, by omega⟩ | exact Or.inr ⟨by omega, kk, wf, by omega⟩⟩⟩
      · refine z_bipush (pc := 33) (v := (-2)) dX8_next_33 (by decide +kernel) ?_
        refine z_goto (pc := 35) (tgt := 39) dX8_next_35 (by decide) ?_
        refine z_iret (pc := 39) rfl dX8_next_39 ?_
        exact hQ (-2) h1 ⟨frh1, ⟨z1, by first | exact Or.inl ⟨rfl, by omega⟩ | exact Or.inr ⟨by omega, kk, wf, by omega⟩⟩⟩
    · refine z_iconst (pc := 19) (v := (-1)) dX8_next_19 rfl ?_
      refine z_iret (pc := 20) rfl dX8_next_20 ?_
      exact hQ (-1) h1 ⟨frh1, ⟨z1, by first | exact Or.inl ⟨rfl, by omega⟩ | exact Or.inr ⟨by omega, kk, wf, by omega⟩⟩⟩

abbrev kX8_before : Kd := (cX8_before, .code yX8_before cX8_before 4 (some .int) :: wsL_law0, rmL 4, RX8, (some .int), 4)
theorem ct_X8_before : Ct kX8_before yX8_before (fun a hi Q => ∃ x : Int, ∃ h : Int, a = [AR 40, AI x, AI h] ∧ (RI (hi 40) (hi 40 0) ∧ inR x ∧ inR h) ∧ ∀ (v : Int) (h2 : HI), (Fr [39] hi h2 ∧ (h2 = Z0 hi ∧ ((v = -1 ∧ ¬ ((0 ≤ x ∧ x ≤ 999) ∧ (0 ≤ h ∧ h < 64))) ∨ (((0 ≤ x ∧ x ≤ 999) ∧ (0 ≤ h ∧ h < 64)) ∧ ∃ k : Int, Lst (fun z => nO (hi 40) z ≤ x ∧ al (hi 40) z h) (hi 40 0) k ∧ ((k < 0 ∧ v = -2) ∨ (0 ≤ k ∧ v = nO (hi 40) k)))))) → Q (AI v) h2) := by
  refine Ct.of (ws' := _) (by decide +kernel) rfl rfl ?_
  intro a hi Q hT
  obtain ⟨x, h, rfl, hpre, hQ⟩ := hT
  refine ⟨Nat.le_of_ble_eq_true rfl, ?_⟩
  show Z kX8_before Q 0 [(0, AR 40), (1, AI x), (2, AI h)] [] hi
  refine z_aload_n (pc := 0) (x := 40) dX8_before_0 rfl 0 rfl ?_
  refine z_iconst (pc := 1) (v := 0) dX8_before_1 rfl ?_
  refine z_putI (pc := 2) (pl := 39) (f := 0) (ci := 7) (C := RX8) (T := TX8) (N := 33) hu_X8 tyX8_ok nmX8 (by decide) rfl rfl (by decide) rfl (List.mem_cons_of_mem _ (iw8 _ (List.mem_of_getElem? (i := 22) rfl))) rfl rfl (ty := .int) (by decide +kernel) rfl rfl ⟨by decide, by decide⟩ dX8_before_2 (fun h1 eh1 => ?_)
  have frh1 : Fr [39] hi h1 := (Fr.put (Fr.rf) eh1 (by decide))
  have z1 : h1 = Z0 hi := eh1
  have n0 := hpre.1.1
  have e40 : h1 40 = hi 40 := by rw [z1]; rfl
  refine z_iload_n (pc := 5) dX8_before_5 rfl 1 rfl ?_
  refine z_callS (pc := 6) (kc := kX8_isNumber) (n := 1) (As := [AI x]) (stk := []) ct_X8_isNumber (gdS rfl rfl (iw9 _ (List.mem_of_getElem? (i := 5) rfl)) (iw9 _ (List.mem_of_getElem? (i := 6) rfl)) (iw1 _ (List.mem_of_getElem? (i := 5) rfl)) (iw9 _ (List.mem_of_getElem? (i := 7) rfl))) rfl ⟨rfl, rfl⟩ (by decide +kernel) ⟨by decide, by decide⟩ dX8_before_6 rfl rfl (Nat.le_of_ble_eq_true rfl) ?_
  refine ⟨_, rfl, by omega, fun v2 ev2 => ?_⟩
  refine z_if_eq (pc := 9) (tgt := 19) dX8_before_9 (by decide) ⟨by omega, by omega⟩ (fun c3 => ?_) (fun c3 => ?_)
  · refine z_iconst (pc := 19) (v := (-1)) dX8_before_19 rfl ?_
    refine z_iret (pc := 20) rfl dX8_before_20 ?_
    exact hQ (-1) h1 ⟨frh1, ⟨z1, by first | exact Or.inl ⟨rfl, by omega⟩ | exact Or.inr ⟨by omega, kk, wf, by omega⟩⟩⟩
  · refine z_iload_n (pc := 12) dX8_before_12 rfl 2 rfl ?_
    refine z_callS (pc := 13) (kc := kX8_isHour) (n := 1) (As := [AI h]) (stk := []) ct_X8_isHour (gdS rfl rfl (iw9 _ (List.mem_of_getElem? (i := 12) rfl)) (iw9 _ (List.mem_of_getElem? (i := 13) rfl)) (iw1 _ (List.mem_of_getElem? (i := 5) rfl)) (iw9 _ (List.mem_of_getElem? (i := 14) rfl))) rfl ⟨rfl, rfl⟩ (by decide +kernel) ⟨by decide, by decide⟩ dX8_before_13 rfl rfl (Nat.le_of_ble_eq_true rfl) ?_
    refine ⟨_, rfl, by omega, fun v4 ev4 => ?_⟩
    refine z_if_ne (pc := 16) (tgt := 21) dX8_before_16 (by decide) ⟨by omega, by omega⟩ (fun c5 => ?_) (fun c5 => ?_)
    · refine z_aload_n (pc := 21) (x := 40) dX8_before_21 rfl 0 rfl ?_
      refine z_iload_n (pc := 22) dX8_before_22 rfl 1 rfl ?_
      refine z_iload_n (pc := 23) dX8_before_23 rfl 2 rfl ?_
      refine z_callV (pc := 24) (kc := kX8_greatestTo) (n := 2) (pl := 39) (ci := 7) (C := RX8) (As := [AI x, AI h]) (stk := []) ct_X8_greatestTo (gdV rfl rfl (iw39 _ (List.mem_of_getElem? (i := 7) rfl)) (iw39 _ (List.mem_of_getElem? (i := 8) rfl)) (iw39 _ (List.mem_of_getElem? (i := 9) rfl)) (iw1 _ (List.mem_of_getElem? (i := 5) rfl)) (iw39 _ (List.mem_of_getElem? (i := 10) rfl))) rfl ⟨rfl, rfl⟩ (by decide +kernel) ⟨by decide, by decide⟩ (by decide) rfl rfl dX8_before_24 rfl rfl (Nat.le_of_ble_eq_true rfl) ?_
      refine ⟨_, _, rfl, by (try rw [(by rw [eh1]; rfl : h1 40 = hi 40)]); exact ⟨hpre.1, ⟨by omega, by omega⟩, ⟨by omega, by omega⟩⟩, fun v6 ev6 => ?_⟩
      try rw [(by rw [eh1]; rfl : h1 40 = hi 40)] at ev6
      obtain ⟨kk, wf, wv⟩ := ev6
      refine z_istore_n (pc := 27) (lv' := [(3, AI v6), (0, AR 40), (1, AI x), (2, AI h)]) dX8_before_27 rfl (by decide) rfl ?_
      refine z_iload_n (pc := 28) dX8_before_28 rfl 0 rfl ?_
      refine z_iconst (pc := 29) (v := (-1)) dX8_before_29 rfl ?_
      refine z_icmp_ne (pc := 30) (tgt := 38) dX8_before_30 (by decide) ⟨by omega, by omega⟩ ⟨by decide, by decide⟩ (fun c7 => ?_) (fun c7 => ?_)
      · refine z_iload_n (pc := 38) dX8_before_38 rfl 0 rfl ?_
        refine z_iret (pc := 39) rfl dX8_before_39 ?_
        exact hQ v6 h1 ⟨frh1, ⟨z1, by first | exact Or.inl ⟨rfl, by omega⟩ | exact Or.inr ⟨by omega, kk, wf, by omega⟩⟩⟩
      · refine z_bipush (pc := 33) (v := (-2)) dX8_before_33 (by decide +kernel) ?_
        refine z_goto (pc := 35) (tgt := 39) dX8_before_35 (by decide) ?_
        refine z_iret (pc := 39) rfl dX8_before_39 ?_
        exact hQ (-2) h1 ⟨frh1, ⟨z1, by first | exact Or.inl ⟨rfl, by omega⟩ | exact Or.inr ⟨by omega, kk, wf, by omega⟩⟩⟩
    · refine z_iconst (pc := 19) (v := (-1)) dX8_before_19 rfl ?_
      refine z_iret (pc := 20) rfl dX8_before_20 ?_
      exact hQ (-1) h1 ⟨frh1, ⟨z1, by first | exact Or.inl ⟨rfl, by omega⟩ | exact Or.inr ⟨by omega, kk, wf, by omega⟩⟩⟩

abbrev kX8_rank : Kd := (cX8_rank, .code yX8_rank cX8_rank 5 (some .int) :: wsL_law0, rmL 3, RX8, (some .int), 5)
theorem ct_X8_rank : Ct kX8_rank yX8_rank (fun a hi Q => ∃ x : Int, ∃ h : Int, a = [AR 40, AI x, AI h] ∧ (RI (hi 40) (hi 40 0) ∧ inR x ∧ inR h) ∧ ∀ (v : Int) (h2 : HI), (Fr [39] hi h2 ∧ (h2 = Z0 hi ∧ ((v = -1 ∧ ¬ ((0 ≤ x ∧ x ≤ 999) ∧ (0 ≤ h ∧ h < 64))) ∨ (((0 ≤ x ∧ x ≤ 999) ∧ (0 ≤ h ∧ h < 64)) ∧ v = sm (fun z => if al (hi 40) z h ∧ nO (hi 40) z < x then 1 else 0) (hi 40 0).toNat)))) → Q (AI v) h2) := by
  refine Ct.of (ws' := _) (by decide +kernel) rfl rfl ?_
  intro a hi Q hT
  obtain ⟨x, h, rfl, hpre, hQ⟩ := hT
  refine ⟨Nat.le_of_ble_eq_true rfl, ?_⟩
  show Z kX8_rank Q 0 [(0, AR 40), (1, AI x), (2, AI h)] [] hi
  refine z_aload_n (pc := 0) (x := 40) dX8_rank_0 rfl 0 rfl ?_
  refine z_iconst (pc := 1) (v := 0) dX8_rank_1 rfl ?_
  refine z_putI (pc := 2) (pl := 39) (f := 0) (ci := 7) (C := RX8) (T := TX8) (N := 33) hu_X8 tyX8_ok nmX8 (by decide) rfl rfl (by decide) rfl (List.mem_cons_of_mem _ (iw8 _ (List.mem_of_getElem? (i := 22) rfl))) rfl rfl (ty := .int) (by decide +kernel) rfl rfl ⟨by decide, by decide⟩ dX8_rank_2 (fun h1 eh1 => ?_)
  have frh1 : Fr [39] hi h1 := (Fr.put (Fr.rf) eh1 (by decide))
  have z1 : h1 = Z0 hi := eh1
  have n0 := hpre.1.1
  have e40 : h1 40 = hi 40 := by rw [z1]; rfl
  refine z_iload_n (pc := 5) dX8_rank_5 rfl 1 rfl ?_
  refine z_callS (pc := 6) (kc := kX8_isNumber) (n := 1) (As := [AI x]) (stk := []) ct_X8_isNumber (gdS rfl rfl (iw9 _ (List.mem_of_getElem? (i := 5) rfl)) (iw9 _ (List.mem_of_getElem? (i := 6) rfl)) (iw1 _ (List.mem_of_getElem? (i := 5) rfl)) (iw9 _ (List.mem_of_getElem? (i := 7) rfl))) rfl ⟨rfl, rfl⟩ (by decide +kernel) ⟨by decide, by decide⟩ dX8_rank_6 rfl rfl (Nat.le_of_ble_eq_true rfl) ?_
  refine ⟨_, rfl, by omega, fun v2 ev2 => ?_⟩
  refine z_if_eq (pc := 9) (tgt := 19) dX8_rank_9 (by decide) ⟨by omega, by omega⟩ (fun c3 => ?_) (fun c3 => ?_)
  · refine z_iconst (pc := 19) (v := (-1)) dX8_rank_19 rfl ?_
    refine z_iret (pc := 20) rfl dX8_rank_20 ?_
    exact hQ (-1) h1 ⟨frh1, ⟨z1, by first | exact Or.inl ⟨rfl, by omega⟩ | exact Or.inr ⟨by omega, by rw [i1, show k = hi 40 0 by omega]⟩⟩⟩
  · refine z_iload_n (pc := 12) dX8_rank_12 rfl 2 rfl ?_
    refine z_callS (pc := 13) (kc := kX8_isHour) (n := 1) (As := [AI h]) (stk := []) ct_X8_isHour (gdS rfl rfl (iw9 _ (List.mem_of_getElem? (i := 12) rfl)) (iw9 _ (List.mem_of_getElem? (i := 13) rfl)) (iw1 _ (List.mem_of_getElem? (i := 5) rfl)) (iw9 _ (List.mem_of_getElem? (i := 14) rfl))) rfl ⟨rfl, rfl⟩ (by decide +kernel) ⟨by decide, by decide⟩ dX8_rank_13 rfl rfl (Nat.le_of_ble_eq_true rfl) ?_
    refine ⟨_, rfl, by omega, fun v4 ev4 => ?_⟩
    refine z_if_ne (pc := 16) (tgt := 21) dX8_rank_16 (by decide) ⟨by omega, by omega⟩ (fun c5 => ?_) (fun c5 => ?_)
    · refine z_iconst (pc := 21) (v := 0) dX8_rank_21 rfl ?_
      refine z_istore_n (pc := 22) (lv' := [(3, AI 0), (0, AR 40), (1, AI x), (2, AI h)]) dX8_rank_22 rfl (by decide) rfl ?_
      refine z_iconst (pc := 23) (v := 0) dX8_rank_23 rfl ?_
      refine z_istore (pc := 24) (lv' := [(4, AI 0), (3, AI 0), (0, AR 40), (1, AI x), (2, AI h)]) dX8_rank_24 (by decide) rfl ?_
      have J26 : ∀ (N : Nat) (k acc : Int), (0 ≤ k ∧ k ≤ hi 40 0) → (acc = sm (fun z => if al (hi 40) z h ∧ nO (hi 40) z < x then 1 else 0) k.toNat) → ((hi 40 0 - k).toNat) < N → Z kX8_rank Q 26 [(4, AI k), (3, AI acc), (0, AR 40), (1, AI x), (2, AI h)] [] h1 := by
        intro N
        induction N with
        | zero => intro k acc _ _ _; exact absurd (by assumption) (Nat.not_lt_zero _)
        | succ N ih26 =>
          intro k acc i0 i1 hm26
          refine z_iload (pc := 26) dX8_rank_26 0 rfl ?_
          refine z_aload_n (pc := 28) (x := 40) dX8_rank_28 rfl 2 rfl ?_
          refine z_getR (pc := 29) (pl := 39) (f := 1) (ci := 7) (C := RX8) (T := TX8) (N := 33) hu_X8 (by decide) rfl rfl (by decide) rfl (List.mem_cons_of_mem _ (iw5 _ (List.mem_of_getElem? (i := 5) rfl))) rfl dX8_rank_29 ?_
          refine z_iconst (pc := 32) (v := 0) dX8_rank_32 rfl ?_
          refine z_iald (pc := 33) (pl := 40) (by decide) rfl (by decide) (by decide) (by decide) (by decide) dX8_rank_33 (fun v6 ev6 rv6 => ?_)
          rw [(by rw [eh1]; rfl : h1 40 = hi 40)] at ev6
          replace ev6 : v6 = hi 40 0 := ev6
          refine z_icmp_ge (pc := 34) (tgt := 75) dX8_rank_34 (by decide) ⟨by omega, by omega⟩ ⟨by omega, by omega⟩ (fun c7 => ?_) (fun c7 => ?_)
          · refine z_iload_n (pc := 75) dX8_rank_75 rfl 1 rfl ?_
            refine z_iret (pc := 76) rfl dX8_rank_76 ?_
            exact hQ acc h1 ⟨frh1, ⟨z1, by first | exact Or.inl ⟨rfl, by omega⟩ | exact Or.inr ⟨by omega, by rw [i1, show k = hi 40 0 by omega]⟩⟩⟩
          · refine z_iload_n (pc := 37) dX8_rank_37 rfl 1 rfl ?_
            refine z_aload_n (pc := 38) (x := 40) dX8_rank_38 rfl 2 rfl ?_
            refine z_getR (pc := 39) (pl := 39) (f := 1) (ci := 7) (C := RX8) (T := TX8) (N := 33) hu_X8 (by decide) rfl rfl (by decide) rfl (List.mem_cons_of_mem _ (iw5 _ (List.mem_of_getElem? (i := 5) rfl))) rfl dX8_rank_39 ?_
            refine z_iload (pc := 42) dX8_rank_42 0 rfl ?_
            refine z_iload_n (pc := 44) dX8_rank_44 rfl 4 rfl ?_
            refine z_callS (pc := 45) (kc := kX8_lives) (n := 3) (As := [AR 41, AI k, AI h]) (stk := [AI acc]) ct_X8_lives_40 (gdS rfl rfl (iw10 _ (List.mem_of_getElem? (i := 13) rfl)) (iw10 _ (List.mem_of_getElem? (i := 14) rfl)) (iw1 _ (List.mem_of_getElem? (i := 5) rfl)) (iw10 _ (List.mem_of_getElem? (i := 15) rfl))) rfl ⟨rfl, rfl⟩ (by decide +kernel) ⟨by decide, by decide⟩ dX8_rank_45 rfl rfl (Nat.le_of_ble_eq_true rfl) ?_
            refine ⟨_, _, rfl, by omega, fun v8 ev8 => ?_⟩
            try rw [(by rw [eh1]; rfl : h1 40 = hi 40)] at ev8
            refine z_if_eq (pc := 48) (tgt := 66) dX8_rank_48 (by decide) ⟨by omega, by omega⟩ (fun c9 => ?_) (fun c9 => ?_)
            · refine z_iconst (pc := 66) (v := 0) dX8_rank_66 rfl ?_
              refine z_iadd (pc := 67) dX8_rank_67 (fun v10 ev10 => ?_)
              refine z_istore_n (pc := 68) (lv' := [(3, AI v10), (4, AI k), (0, AR 40), (1, AI x), (2, AI h)]) dX8_rank_68 rfl (by decide) rfl ?_
              refine z_iinc (pc := 69) (j := 1) (w := fun q => (4, AI q) :: [(3, AI v10), (0, AR 40), (1, AI x), (2, AI h)]) dX8_rank_69 rfl (by decide) (fun _ => rfl) (fun v11 ev11 => ?_)
              refine z_goto (pc := 72) (tgt := 26) dX8_rank_72 (by decide) ?_
              exact ih26 v11 v10 (by omega) (sm_step (by omega) (by omega) i1 (by first | omega | (split <;> omega))) (by omega)
            · refine z_aload_n (pc := 51) (x := 40) dX8_rank_51 rfl 2 rfl ?_
              refine z_iload (pc := 52) dX8_rank_52 0 rfl ?_
              refine z_iconst (pc := 54) (v := 0) dX8_rank_54 rfl ?_
              refine z_callV (pc := 55) (kc := kX8_its) (n := 2) (pl := 39) (ci := 7) (C := RX8) (As := [AI k, AI 0]) (stk := [AI acc]) ct_X8_its (gdV rfl rfl (iw13 _ (List.mem_of_getElem? (i := 0) rfl)) (iw13 _ (List.mem_of_getElem? (i := 1) rfl)) (iw13 _ (List.mem_of_getElem? (i := 2) rfl)) (iw1 _ (List.mem_of_getElem? (i := 5) rfl)) (iw13 _ (List.mem_of_getElem? (i := 3) rfl))) rfl ⟨rfl, rfl⟩ (by decide +kernel) ⟨by decide, by decide⟩ (by decide) rfl rfl dX8_rank_55 rfl rfl (Nat.le_of_ble_eq_true rfl) ?_
              refine ⟨_, _, rfl, by omega, fun v12 ev12 => ?_⟩
              try rw [(by rw [eh1]; rfl : h1 40 = hi 40)] at ev12
              replace ev12 : v12 = nO (hi 40) k ∧ inR v12 := ev12
              refine z_iload_n (pc := 58) dX8_rank_58 rfl 3 rfl ?_
              refine z_icmp_ge (pc := 59) (tgt := 66) dX8_rank_59 (by decide) ⟨by omega, by omega⟩ ⟨by omega, by omega⟩ (fun c13 => ?_) (fun c13 => ?_)
              · refine z_iconst (pc := 66) (v := 0) dX8_rank_66 rfl ?_
                refine z_iadd (pc := 67) dX8_rank_67 (fun v14 ev14 => ?_)
                refine z_istore_n (pc := 68) (lv' := [(3, AI v14), (4, AI k), (0, AR 40), (1, AI x), (2, AI h)]) dX8_rank_68 rfl (by decide) rfl ?_
                refine z_iinc (pc := 69) (j := 1) (w := fun q => (4, AI q) :: [(3, AI v14), (0, AR 40), (1, AI x), (2, AI h)]) dX8_rank_69 rfl (by decide) (fun _ => rfl) (fun v15 ev15 => ?_)
                refine z_goto (pc := 72) (tgt := 26) dX8_rank_72 (by decide) ?_
                exact ih26 v15 v14 (by omega) (sm_step (by omega) (by omega) i1 (by first | omega | (split <;> omega))) (by omega)
              · refine z_iconst (pc := 62) (v := 1) dX8_rank_62 rfl ?_
                refine z_goto (pc := 63) (tgt := 67) dX8_rank_63 (by decide) ?_
                refine z_iadd (pc := 67) dX8_rank_67 (fun v16 ev16 => ?_)
                refine z_istore_n (pc := 68) (lv' := [(3, AI v16), (4, AI k), (0, AR 40), (1, AI x), (2, AI h)]) dX8_rank_68 rfl (by decide) rfl ?_
                refine z_iinc (pc := 69) (j := 1) (w := fun q => (4, AI q) :: [(3, AI v16), (0, AR 40), (1, AI x), (2, AI h)]) dX8_rank_69 rfl (by decide) (fun _ => rfl) (fun v17 ev17 => ?_)
                refine z_goto (pc := 72) (tgt := 26) dX8_rank_72 (by decide) ?_
                exact ih26 v17 v16 (by omega) (sm_step (by omega) (by omega) i1 (by first | omega | (split <;> omega))) (by omega)
      exact J26 _ 0 0 (by omega) (sm_0 rfl rfl) (Nat.lt_succ_self _)
    · refine z_iconst (pc := 19) (v := (-1)) dX8_rank_19 rfl ?_
      refine z_iret (pc := 20) rfl dX8_rank_20 ?_
      exact hQ (-1) h1 ⟨frh1, ⟨z1, by first | exact Or.inl ⟨rfl, by omega⟩ | exact Or.inr ⟨by omega, by rw [i1, show k = hi 40 0 by omega]⟩⟩⟩

abbrev kX8_changes : Kd := (cX8_changes, .code yX8_changes cX8_changes 5 (some .int) :: wsL_law0, rmL 3, RX8, (some .int), 5)
theorem ct_X8_changes : Ct kX8_changes yX8_changes (fun a hi Q => ∃ h : Int, ∃ y : Int, a = [AR 40, AI h, AI y] ∧ (RI (hi 40) (hi 40 0) ∧ inR h ∧ inR y) ∧ ∀ (v : Int) (h2 : HI), (Fr [39] hi h2 ∧ (h2 = Z0 hi ∧ ((v = -1 ∧ ¬ ((0 ≤ h ∧ h ≤ 64) ∧ 0 ≤ y ∧ y ≤ 1)) ∨ (((0 ≤ h ∧ h ≤ 64) ∧ 0 ≤ y ∧ y ≤ 1) ∧ v = sm (fun z => if (if y = 0 then bO (hi 40) z else dO (hi 40) z) = h then 1 else 0) (hi 40 0).toNat)))) → Q (AI v) h2) := by
  refine Ct.of (ws' := _) (by decide +kernel) rfl rfl ?_
  intro a hi Q hT
  obtain ⟨h, y, rfl, hpre, hQ⟩ := hT
  refine ⟨Nat.le_of_ble_eq_true rfl, ?_⟩
  show Z kX8_changes Q 0 [(0, AR 40), (1, AI h), (2, AI y)] [] hi
  refine z_aload_n (pc := 0) (x := 40) dX8_changes_0 rfl 0 rfl ?_
  refine z_iconst (pc := 1) (v := 0) dX8_changes_1 rfl ?_
  refine z_putI (pc := 2) (pl := 39) (f := 0) (ci := 7) (C := RX8) (T := TX8) (N := 33) hu_X8 tyX8_ok nmX8 (by decide) rfl rfl (by decide) rfl (List.mem_cons_of_mem _ (iw8 _ (List.mem_of_getElem? (i := 22) rfl))) rfl rfl (ty := .int) (by decide +kernel) rfl rfl ⟨by decide, by decide⟩ dX8_changes_2 (fun h1 eh1 => ?_)
  have frh1 : Fr [39] hi h1 := (Fr.put (Fr.rf) eh1 (by decide))
  have z1 : h1 = Z0 hi := eh1
  have n0 := hpre.1.1
  have e40 : h1 40 = hi 40 := by rw [z1]; rfl
  refine z_iload_n (pc := 5) dX8_changes_5 rfl 1 rfl ?_
  refine z_i2l (pc := 6) dX8_changes_6 ⟨by omega, by omega⟩ ?_
  refine z_lconst (pc := 7) (v := 0) dX8_changes_7 (by decide +kernel) ?_
  refine z_ldc2 (pc := 8) (v := 64) (x := 64) (List.mem_cons_of_mem _ (iw9 _ (List.mem_of_getElem? (i := 3) rfl))) (by decide +kernel) dX8_changes_8 ?_
  refine z_callS (pc := 11) (kc := kX8_within) (n := 3) (As := [AL h, AL 0, AL 64]) (stk := []) ct_X8_within (gdS rfl rfl (iw9 _ (List.mem_of_getElem? (i := 9) rfl)) (iw9 _ (List.mem_of_getElem? (i := 10) rfl)) (iw1 _ (List.mem_of_getElem? (i := 5) rfl)) (iw9 _ (List.mem_of_getElem? (i := 11) rfl))) rfl ⟨rfl, rfl⟩ (by decide +kernel) ⟨by decide, by decide⟩ dX8_changes_11 rfl rfl (Nat.le_of_ble_eq_true rfl) ?_
  refine ⟨_, _, _, rfl, ⟨⟨by omega, by omega⟩, ⟨by omega, by omega⟩, ⟨by omega, by omega⟩⟩, fun v2 ev2 => ?_⟩
  refine z_if_eq (pc := 14) (tgt := 27) dX8_changes_14 (by decide) ⟨by omega, by omega⟩ (fun c3 => ?_) (fun c3 => ?_)
  · refine z_iconst (pc := 27) (v := (-1)) dX8_changes_27 rfl ?_
    refine z_iret (pc := 28) rfl dX8_changes_28 ?_
    exact hQ (-1) h1 ⟨frh1, ⟨z1, by first | exact Or.inl ⟨rfl, by omega⟩ | exact Or.inr ⟨by omega, by rw [i1, show k = hi 40 0 by omega]⟩⟩⟩
  · refine z_iload_n (pc := 17) dX8_changes_17 rfl 2 rfl ?_
    refine z_i2l (pc := 18) dX8_changes_18 ⟨by omega, by omega⟩ ?_
    refine z_lconst (pc := 19) (v := 0) dX8_changes_19 (by decide +kernel) ?_
    refine z_lconst (pc := 20) (v := 1) dX8_changes_20 (by decide +kernel) ?_
    refine z_callS (pc := 21) (kc := kX8_within) (n := 3) (As := [AL y, AL 0, AL 1]) (stk := []) ct_X8_within (gdS rfl rfl (iw9 _ (List.mem_of_getElem? (i := 9) rfl)) (iw9 _ (List.mem_of_getElem? (i := 10) rfl)) (iw1 _ (List.mem_of_getElem? (i := 5) rfl)) (iw9 _ (List.mem_of_getElem? (i := 11) rfl))) rfl ⟨rfl, rfl⟩ (by decide +kernel) ⟨by decide, by decide⟩ dX8_changes_21 rfl rfl (Nat.le_of_ble_eq_true rfl) ?_
    refine ⟨_, _, _, rfl, ⟨⟨by omega, by omega⟩, ⟨by omega, by omega⟩, ⟨by omega, by omega⟩⟩, fun v4 ev4 => ?_⟩
    refine z_if_ne (pc := 24) (tgt := 29) dX8_changes_24 (by decide) ⟨by omega, by omega⟩ (fun c5 => ?_) (fun c5 => ?_)
    · refine z_iconst (pc := 29) (v := 0) dX8_changes_29 rfl ?_
      refine z_istore_n (pc := 30) (lv' := [(3, AI 0), (0, AR 40), (1, AI h), (2, AI y)]) dX8_changes_30 rfl (by decide) rfl ?_
      refine z_iconst (pc := 31) (v := 0) dX8_changes_31 rfl ?_
      refine z_istore (pc := 32) (lv' := [(4, AI 0), (3, AI 0), (0, AR 40), (1, AI h), (2, AI y)]) dX8_changes_32 (by decide) rfl ?_
      have J34 : ∀ (N : Nat) (k acc : Int), (0 ≤ k ∧ k ≤ hi 40 0) → (acc = sm (fun z => if (if y = 0 then bO (hi 40) z else dO (hi 40) z) = h then 1 else 0) k.toNat) → ((hi 40 0 - k).toNat) < N → Z kX8_changes Q 34 [(4, AI k), (3, AI acc), (0, AR 40), (1, AI h), (2, AI y)] [] h1 := by
        intro N
        induction N with
        | zero => intro k acc _ _ _; exact absurd (by assumption) (Nat.not_lt_zero _)
        | succ N ih34 =>
          intro k acc i0 i1 hm34
          refine z_iload (pc := 34) dX8_changes_34 0 rfl ?_
          refine z_aload_n (pc := 36) (x := 40) dX8_changes_36 rfl 2 rfl ?_
          refine z_getR (pc := 37) (pl := 39) (f := 1) (ci := 7) (C := RX8) (T := TX8) (N := 33) hu_X8 (by decide) rfl rfl (by decide) rfl (List.mem_cons_of_mem _ (iw5 _ (List.mem_of_getElem? (i := 5) rfl))) rfl dX8_changes_37 ?_
          refine z_iconst (pc := 40) (v := 0) dX8_changes_40 rfl ?_
          refine z_iald (pc := 41) (pl := 40) (by decide) rfl (by decide) (by decide) (by decide) (by decide) dX8_changes_41 (fun v6 ev6 rv6 => ?_)
          rw [(by rw [eh1]; rfl : h1 40 = hi 40)] at ev6
          replace ev6 : v6 = hi 40 0 := ev6
          refine z_icmp_ge (pc := 42) (tgt := 78) dX8_changes_42 (by decide) ⟨by omega, by omega⟩ ⟨by omega, by omega⟩ (fun c7 => ?_) (fun c7 => ?_)
          · refine z_iload_n (pc := 78) dX8_changes_78 rfl 1 rfl ?_
            refine z_iret (pc := 79) rfl dX8_changes_79 ?_
            exact hQ acc h1 ⟨frh1, ⟨z1, by first | exact Or.inl ⟨rfl, by omega⟩ | exact Or.inr ⟨by omega, by rw [i1, show k = hi 40 0 by omega]⟩⟩⟩
          · refine z_iload_n (pc := 45) dX8_changes_45 rfl 1 rfl ?_
            refine z_aload_n (pc := 46) (x := 40) dX8_changes_46 rfl 2 rfl ?_
            refine z_iload (pc := 47) dX8_changes_47 0 rfl ?_
            refine z_iload_n (pc := 49) dX8_changes_49 rfl 4 rfl ?_
            refine z_if_ne (pc := 50) (tgt := 57) dX8_changes_50 (by decide) ⟨by omega, by omega⟩ (fun c8 => ?_) (fun c8 => ?_)
            · refine z_iconst (pc := 57) (v := 2) dX8_changes_57 rfl ?_
              refine z_callV (pc := 58) (kc := kX8_its) (n := 2) (pl := 39) (ci := 7) (C := RX8) (As := [AI k, AI 2]) (stk := [AI acc]) ct_X8_its (gdV rfl rfl (iw13 _ (List.mem_of_getElem? (i := 0) rfl)) (iw13 _ (List.mem_of_getElem? (i := 1) rfl)) (iw13 _ (List.mem_of_getElem? (i := 2) rfl)) (iw1 _ (List.mem_of_getElem? (i := 5) rfl)) (iw13 _ (List.mem_of_getElem? (i := 3) rfl))) rfl ⟨rfl, rfl⟩ (by decide +kernel) ⟨by decide, by decide⟩ (by decide) rfl rfl dX8_changes_58 rfl rfl (Nat.le_of_ble_eq_true rfl) ?_
              refine ⟨_, _, rfl, by omega, fun v9 ev9 => ?_⟩
              try rw [(by rw [eh1]; rfl : h1 40 = hi 40)] at ev9
              replace ev9 : v9 = dO (hi 40) k ∧ inR v9 := ev9
              refine z_iload_n (pc := 61) dX8_changes_61 rfl 3 rfl ?_
              refine z_icmp_ne (pc := 62) (tgt := 69) dX8_changes_62 (by decide) ⟨by omega, by omega⟩ ⟨by omega, by omega⟩ (fun c10 => ?_) (fun c10 => ?_)
              · refine z_iconst (pc := 69) (v := 0) dX8_changes_69 rfl ?_
                refine z_iadd (pc := 70) dX8_changes_70 (fun v11 ev11 => ?_)
                refine z_istore_n (pc := 71) (lv' := [(3, AI v11), (4, AI k), (0, AR 40), (1, AI h), (2, AI y)]) dX8_changes_71 rfl (by decide) rfl ?_
                refine z_iinc (pc := 72) (j := 1) (w := fun q => (4, AI q) :: [(3, AI v11), (0, AR 40), (1, AI h), (2, AI y)]) dX8_changes_72 rfl (by decide) (fun _ => rfl) (fun v12 ev12 => ?_)
                refine z_goto (pc := 75) (tgt := 34) dX8_changes_75 (by decide) ?_
                exact ih34 v12 v11 (by omega) (sm_step (by omega) (by omega) i1 (by (repeat split) <;> omega)) (by omega)
              · refine z_iconst (pc := 65) (v := 1) dX8_changes_65 rfl ?_
                refine z_goto (pc := 66) (tgt := 70) dX8_changes_66 (by decide) ?_
                refine z_iadd (pc := 70) dX8_changes_70 (fun v13 ev13 => ?_)
                refine z_istore_n (pc := 71) (lv' := [(3, AI v13), (4, AI k), (0, AR 40), (1, AI h), (2, AI y)]) dX8_changes_71 rfl (by decide) rfl ?_
                refine z_iinc (pc := 72) (j := 1) (w := fun q => (4, AI q) :: [(3, AI v13), (0, AR 40), (1, AI h), (2, AI y)]) dX8_changes_72 rfl (by decide) (fun _ => rfl) (fun v14 ev14 => ?_)
                refine z_goto (pc := 75) (tgt := 34) dX8_changes_75 (by decide) ?_
                exact ih34 v14 v13 (by omega) (sm_step (by omega) (by omega) i1 (by (repeat split) <;> omega)) (by omega)
            · refine z_iconst (pc := 53) (v := 1) dX8_changes_53 rfl ?_
              refine z_goto (pc := 54) (tgt := 58) dX8_changes_54 (by decide) ?_
              refine z_callV (pc := 58) (kc := kX8_its) (n := 2) (pl := 39) (ci := 7) (C := RX8) (As := [AI k, AI 1]) (stk := [AI acc]) ct_X8_its (gdV rfl rfl (iw13 _ (List.mem_of_getElem? (i := 0) rfl)) (iw13 _ (List.mem_of_getElem? (i := 1) rfl)) (iw13 _ (List.mem_of_getElem? (i := 2) rfl)) (iw1 _ (List.mem_of_getElem? (i := 5) rfl)) (iw13 _ (List.mem_of_getElem? (i := 3) rfl))) rfl ⟨rfl, rfl⟩ (by decide +kernel) ⟨by decide, by decide⟩ (by decide) rfl rfl dX8_changes_58 rfl rfl (Nat.le_of_ble_eq_true rfl) ?_
              refine ⟨_, _, rfl, by omega, fun v15 ev15 => ?_⟩
              try rw [(by rw [eh1]; rfl : h1 40 = hi 40)] at ev15
              replace ev15 : v15 = bO (hi 40) k ∧ inR v15 := ev15
              refine z_iload_n (pc := 61) dX8_changes_61 rfl 3 rfl ?_
              refine z_icmp_ne (pc := 62) (tgt := 69) dX8_changes_62 (by decide) ⟨by omega, by omega⟩ ⟨by omega, by omega⟩ (fun c16 => ?_) (fun c16 => ?_)
              · refine z_iconst (pc := 69) (v := 0) dX8_changes_69 rfl ?_
                refine z_iadd (pc := 70) dX8_changes_70 (fun v17 ev17 => ?_)
                refine z_istore_n (pc := 71) (lv' := [(3, AI v17), (4, AI k), (0, AR 40), (1, AI h), (2, AI y)]) dX8_changes_71 rfl (by decide) rfl ?_
                refine z_iinc (pc := 72) (j := 1) (w := fun q => (4, AI q) :: [(3, AI v17), (0, AR 40), (1, AI h), (2, AI y)]) dX8_changes_72 rfl (by decide) (fun _ => rfl) (fun v18 ev18 => ?_)
                refine z_goto (pc := 75) (tgt := 34) dX8_changes_75 (by decide) ?_
                exact ih34 v18 v17 (by omega) (sm_step (by omega) (by omega) i1 (by (repeat split) <;> omega)) (by omega)
              · refine z_iconst (pc := 65) (v := 1) dX8_changes_65 rfl ?_
                refine z_goto (pc := 66) (tgt := 70) dX8_changes_66 (by decide) ?_
                refine z_iadd (pc := 70) dX8_changes_70 (fun v19 ev19 => ?_)
                refine z_istore_n (pc := 71) (lv' := [(3, AI v19), (4, AI k), (0, AR 40), (1, AI h), (2, AI y)]) dX8_changes_71 rfl (by decide) rfl ?_
                refine z_iinc (pc := 72) (j := 1) (w := fun q => (4, AI q) :: [(3, AI v19), (0, AR 40), (1, AI h), (2, AI y)]) dX8_changes_72 rfl (by decide) (fun _ => rfl) (fun v20 ev20 => ?_)
                refine z_goto (pc := 75) (tgt := 34) dX8_changes_75 (by decide) ?_
                exact ih34 v20 v19 (by omega) (sm_step (by omega) (by omega) i1 (by (repeat split) <;> omega)) (by omega)
      exact J34 _ 0 0 (by omega) (sm_0 rfl rfl) (Nat.lt_succ_self _)
    · refine z_iconst (pc := 27) (v := (-1)) dX8_changes_27 rfl ?_
      refine z_iret (pc := 28) rfl dX8_changes_28 ?_
      exact hQ (-1) h1 ⟨frh1, ⟨z1, by first | exact Or.inl ⟨rfl, by omega⟩ | exact Or.inr ⟨by omega, by rw [i1, show k = hi 40 0 by omega]⟩⟩⟩

abbrev kX8_kth : Kd := (cX8_kth, .code yX8_kth cX8_kth 3 (some .int) :: wsL_law0, rmL 4, RX8, (some .int), 3)
theorem ct_X8_kth : Ct kX8_kth yX8_kth (fun a hi Q => ∃ h : Int, ∃ k : Int, a = [AR 40, AI h, AI k] ∧ (RI (hi 40) (hi 40 0) ∧ inR h ∧ inR k) ∧ ∀ (v : Int) (h2 : HI), (Fr [39] hi h2 ∧ (h2 = Z0 hi ∧ ((v = -1 ∧ ¬ ((0 ≤ h ∧ h < 64) ∧ 0 ≤ k)) ∨ (((0 ≤ h ∧ h < 64) ∧ 0 ≤ k) ∧ ∃ i : Int, Fst (fun z => (al (hi 40) z h) ∧ sm (fun z => if al (hi 40) z h then 1 else 0) z.toNat = k) (hi 40 0) i ∧ ((i < 0 ∧ v = -2) ∨ (0 ≤ i ∧ v = nO (hi 40) i)))))) → Q (AI v) h2) := by
  refine Ct.of (ws' := _) (by decide +kernel) rfl rfl ?_
  intro a hi Q hT
  obtain ⟨h, k, rfl, hpre, hQ⟩ := hT
  refine ⟨Nat.le_of_ble_eq_true rfl, ?_⟩
  show Z kX8_kth Q 0 [(0, AR 40), (1, AI h), (2, AI k)] [] hi
  refine z_aload_n (pc := 0) (x := 40) dX8_kth_0 rfl 0 rfl ?_
  refine z_iconst (pc := 1) (v := 0) dX8_kth_1 rfl ?_
  refine z_putI (pc := 2) (pl := 39) (f := 0) (ci := 7) (C := RX8) (T := TX8) (N := 33) hu_X8 tyX8_ok nmX8 (by decide) rfl rfl (by decide) rfl (List.mem_cons_of_mem _ (iw8 _ (List.mem_of_getElem? (i := 22) rfl))) rfl rfl (ty := .int) (by decide +kernel) rfl rfl ⟨by decide, by decide⟩ dX8_kth_2 (fun h1 eh1 => ?_)
  have frh1 : Fr [39] hi h1 := (Fr.put (Fr.rf) eh1 (by decide))
  have z1 : h1 = Z0 hi := eh1
  have n0 := hpre.1.1
  have e40 : h1 40 = hi 40 := by rw [z1]; rfl
  refine z_iload_n (pc := 5) dX8_kth_5 rfl 1 rfl ?_
  refine z_callS (pc := 6) (kc := kX8_isHour) (n := 1) (As := [AI h]) (stk := []) ct_X8_isHour (gdS rfl rfl (iw9 _ (List.mem_of_getElem? (i := 12) rfl)) (iw9 _ (List.mem_of_getElem? (i := 13) rfl)) (iw1 _ (List.mem_of_getElem? (i := 5) rfl)) (iw9 _ (List.mem_of_getElem? (i := 14) rfl))) rfl ⟨rfl, rfl⟩ (by decide +kernel) ⟨by decide, by decide⟩ dX8_kth_6 rfl rfl (Nat.le_of_ble_eq_true rfl) ?_
  refine ⟨_, rfl, by omega, fun v2 ev2 => ?_⟩
  refine z_if_eq (pc := 9) (tgt := 25) dX8_kth_9 (by decide) ⟨by omega, by omega⟩ (fun c3 => ?_) (fun c3 => ?_)
  · refine z_iconst (pc := 25) (v := (-1)) dX8_kth_25 rfl ?_
    refine z_iret (pc := 26) rfl dX8_kth_26 ?_
    exact hQ (-1) h1 ⟨frh1, ⟨z1, by first | exact Or.inl ⟨rfl, by omega⟩ | exact Or.inr ⟨by omega, kk, wf, by omega⟩⟩⟩
  · refine z_iload_n (pc := 12) dX8_kth_12 rfl 2 rfl ?_
    refine z_if_lt (pc := 13) (tgt := 25) dX8_kth_13 (by decide) ⟨by omega, by omega⟩ (fun c4 => ?_) (fun c4 => ?_)
    · refine z_iconst (pc := 25) (v := (-1)) dX8_kth_25 rfl ?_
      refine z_iret (pc := 26) rfl dX8_kth_26 ?_
      exact hQ (-1) h1 ⟨frh1, ⟨z1, by first | exact Or.inl ⟨rfl, by omega⟩ | exact Or.inr ⟨by omega, kk, wf, by omega⟩⟩⟩
    · refine z_aload_n (pc := 16) (x := 40) dX8_kth_16 rfl 0 rfl ?_
      refine z_iload_n (pc := 17) dX8_kth_17 rfl 1 rfl ?_
      refine z_iload_n (pc := 18) dX8_kth_18 rfl 2 rfl ?_
      refine z_callV (pc := 19) (kc := kX8_kthAt) (n := 2) (pl := 39) (ci := 7) (C := RX8) (As := [AI h, AI k]) (stk := []) ct_X8_kthAt (gdV rfl rfl (iw46 _ (List.mem_of_getElem? (i := 14) rfl)) (iw46 _ (List.mem_of_getElem? (i := 15) rfl)) (iw46 _ (List.mem_of_getElem? (i := 16) rfl)) (iw1 _ (List.mem_of_getElem? (i := 5) rfl)) (iw46 _ (List.mem_of_getElem? (i := 17) rfl))) rfl ⟨rfl, rfl⟩ (by decide +kernel) ⟨by decide, by decide⟩ (by decide) rfl rfl dX8_kth_19 rfl rfl (Nat.le_of_ble_eq_true rfl) ?_
      refine ⟨_, _, rfl, by (try rw [(by rw [eh1]; rfl : h1 40 = hi 40)]); exact ⟨hpre.1, ⟨by omega, by omega⟩, ⟨by omega, by omega⟩⟩, fun v5 ev5 => ?_⟩
      try rw [(by rw [eh1]; rfl : h1 40 = hi 40)] at ev5
      obtain ⟨kk, wf, wv⟩ := ev5
      refine z_goto (pc := 22) (tgt := 26) dX8_kth_22 (by decide) ?_
      refine z_iret (pc := 26) rfl dX8_kth_26 ?_
      exact hQ v5 h1 ⟨frh1, ⟨z1, by first | exact Or.inl ⟨rfl, by omega⟩ | exact Or.inr ⟨by omega, kk, wf, by omega⟩⟩⟩

abbrev kX8_sum : Kd := (cX8_sum, .code yX8_sum cX8_sum 4 (some .int) :: wsL_law0, rmL 4, RX8, (some .int), 4)
theorem ct_X8_sum : Ct kX8_sum yX8_sum (fun a hi Q => ∃ h : Int, ∃ x : Int, ∃ y : Int, a = [AR 40, AI h, AI x, AI y] ∧ (RI (hi 40) (hi 40 0) ∧ inR h ∧ inR x ∧ inR y) ∧ ∀ (v : Int) (h2 : HI), (Fr [39] hi h2 ∧ (h2 = Z0 hi ∧ ((v = -1 ∧ ¬ ((0 ≤ h ∧ h < 64) ∧ (0 ≤ x ∧ x ≤ 999) ∧ (0 ≤ y ∧ y ≤ 999) ∧ x ≤ y)) ∨ (((0 ≤ h ∧ h < 64) ∧ (0 ≤ x ∧ x ≤ 999) ∧ (0 ≤ y ∧ y ≤ 999) ∧ x ≤ y) ∧ v = sm (fun z => if al (hi 40) z h ∧ x ≤ nO (hi 40) z ∧ nO (hi 40) z ≤ y then wO (hi 40) z else 0) (hi 40 0).toNat)))) → Q (AI v) h2) := by
  refine Ct.of (ws' := _) (by decide +kernel) rfl rfl ?_
  intro a hi Q hT
  obtain ⟨h, x, y, rfl, hpre, hQ⟩ := hT
  refine ⟨Nat.le_of_ble_eq_true rfl, ?_⟩
  show Z kX8_sum Q 0 [(0, AR 40), (1, AI h), (2, AI x), (3, AI y)] [] hi
  refine z_aload_n (pc := 0) (x := 40) dX8_sum_0 rfl 0 rfl ?_
  refine z_iconst (pc := 1) (v := 0) dX8_sum_1 rfl ?_
  refine z_putI (pc := 2) (pl := 39) (f := 0) (ci := 7) (C := RX8) (T := TX8) (N := 33) hu_X8 tyX8_ok nmX8 (by decide) rfl rfl (by decide) rfl (List.mem_cons_of_mem _ (iw8 _ (List.mem_of_getElem? (i := 22) rfl))) rfl rfl (ty := .int) (by decide +kernel) rfl rfl ⟨by decide, by decide⟩ dX8_sum_2 (fun h1 eh1 => ?_)
  have frh1 : Fr [39] hi h1 := (Fr.put (Fr.rf) eh1 (by decide))
  have z1 : h1 = Z0 hi := eh1
  have n0 := hpre.1.1
  have e40 : h1 40 = hi 40 := by rw [z1]; rfl
  refine z_iload_n (pc := 5) dX8_sum_5 rfl 1 rfl ?_
  refine z_callS (pc := 6) (kc := kX8_isHour) (n := 1) (As := [AI h]) (stk := []) ct_X8_isHour (gdS rfl rfl (iw9 _ (List.mem_of_getElem? (i := 12) rfl)) (iw9 _ (List.mem_of_getElem? (i := 13) rfl)) (iw1 _ (List.mem_of_getElem? (i := 5) rfl)) (iw9 _ (List.mem_of_getElem? (i := 14) rfl))) rfl ⟨rfl, rfl⟩ (by decide +kernel) ⟨by decide, by decide⟩ dX8_sum_6 rfl rfl (Nat.le_of_ble_eq_true rfl) ?_
  refine ⟨_, rfl, by omega, fun v2 ev2 => ?_⟩
  refine z_if_eq (pc := 9) (tgt := 41) dX8_sum_9 (by decide) ⟨by omega, by omega⟩ (fun c3 => ?_) (fun c3 => ?_)
  · refine z_iconst (pc := 41) (v := (-1)) dX8_sum_41 rfl ?_
    refine z_iret (pc := 42) rfl dX8_sum_42 ?_
    exact hQ (-1) h1 ⟨frh1, ⟨z1, by first | exact Or.inl ⟨rfl, by omega⟩ | exact Or.inr ⟨by omega, by assumption⟩⟩⟩
  · refine z_iload_n (pc := 12) dX8_sum_12 rfl 2 rfl ?_
    refine z_callS (pc := 13) (kc := kX8_isNumber) (n := 1) (As := [AI x]) (stk := []) ct_X8_isNumber (gdS rfl rfl (iw9 _ (List.mem_of_getElem? (i := 5) rfl)) (iw9 _ (List.mem_of_getElem? (i := 6) rfl)) (iw1 _ (List.mem_of_getElem? (i := 5) rfl)) (iw9 _ (List.mem_of_getElem? (i := 7) rfl))) rfl ⟨rfl, rfl⟩ (by decide +kernel) ⟨by decide, by decide⟩ dX8_sum_13 rfl rfl (Nat.le_of_ble_eq_true rfl) ?_
    refine ⟨_, rfl, by omega, fun v4 ev4 => ?_⟩
    refine z_if_eq (pc := 16) (tgt := 41) dX8_sum_16 (by decide) ⟨by omega, by omega⟩ (fun c5 => ?_) (fun c5 => ?_)
    · refine z_iconst (pc := 41) (v := (-1)) dX8_sum_41 rfl ?_
      refine z_iret (pc := 42) rfl dX8_sum_42 ?_
      exact hQ (-1) h1 ⟨frh1, ⟨z1, by first | exact Or.inl ⟨rfl, by omega⟩ | exact Or.inr ⟨by omega, by assumption⟩⟩⟩
    · refine z_iload_n (pc := 19) dX8_sum_19 rfl 3 rfl ?_
      refine z_callS (pc := 20) (kc := kX8_isNumber) (n := 1) (As := [AI y]) (stk := []) ct_X8_isNumber (gdS rfl rfl (iw9 _ (List.mem_of_getElem? (i := 5) rfl)) (iw9 _ (List.mem_of_getElem? (i := 6) rfl)) (iw1 _ (List.mem_of_getElem? (i := 5) rfl)) (iw9 _ (List.mem_of_getElem? (i := 7) rfl))) rfl ⟨rfl, rfl⟩ (by decide +kernel) ⟨by decide, by decide⟩ dX8_sum_20 rfl rfl (Nat.le_of_ble_eq_true rfl) ?_
      refine ⟨_, rfl, by omega, fun v6 ev6 => ?_⟩
      refine z_if_eq (pc := 23) (tgt := 41) dX8_sum_23 (by decide) ⟨by omega, by omega⟩ (fun c7 => ?_) (fun c7 => ?_)
      · refine z_iconst (pc := 41) (v := (-1)) dX8_sum_41 rfl ?_
        refine z_iret (pc := 42) rfl dX8_sum_42 ?_
        exact hQ (-1) h1 ⟨frh1, ⟨z1, by first | exact Or.inl ⟨rfl, by omega⟩ | exact Or.inr ⟨by omega, by assumption⟩⟩⟩
      · refine z_iload_n (pc := 26) dX8_sum_26 rfl 2 rfl ?_
        refine z_iload_n (pc := 27) dX8_sum_27 rfl 3 rfl ?_
        refine z_icmp_gt (pc := 28) (tgt := 41) dX8_sum_28 (by decide) ⟨by omega, by omega⟩ ⟨by omega, by omega⟩ (fun c8 => ?_) (fun c8 => ?_)
        · refine z_iconst (pc := 41) (v := (-1)) dX8_sum_41 rfl ?_
          refine z_iret (pc := 42) rfl dX8_sum_42 ?_
          exact hQ (-1) h1 ⟨frh1, ⟨z1, by first | exact Or.inl ⟨rfl, by omega⟩ | exact Or.inr ⟨by omega, by assumption⟩⟩⟩
        · refine z_aload_n (pc := 31) (x := 40) dX8_sum_31 rfl 0 rfl ?_
          refine z_iload_n (pc := 32) dX8_sum_32 rfl 1 rfl ?_
          refine z_iload_n (pc := 33) dX8_sum_33 rfl 2 rfl ?_
          refine z_iload_n (pc := 34) dX8_sum_34 rfl 3 rfl ?_
          refine z_callV (pc := 35) (kc := kX8_sumAt) (n := 3) (pl := 39) (ci := 7) (C := RX8) (As := [AI h, AI x, AI y]) (stk := []) ct_X8_sumAt (gdV rfl rfl (iw38 _ (List.mem_of_getElem? (i := 23) rfl)) (iw39 _ (List.mem_of_getElem? (i := 0) rfl)) (iw39 _ (List.mem_of_getElem? (i := 1) rfl)) (iw1 _ (List.mem_of_getElem? (i := 5) rfl)) (iw39 _ (List.mem_of_getElem? (i := 2) rfl))) rfl ⟨rfl, rfl⟩ (by decide +kernel) ⟨by decide, by decide⟩ (by decide) rfl rfl dX8_sum_35 rfl rfl (Nat.le_of_ble_eq_true rfl) ?_
          refine ⟨_, _, _, rfl, by (try rw [(by rw [eh1]; rfl : h1 40 = hi 40)]); exact ⟨hpre.1, ⟨by omega, by omega⟩, ⟨by omega, by omega⟩, ⟨by omega, by omega⟩⟩, fun v9 ev9 => ?_⟩
          try rw [(by rw [eh1]; rfl : h1 40 = hi 40)] at ev9
          refine z_goto (pc := 38) (tgt := 42) dX8_sum_38 (by decide) ?_
          refine z_iret (pc := 42) rfl dX8_sum_42 ?_
          exact hQ v9 h1 ⟨frh1, ⟨z1, by first | exact Or.inl ⟨rfl, by omega⟩ | exact Or.inr ⟨by omega, by assumption⟩⟩⟩

abbrev kX8_gap : Kd := (cX8_gap, .code yX8_gap cX8_gap 6 (some .int) :: wsL_law0, rmL 4, RX8, (some .int), 6)
theorem ct_X8_gap : Ct kX8_gap yX8_gap (fun a hi Q => ∃ h : Int, a = [AR 40, AI h] ∧ (RI (hi 40) (hi 40 0) ∧ inR h) ∧ ∀ (v : Int) (h2 : HI), (Fr [39] hi h2 ∧ (h2 = Z0 hi ∧ ((v = -1 ∧ ¬ (0 ≤ h ∧ h < 64)) ∨ ((0 ≤ h ∧ h < 64) ∧ v = (gs (ak (hi 40) h (hi 40 0).toNat) (cA (hi 40) h (hi 40 0).toNat - 1).toNat).1)))) → Q (AI v) h2) := by
  refine Ct.of (ws' := _) (by decide +kernel) rfl rfl ?_
  intro a hi Q hT
  obtain ⟨h, rfl, hpre, hQ⟩ := hT
  refine ⟨Nat.le_of_ble_eq_true rfl, ?_⟩
  show Z kX8_gap Q 0 [(0, AR 40), (1, AI h)] [] hi
  refine z_aload_n (pc := 0) (x := 40) dX8_gap_0 rfl 0 rfl ?_
  refine z_iconst (pc := 1) (v := 0) dX8_gap_1 rfl ?_
  refine z_putI (pc := 2) (pl := 39) (f := 0) (ci := 7) (C := RX8) (T := TX8) (N := 33) hu_X8 tyX8_ok nmX8 (by decide) rfl rfl (by decide) rfl (List.mem_cons_of_mem _ (iw8 _ (List.mem_of_getElem? (i := 22) rfl))) rfl rfl (ty := .int) (by decide +kernel) rfl rfl ⟨by decide, by decide⟩ dX8_gap_2 (fun h1 eh1 => ?_)
  have frh1 : Fr [39] hi h1 := (Fr.put (Fr.rf) eh1 (by decide))
  have z1 : h1 = Z0 hi := eh1
  have n0 := hpre.1.1
  have e40 : h1 40 = hi 40 := by rw [z1]; rfl
  refine z_iload_n (pc := 5) dX8_gap_5 rfl 1 rfl ?_
  refine z_callS (pc := 6) (kc := kX8_isHour) (n := 1) (As := [AI h]) (stk := []) ct_X8_isHour (gdS rfl rfl (iw9 _ (List.mem_of_getElem? (i := 12) rfl)) (iw9 _ (List.mem_of_getElem? (i := 13) rfl)) (iw1 _ (List.mem_of_getElem? (i := 5) rfl)) (iw9 _ (List.mem_of_getElem? (i := 14) rfl))) rfl ⟨rfl, rfl⟩ (by decide +kernel) ⟨by decide, by decide⟩ dX8_gap_6 rfl rfl (Nat.le_of_ble_eq_true rfl) ?_
  refine ⟨_, rfl, by omega, fun v2 ev2 => ?_⟩
  refine z_if_ne (pc := 9) (tgt := 14) dX8_gap_9 (by decide) ⟨by omega, by omega⟩ (fun c3 => ?_) (fun c3 => ?_)
  · refine z_bipush (pc := 14) (v := (-2)) dX8_gap_14 (by decide +kernel) ?_
    refine z_istore_n (pc := 16) (lv' := [(2, AI (-2)), (0, AR 40), (1, AI h)]) dX8_gap_16 rfl (by decide) rfl ?_
    refine z_iconst (pc := 17) (v := 0) dX8_gap_17 rfl ?_
    refine z_istore_n (pc := 18) (lv' := [(3, AI 0), (2, AI (-2)), (0, AR 40), (1, AI h)]) dX8_gap_18 rfl (by decide) rfl ?_
    refine z_iconst (pc := 19) (v := 0) dX8_gap_19 rfl ?_
    refine z_istore (pc := 20) (lv' := [(4, AI 0), (3, AI 0), (2, AI (-2)), (0, AR 40), (1, AI h)]) dX8_gap_20 (by decide) rfl ?_
    have J22 : ∀ (N : Nat) (k b m : Int), (0 ≤ k ∧ (k = 0 ∨ k + 1 ≤ cA (hi 40) h (hi 40 0).toNat)) → ((b, m) = gs (ak (hi 40) h (hi 40 0).toNat) k.toNat) → ((-2 ≤ b ∧ b ≤ 999) ∧ 0 ≤ m ∧ m ≤ 1001) → ((cA (hi 40) h (hi 40 0).toNat - k).toNat) < N → Z kX8_gap Q 22 [(4, AI k), (3, AI m), (2, AI b), (0, AR 40), (1, AI h)] [] h1 := by
      intro N
      induction N with
      | zero => intro k b m _ _ _ _; exact absurd (by assumption) (Nat.not_lt_zero _)
      | succ N ih22 =>
        intro k b m i0 i1 i2 hm22
        refine z_iload (pc := 22) dX8_gap_22 0 rfl ?_
        refine z_iconst (pc := 24) (v := 1) dX8_gap_24 rfl ?_
        refine z_iadd (pc := 25) dX8_gap_25 (fun v4 ev4 => ?_)
        refine z_aload_n (pc := 26) (x := 40) dX8_gap_26 rfl 3 rfl ?_
        refine z_iload_n (pc := 27) dX8_gap_27 rfl 4 rfl ?_
        refine z_callV (pc := 28) (kc := kX8_countAt) (n := 1) (pl := 39) (ci := 7) (C := RX8) (As := [AI h]) (stk := [AI v4]) ct_X8_countAt (gdV rfl rfl (iw38 _ (List.mem_of_getElem? (i := 19) rfl)) (iw38 _ (List.mem_of_getElem? (i := 20) rfl)) (iw38 _ (List.mem_of_getElem? (i := 21) rfl)) (iw1 _ (List.mem_of_getElem? (i := 5) rfl)) (iw38 _ (List.mem_of_getElem? (i := 22) rfl))) rfl ⟨rfl, rfl⟩ (by decide +kernel) ⟨by decide, by decide⟩ (by decide) rfl rfl dX8_gap_28 rfl rfl (Nat.le_of_ble_eq_true rfl) ?_
        refine ⟨_, rfl, by (try rw [(by rw [eh1]; rfl : h1 40 = hi 40)]); exact ⟨hpre.1, ⟨by omega, by omega⟩⟩, fun v5 ev5 => ?_⟩
        try rw [(by rw [eh1]; rfl : h1 40 = hi 40)] at ev5
        have w28 : v5 = cA (hi 40) h (hi 40 0).toNat := ev5
        have d28 := cA_bd (hi 40) h (hi 40 0).toNat
        refine z_icmp_ge (pc := 31) (tgt := 76) dX8_gap_31 (by decide) ⟨by omega, by omega⟩ ⟨by omega, by omega⟩ (fun c6 => ?_) (fun c6 => ?_)
        · refine z_iload_n (pc := 76) dX8_gap_76 rfl 2 rfl ?_
          refine z_iret (pc := 77) rfl dX8_gap_77 ?_
          exact hQ b h1 ⟨frh1, ⟨z1, by first | exact Or.inl ⟨rfl, by omega⟩ | exact Or.inr ⟨by omega, by rw [← show k.toNat = (cA (hi 40) h (hi 40 0).toNat - 1).toNat by omega, ← i1]⟩⟩⟩
        · refine z_aload_n (pc := 34) (x := 40) dX8_gap_34 rfl 3 rfl ?_
          refine z_iload_n (pc := 35) dX8_gap_35 rfl 4 rfl ?_
          refine z_iload (pc := 36) dX8_gap_36 0 rfl ?_
          refine z_iconst (pc := 38) (v := 1) dX8_gap_38 rfl ?_
          refine z_iadd (pc := 39) dX8_gap_39 (fun v7 ev7 => ?_)
          refine z_callV (pc := 40) (kc := kX8_kthAt) (n := 2) (pl := 39) (ci := 7) (C := RX8) (As := [AI h, AI v7]) (stk := []) ct_X8_kthAt (gdV rfl rfl (iw46 _ (List.mem_of_getElem? (i := 14) rfl)) (iw46 _ (List.mem_of_getElem? (i := 15) rfl)) (iw46 _ (List.mem_of_getElem? (i := 16) rfl)) (iw1 _ (List.mem_of_getElem? (i := 5) rfl)) (iw46 _ (List.mem_of_getElem? (i := 17) rfl))) rfl ⟨rfl, rfl⟩ (by decide +kernel) ⟨by decide, by decide⟩ (by decide) rfl rfl dX8_gap_40 rfl rfl (Nat.le_of_ble_eq_true rfl) ?_
          refine ⟨_, _, rfl, by (try rw [(by rw [eh1]; rfl : h1 40 = hi 40)]); exact ⟨hpre.1, ⟨by omega, by omega⟩, ⟨by omega, by omega⟩⟩, fun v8 ev8 => ?_⟩
          try rw [(by rw [eh1]; rfl : h1 40 = hi 40)] at ev8
          obtain ⟨kk40, wf40, wv40⟩ := ev8
          have w40 : v8 = (ak (hi 40) h (hi 40 0).toNat) v7 := kth_ak n0.1 wf40 (by omega)
          rw [show v7 = k + 1 by omega] at w40
          refine z_aload_n (pc := 43) (x := 40) dX8_gap_43 rfl 3 rfl ?_
          refine z_iload_n (pc := 44) dX8_gap_44 rfl 4 rfl ?_
          refine z_iload (pc := 45) dX8_gap_45 0 rfl ?_
          refine z_callV (pc := 47) (kc := kX8_kthAt) (n := 2) (pl := 39) (ci := 7) (C := RX8) (As := [AI h, AI k]) (stk := [AI v8]) ct_X8_kthAt (gdV rfl rfl (iw46 _ (List.mem_of_getElem? (i := 14) rfl)) (iw46 _ (List.mem_of_getElem? (i := 15) rfl)) (iw46 _ (List.mem_of_getElem? (i := 16) rfl)) (iw1 _ (List.mem_of_getElem? (i := 5) rfl)) (iw46 _ (List.mem_of_getElem? (i := 17) rfl))) rfl ⟨rfl, rfl⟩ (by decide +kernel) ⟨by decide, by decide⟩ (by decide) rfl rfl dX8_gap_47 rfl rfl (Nat.le_of_ble_eq_true rfl) ?_
          refine ⟨_, _, rfl, by (try rw [(by rw [eh1]; rfl : h1 40 = hi 40)]); exact ⟨hpre.1, ⟨by omega, by omega⟩, ⟨by omega, by omega⟩⟩, fun v9 ev9 => ?_⟩
          try rw [(by rw [eh1]; rfl : h1 40 = hi 40)] at ev9
          obtain ⟨kk47, wf47, wv47⟩ := ev9
          have w47 : v9 = (ak (hi 40) h (hi 40 0).toNat) k := kth_ak n0.1 wf47 (by omega)
          refine z_isub (pc := 50) dX8_gap_50 (fun v10 ev10 => ?_)
          refine z_istore (pc := 51) (lv' := [(5, AI v10), (4, AI k), (3, AI m), (2, AI b), (0, AR 40), (1, AI h)]) dX8_gap_51 (by decide) rfl ?_
          refine z_iload (pc := 53) dX8_gap_53 0 rfl ?_
          refine z_iload_n (pc := 55) dX8_gap_55 rfl 2 rfl ?_
          refine z_icmp_le (pc := 56) (tgt := 70) dX8_gap_56 (by decide) ⟨by omega, by omega⟩ ⟨by omega, by omega⟩ (fun c11 => ?_) (fun c11 => ?_)
          · refine z_iinc (pc := 70) (j := 1) (w := fun q => (4, AI q) :: [(5, AI v10), (3, AI m), (2, AI b), (0, AR 40), (1, AI h)]) dX8_gap_70 rfl (by decide) (fun _ => rfl) (fun v12 ev12 => ?_)
            refine z_goto (pc := 73) (tgt := 22) dX8_gap_73 (by decide) ?_
            refine z_sub (lv' := [(4, AI v12), (3, AI m), (2, AI b), (0, AR 40), (1, AI h)]) [0, 2, 3, 4, 5] rfl ?_
            exact ih22 v12 b m (by omega) (gs_step i0.1 (by omega) i1 w40 w47 (by first | exact Or.inl ⟨by omega, by rw [w63, ← w47], by omega⟩ | exact Or.inr ⟨by omega, rfl, rfl⟩)) (by omega) (by omega)
          · refine z_aload_n (pc := 59) (x := 40) dX8_gap_59 rfl 4 rfl ?_
            refine z_iload_n (pc := 60) dX8_gap_60 rfl 5 rfl ?_
            refine z_iload (pc := 61) dX8_gap_61 1 rfl ?_
            refine z_callV (pc := 63) (kc := kX8_kthAt) (n := 2) (pl := 39) (ci := 7) (C := RX8) (As := [AI h, AI k]) (stk := []) ct_X8_kthAt (gdV rfl rfl (iw46 _ (List.mem_of_getElem? (i := 14) rfl)) (iw46 _ (List.mem_of_getElem? (i := 15) rfl)) (iw46 _ (List.mem_of_getElem? (i := 16) rfl)) (iw1 _ (List.mem_of_getElem? (i := 5) rfl)) (iw46 _ (List.mem_of_getElem? (i := 17) rfl))) rfl ⟨rfl, rfl⟩ (by decide +kernel) ⟨by decide, by decide⟩ (by decide) rfl rfl dX8_gap_63 rfl rfl (Nat.le_of_ble_eq_true rfl) ?_
            refine ⟨_, _, rfl, by (try rw [(by rw [eh1]; rfl : h1 40 = hi 40)]); exact ⟨hpre.1, ⟨by omega, by omega⟩, ⟨by omega, by omega⟩⟩, fun v13 ev13 => ?_⟩
            try rw [(by rw [eh1]; rfl : h1 40 = hi 40)] at ev13
            obtain ⟨kk63, wf63, wv63⟩ := ev13
            have w63 : v13 = (ak (hi 40) h (hi 40 0).toNat) k := kth_ak n0.1 wf63 (by omega)
            refine z_istore_n (pc := 66) (lv' := [(2, AI v13), (5, AI v10), (4, AI k), (3, AI m), (0, AR 40), (1, AI h)]) dX8_gap_66 rfl (by decide) rfl ?_
            refine z_iload (pc := 67) dX8_gap_67 1 rfl ?_
            refine z_istore_n (pc := 69) (lv' := [(3, AI v10), (2, AI v13), (5, AI v10), (4, AI k), (0, AR 40), (1, AI h)]) dX8_gap_69 rfl (by decide) rfl ?_
            refine z_iinc (pc := 70) (j := 3) (w := fun q => (4, AI q) :: [(3, AI v10), (2, AI v13), (5, AI v10), (0, AR 40), (1, AI h)]) dX8_gap_70 rfl (by decide) (fun _ => rfl) (fun v14 ev14 => ?_)
            refine z_goto (pc := 73) (tgt := 22) dX8_gap_73 (by decide) ?_
            refine z_sub (lv' := [(4, AI v14), (3, AI v10), (2, AI v13), (0, AR 40), (1, AI h)]) [0, 1, 2, 4, 5] rfl ?_
            exact ih22 v14 v13 v10 (by omega) (gs_step i0.1 (by omega) i1 w40 w47 (by first | exact Or.inl ⟨by omega, by rw [w63, ← w47], by omega⟩ | exact Or.inr ⟨by omega, rfl, rfl⟩)) (by omega) (by omega)
    exact J22 _ 0 (-2) 0 (by omega) (rfl) (by omega) (Nat.lt_succ_self _)
  · refine z_iconst (pc := 12) (v := (-1)) dX8_gap_12 rfl ?_
    refine z_iret (pc := 13) rfl dX8_gap_13 ?_
    exact hQ (-1) h1 ⟨frh1, ⟨z1, by first | exact Or.inl ⟨rfl, by omega⟩ | exact Or.inr ⟨by omega, by rw [← show k.toNat = (cA (hi 40) h (hi 40 0).toNat - 1).toNat by omega, ← i1]⟩⟩⟩

abbrev kX8_hoursOf : Kd := (cX8_hoursOf, .code yX8_hoursOf cX8_hoursOf 6 (some .int) :: wsL_law0, rmL 5, RX8, (some .int), 6)
theorem ct_X8_hoursOf : Ct kX8_hoursOf yX8_hoursOf (fun a hi Q => ∃ x : Int, ∃ a1 : Int, ∃ b1 : Int, a = [AR 40, AI x, AI a1, AI b1] ∧ (RI (hi 40) (hi 40 0) ∧ inR x ∧ (0 ≤ a1 ∧ a1 ≤ b1) ∧ b1 < 64) ∧ ∀ v : Int, (v = cHr (hi 40) (hi 40 0) x a1 b1) → Q (AI v) hi) := by
  refine Ct.of (ws' := _) (by decide +kernel) rfl rfl ?_
  intro a hi Q hT
  obtain ⟨x, a1, b1, rfl, hpre, hQ⟩ := hT
  refine ⟨Nat.le_of_ble_eq_true rfl, ?_⟩
  show Z kX8_hoursOf Q 0 [(0, AR 40), (1, AI x), (2, AI a1), (3, AI b1)] [] hi
  refine z_iconst (pc := 0) (v := 0) dX8_hoursOf_0 rfl ?_
  refine z_istore (pc := 1) (lv' := [(4, AI 0), (0, AR 40), (1, AI x), (2, AI a1), (3, AI b1)]) dX8_hoursOf_1 (by decide) rfl ?_
  refine z_iload_n (pc := 3) dX8_hoursOf_3 rfl 3 rfl ?_
  refine z_istore (pc := 4) (lv' := [(5, AI a1), (4, AI 0), (0, AR 40), (1, AI x), (2, AI a1), (3, AI b1)]) dX8_hoursOf_4 (by decide) rfl ?_
  have n0 := hpre.1.1
  have J6 : ∀ (N : Nat) (h acc : Int), ((0 ≤ h ∧ a1 ≤ h) ∧ h ≤ b1 + 1) → (acc = cntP (fun j => Hrs (hi 40) (hi 40 0) x (-1) (a1 + j)) (h - a1).toNat) → ((b1 + 1 - h).toNat) < N → Z kX8_hoursOf Q 6 [(5, AI h), (4, AI acc), (0, AR 40), (1, AI x), (2, AI a1), (3, AI b1)] [] hi := by
    intro N
    induction N with
    | zero => intro h acc _ _ _; exact absurd (by assumption) (Nat.not_lt_zero _)
    | succ N ih6 =>
      intro h acc i0 i1 hm6
      refine z_iload (pc := 6) dX8_hoursOf_6 0 rfl ?_
      refine z_iload_n (pc := 8) dX8_hoursOf_8 rfl 5 rfl ?_
      refine z_icmp_gt (pc := 9) (tgt := 38) dX8_hoursOf_9 (by decide) ⟨by omega, by omega⟩ ⟨by omega, by omega⟩ (fun c1 => ?_) (fun c1 => ?_)
      · refine z_iload (pc := 38) dX8_hoursOf_38 1 rfl ?_
        refine z_iret (pc := 40) rfl dX8_hoursOf_40 ?_
        exact hQ acc (by rw [i1, show h = b1 + 1 by omega]; unfold cHr; congr 1; omega)
      · refine z_iload (pc := 12) dX8_hoursOf_12 1 rfl ?_
        refine z_aload_n (pc := 14) (x := 40) dX8_hoursOf_14 rfl 2 rfl ?_
        refine z_iload_n (pc := 15) dX8_hoursOf_15 rfl 3 rfl ?_
        refine z_iload (pc := 16) dX8_hoursOf_16 0 rfl ?_
        refine z_callV (pc := 18) (kc := kX8_isAlive) (n := 2) (pl := 39) (ci := 7) (C := RX8) (As := [AI x, AI h]) (stk := [AI acc]) ct_X8_isAlive (gdV rfl rfl (iw48 _ (List.mem_of_getElem? (i := 11) rfl)) (iw48 _ (List.mem_of_getElem? (i := 12) rfl)) (iw48 _ (List.mem_of_getElem? (i := 13) rfl)) (iw1 _ (List.mem_of_getElem? (i := 5) rfl)) (iw48 _ (List.mem_of_getElem? (i := 14) rfl))) rfl ⟨rfl, rfl⟩ (by decide +kernel) ⟨by decide, by decide⟩ (by decide) rfl rfl dX8_hoursOf_18 rfl rfl (Nat.le_of_ble_eq_true rfl) ?_
        refine ⟨_, _, rfl, ⟨by omega, ⟨by omega, by omega⟩, ⟨by omega, by omega⟩⟩, fun v2 ev2 => ?_⟩
        have w18 := ev2
        refine z_if_eq (pc := 21) (tgt := 28) dX8_hoursOf_21 (by decide) ⟨by omega, by omega⟩ (fun c3 => ?_) (fun c3 => ?_)
        · refine z_iconst (pc := 28) (v := 0) dX8_hoursOf_28 rfl ?_
          refine z_iadd (pc := 29) dX8_hoursOf_29 (fun v4 ev4 => ?_)
          refine z_istore (pc := 30) (lv' := [(4, AI v4), (5, AI h), (0, AR 40), (1, AI x), (2, AI a1), (3, AI b1)]) dX8_hoursOf_30 (by decide) rfl ?_
          refine z_iinc (pc := 32) (j := 1) (w := fun q => (5, AI q) :: [(4, AI v4), (0, AR 40), (1, AI x), (2, AI a1), (3, AI b1)]) dX8_hoursOf_32 rfl (by decide) (fun _ => rfl) (fun v5 ev5 => ?_)
          refine z_goto (pc := 35) (tgt := 6) dX8_hoursOf_35 (by decide) ?_
          exact ih6 v5 v4 (by omega) (by first | exact cntP_yes (k := h - a1) (by omega) (by omega) i1 (by rw [show a1 + (h - a1) = h by omega]; exact bT w18 (by omega)) (by omega) | exact cntP_no (k := h - a1) (by omega) (by omega) i1 (by rw [show a1 + (h - a1) = h by omega]; exact bF w18 (by omega)) (by omega)) (by omega)
        · refine z_iconst (pc := 24) (v := 1) dX8_hoursOf_24 rfl ?_
          refine z_goto (pc := 25) (tgt := 29) dX8_hoursOf_25 (by decide) ?_
          refine z_iadd (pc := 29) dX8_hoursOf_29 (fun v6 ev6 => ?_)
          refine z_istore (pc := 30) (lv' := [(4, AI v6), (5, AI h), (0, AR 40), (1, AI x), (2, AI a1), (3, AI b1)]) dX8_hoursOf_30 (by decide) rfl ?_
          refine z_iinc (pc := 32) (j := 1) (w := fun q => (5, AI q) :: [(4, AI v6), (0, AR 40), (1, AI x), (2, AI a1), (3, AI b1)]) dX8_hoursOf_32 rfl (by decide) (fun _ => rfl) (fun v7 ev7 => ?_)
          refine z_goto (pc := 35) (tgt := 6) dX8_hoursOf_35 (by decide) ?_
          exact ih6 v7 v6 (by omega) (by first | exact cntP_yes (k := h - a1) (by omega) (by omega) i1 (by rw [show a1 + (h - a1) = h by omega]; exact bT w18 (by omega)) (by omega) | exact cntP_no (k := h - a1) (by omega) (by omega) i1 (by rw [show a1 + (h - a1) = h by omega]; exact bF w18 (by omega)) (by omega)) (by omega)
  exact J6 _ a1 0 (by omega) (cntP_0 (k := a1 - a1) (by omega) rfl) (Nat.lt_succ_self _)

abbrev kX8_leastOver : Kd := (cX8_leastOver, .code yX8_leastOver cX8_leastOver 8 (some .int) :: wsL_law0, rmL 6, RX8, (some .int), 8)
theorem ct_X8_leastOver : Ct kX8_leastOver yX8_leastOver (fun a hi Q => ∃ x : Int, ∃ a1 : Int, ∃ b1 : Int, ∃ y : Int, a = [AR 40, AI x, AI a1, AI b1, AI y] ∧ (RI (hi 40) (hi 40 0) ∧ inR x ∧ inR a1 ∧ inR b1 ∧ (y = 0 ∨ y = 1)) ∧ ∀ v : Int, ((v = -1 ∧ ¬ ((0 ≤ x ∧ x ≤ 999) ∧ (0 ≤ a1 ∧ a1 < 64) ∧ (0 ≤ b1 ∧ b1 < 64) ∧ a1 ≤ b1)) ∨ (((0 ≤ x ∧ x ≤ 999) ∧ (0 ≤ a1 ∧ a1 < 64) ∧ (0 ≤ b1 ∧ b1 < 64) ∧ a1 ≤ b1) ∧ ∃ k : Int, Fst (fun z => x ≤ nO (hi 40) z ∧ (y = 1 → AllH (hi 40) (hi 40 0) (nO (hi 40) z) a1 b1) ∧ (y = 0 → SomeH (hi 40) (hi 40 0) (nO (hi 40) z) a1 b1)) (hi 40 0) k ∧ ((k < 0 ∧ v = -2) ∨ (0 ≤ k ∧ v = nO (hi 40) k)))) → Q (AI v) hi) := by
  refine Ct.of (ws' := _) (by decide +kernel) rfl rfl ?_
  intro a hi Q hT
  obtain ⟨x, a1, b1, y, rfl, hpre, hQ⟩ := hT
  refine ⟨Nat.le_of_ble_eq_true rfl, ?_⟩
  show Z kX8_leastOver Q 0 [(0, AR 40), (1, AI x), (2, AI a1), (3, AI b1), (4, AI y)] [] hi
  refine z_iload_n (pc := 0) dX8_leastOver_0 rfl 1 rfl ?_
  refine z_callS (pc := 1) (kc := kX8_isNumber) (n := 1) (As := [AI x]) (stk := []) ct_X8_isNumber (gdS rfl rfl (iw9 _ (List.mem_of_getElem? (i := 5) rfl)) (iw9 _ (List.mem_of_getElem? (i := 6) rfl)) (iw1 _ (List.mem_of_getElem? (i := 5) rfl)) (iw9 _ (List.mem_of_getElem? (i := 7) rfl))) rfl ⟨rfl, rfl⟩ (by decide +kernel) ⟨by decide, by decide⟩ dX8_leastOver_1 rfl rfl (Nat.le_of_ble_eq_true rfl) ?_
  refine ⟨_, rfl, by omega, fun v1 ev1 => ?_⟩
  refine z_if_eq (pc := 4) (tgt := 26) dX8_leastOver_4 (by decide) ⟨by omega, by omega⟩ (fun c2 => ?_) (fun c2 => ?_)
  · refine z_iconst (pc := 26) (v := (-1)) dX8_leastOver_26 rfl ?_
    refine z_iret (pc := 27) rfl dX8_leastOver_27 ?_
    exact hQ (-1) (by first | exact Or.inl ⟨rfl, by omega⟩ | exact Or.inr ⟨by omega, -1, Or.inr ⟨rfl, fun z z0 z1 => i1 z z0 (by omega)⟩, by omega⟩ | exact Or.inr ⟨by omega, k, Or.inl ⟨by omega, by omega, ⟨by omega, fun _ => qa.mp (by omega), fun _ => by omega⟩, i1⟩, by omega⟩ | exact Or.inr ⟨by omega, k, Or.inl ⟨by omega, by omega, ⟨by omega, fun _ => by omega, fun _ => qs.mp (by omega)⟩, i1⟩, by omega⟩)
  · refine z_iload_n (pc := 7) dX8_leastOver_7 rfl 2 rfl ?_
    refine z_callS (pc := 8) (kc := kX8_isHour) (n := 1) (As := [AI a1]) (stk := []) ct_X8_isHour (gdS rfl rfl (iw9 _ (List.mem_of_getElem? (i := 12) rfl)) (iw9 _ (List.mem_of_getElem? (i := 13) rfl)) (iw1 _ (List.mem_of_getElem? (i := 5) rfl)) (iw9 _ (List.mem_of_getElem? (i := 14) rfl))) rfl ⟨rfl, rfl⟩ (by decide +kernel) ⟨by decide, by decide⟩ dX8_leastOver_8 rfl rfl (Nat.le_of_ble_eq_true rfl) ?_
    refine ⟨_, rfl, by omega, fun v3 ev3 => ?_⟩
    refine z_if_eq (pc := 11) (tgt := 26) dX8_leastOver_11 (by decide) ⟨by omega, by omega⟩ (fun c4 => ?_) (fun c4 => ?_)
    · refine z_iconst (pc := 26) (v := (-1)) dX8_leastOver_26 rfl ?_
      refine z_iret (pc := 27) rfl dX8_leastOver_27 ?_
      exact hQ (-1) (by first | exact Or.inl ⟨rfl, by omega⟩ | exact Or.inr ⟨by omega, -1, Or.inr ⟨rfl, fun z z0 z1 => i1 z z0 (by omega)⟩, by omega⟩ | exact Or.inr ⟨by omega, k, Or.inl ⟨by omega, by omega, ⟨by omega, fun _ => qa.mp (by omega), fun _ => by omega⟩, i1⟩, by omega⟩ | exact Or.inr ⟨by omega, k, Or.inl ⟨by omega, by omega, ⟨by omega, fun _ => by omega, fun _ => qs.mp (by omega)⟩, i1⟩, by omega⟩)
    · refine z_iload_n (pc := 14) dX8_leastOver_14 rfl 3 rfl ?_
      refine z_callS (pc := 15) (kc := kX8_isHour) (n := 1) (As := [AI b1]) (stk := []) ct_X8_isHour (gdS rfl rfl (iw9 _ (List.mem_of_getElem? (i := 12) rfl)) (iw9 _ (List.mem_of_getElem? (i := 13) rfl)) (iw1 _ (List.mem_of_getElem? (i := 5) rfl)) (iw9 _ (List.mem_of_getElem? (i := 14) rfl))) rfl ⟨rfl, rfl⟩ (by decide +kernel) ⟨by decide, by decide⟩ dX8_leastOver_15 rfl rfl (Nat.le_of_ble_eq_true rfl) ?_
      refine ⟨_, rfl, by omega, fun v5 ev5 => ?_⟩
      refine z_if_eq (pc := 18) (tgt := 26) dX8_leastOver_18 (by decide) ⟨by omega, by omega⟩ (fun c6 => ?_) (fun c6 => ?_)
      · refine z_iconst (pc := 26) (v := (-1)) dX8_leastOver_26 rfl ?_
        refine z_iret (pc := 27) rfl dX8_leastOver_27 ?_
        exact hQ (-1) (by first | exact Or.inl ⟨rfl, by omega⟩ | exact Or.inr ⟨by omega, -1, Or.inr ⟨rfl, fun z z0 z1 => i1 z z0 (by omega)⟩, by omega⟩ | exact Or.inr ⟨by omega, k, Or.inl ⟨by omega, by omega, ⟨by omega, fun _ => qa.mp (by omega), fun _ => by omega⟩, i1⟩, by omega⟩ | exact Or.inr ⟨by omega, k, Or.inl ⟨by omega, by omega, ⟨by omega, fun _ => by omega, fun _ => qs.mp (by omega)⟩, i1⟩, by omega⟩)
      · refine z_iload_n (pc := 21) dX8_leastOver_21 rfl 3 rfl ?_
        refine z_iload_n (pc := 22) dX8_leastOver_22 rfl 2 rfl ?_
        refine z_icmp_ge (pc := 23) (tgt := 28) dX8_leastOver_23 (by decide) ⟨by omega, by omega⟩ ⟨by omega, by omega⟩ (fun c7 => ?_) (fun c7 => ?_)
        · refine z_iconst (pc := 28) (v := 0) dX8_leastOver_28 rfl ?_
          refine z_istore (pc := 29) (lv' := [(5, AI 0), (0, AR 40), (1, AI x), (2, AI a1), (3, AI b1), (4, AI y)]) dX8_leastOver_29 (by decide) rfl ?_
          have n0 := hpre.1.1
          have J31 : ∀ (N : Nat) (k : Int), (0 ≤ k ∧ k ≤ hi 40 0) → (∀ z : Int, 0 ≤ z → z < k → ¬ (x ≤ nO (hi 40) z ∧ (y = 1 → AllH (hi 40) (hi 40 0) (nO (hi 40) z) a1 b1) ∧ (y = 0 → SomeH (hi 40) (hi 40 0) (nO (hi 40) z) a1 b1))) → ((hi 40 0 - k).toNat) < N → Z kX8_leastOver Q 31 [(5, AI k), (0, AR 40), (1, AI x), (2, AI a1), (3, AI b1), (4, AI y)] [] hi := by
            intro N
            induction N with
            | zero => intro k _ _ _; exact absurd (by assumption) (Nat.not_lt_zero _)
            | succ N ih31 =>
              intro k i0 i1 hm31
              refine z_iload (pc := 31) dX8_leastOver_31 0 rfl ?_
              refine z_aload_n (pc := 33) (x := 40) dX8_leastOver_33 rfl 1 rfl ?_
              refine z_getR (pc := 34) (pl := 39) (f := 1) (ci := 7) (C := RX8) (T := TX8) (N := 33) hu_X8 (by decide) rfl rfl (by decide) rfl (List.mem_cons_of_mem _ (iw5 _ (List.mem_of_getElem? (i := 5) rfl))) rfl dX8_leastOver_34 ?_
              refine z_iconst (pc := 37) (v := 0) dX8_leastOver_37 rfl ?_
              refine z_iald (pc := 38) (pl := 40) (by decide) rfl (by decide) (by decide) (by decide) (by decide) dX8_leastOver_38 (fun v8 ev8 rv8 => ?_)
              replace ev8 : v8 = hi 40 0 := ev8
              refine z_icmp_ge (pc := 39) (tgt := 103) dX8_leastOver_39 (by decide) ⟨by omega, by omega⟩ ⟨by omega, by omega⟩ (fun c9 => ?_) (fun c9 => ?_)
              · refine z_bipush (pc := 103) (v := (-2)) dX8_leastOver_103 (by decide +kernel) ?_
                refine z_iret (pc := 105) rfl dX8_leastOver_105 ?_
                exact hQ (-2) (by first | exact Or.inl ⟨rfl, by omega⟩ | exact Or.inr ⟨by omega, -1, Or.inr ⟨rfl, fun z z0 z1 => i1 z z0 (by omega)⟩, by omega⟩ | exact Or.inr ⟨by omega, k, Or.inl ⟨by omega, by omega, ⟨by omega, fun _ => qa.mp (by omega), fun _ => by omega⟩, i1⟩, by omega⟩ | exact Or.inr ⟨by omega, k, Or.inl ⟨by omega, by omega, ⟨by omega, fun _ => by omega, fun _ => qs.mp (by omega)⟩, i1⟩, by omega⟩)
              · refine z_aload_n (pc := 42) (x := 40) dX8_leastOver_42 rfl 1 rfl ?_
                refine z_iload (pc := 43) dX8_leastOver_43 0 rfl ?_
                refine z_iconst (pc := 45) (v := 0) dX8_leastOver_45 rfl ?_
                refine z_callV (pc := 46) (kc := kX8_its) (n := 2) (pl := 39) (ci := 7) (C := RX8) (As := [AI k, AI 0]) (stk := []) ct_X8_its (gdV rfl rfl (iw13 _ (List.mem_of_getElem? (i := 0) rfl)) (iw13 _ (List.mem_of_getElem? (i := 1) rfl)) (iw13 _ (List.mem_of_getElem? (i := 2) rfl)) (iw1 _ (List.mem_of_getElem? (i := 5) rfl)) (iw13 _ (List.mem_of_getElem? (i := 3) rfl))) rfl ⟨rfl, rfl⟩ (by decide +kernel) ⟨by decide, by decide⟩ (by decide) rfl rfl dX8_leastOver_46 rfl rfl (Nat.le_of_ble_eq_true rfl) ?_
                refine ⟨_, _, rfl, by omega, fun v10 ev10 => ?_⟩
                replace ev10 : v10 = nO (hi 40) k ∧ inR v10 := ev10
                have rk := hpre.1.2.1 k (by omega) (by omega)
                refine z_istore (pc := 49) (lv' := [(6, AI v10), (5, AI k), (0, AR 40), (1, AI x), (2, AI a1), (3, AI b1), (4, AI y)]) dX8_leastOver_49 (by decide) rfl ?_
                refine z_iload (pc := 51) dX8_leastOver_51 0 rfl ?_
                refine z_iload_n (pc := 53) dX8_leastOver_53 rfl 3 rfl ?_
                refine z_icmp_ge (pc := 54) (tgt := 61) dX8_leastOver_54 (by decide) ⟨by omega, by omega⟩ ⟨by omega, by omega⟩ (fun c11 => ?_) (fun c11 => ?_)
                · refine z_aload_n (pc := 61) (x := 40) dX8_leastOver_61 rfl 2 rfl ?_
                  refine z_iload (pc := 62) dX8_leastOver_62 0 rfl ?_
                  refine z_iload_n (pc := 64) dX8_leastOver_64 rfl 4 rfl ?_
                  refine z_iload_n (pc := 65) dX8_leastOver_65 rfl 5 rfl ?_
                  refine z_callV (pc := 66) (kc := kX8_hoursOf) (n := 3) (pl := 39) (ci := 7) (C := RX8) (As := [AI v10, AI a1, AI b1]) (stk := []) ct_X8_hoursOf (gdV rfl rfl (iw48 _ (List.mem_of_getElem? (i := 7) rfl)) (iw48 _ (List.mem_of_getElem? (i := 8) rfl)) (iw48 _ (List.mem_of_getElem? (i := 9) rfl)) (iw1 _ (List.mem_of_getElem? (i := 5) rfl)) (iw48 _ (List.mem_of_getElem? (i := 10) rfl))) rfl ⟨rfl, rfl⟩ (by decide +kernel) ⟨by decide, by decide⟩ (by decide) rfl rfl dX8_leastOver_66 rfl rfl (Nat.le_of_ble_eq_true rfl) ?_
                  refine ⟨_, _, _, rfl, ⟨hpre.1, ⟨by omega, by omega⟩, by omega, by omega⟩, fun v12 ev12 => ?_⟩
                  rw [show v10 = nO (hi 40) k by omega] at ev12
                  have qa := cHr_all (f := hi 40) (n := hi 40 0) (x := nO (hi 40) k) (a := a1) (b := b1) (by omega)
                  have qs := cHr_some (f := hi 40) (n := hi 40 0) (x := nO (hi 40) k) (a := a1) (b := b1) (by omega)
                  have qb := cHr_bd (f := hi 40) (n := hi 40 0) (x := nO (hi 40) k) (a := a1) (b := b1) (by omega)
                  refine z_istore (pc := 69) (lv' := [(7, AI v12), (6, AI v10), (5, AI k), (0, AR 40), (1, AI x), (2, AI a1), (3, AI b1), (4, AI y)]) dX8_leastOver_69 (by decide) rfl ?_
                  refine z_iload (pc := 71) dX8_leastOver_71 7 rfl ?_
                  refine z_if_eq (pc := 73) (tgt := 89) dX8_leastOver_73 (by decide) ⟨by omega, by omega⟩ (fun c13 => ?_) (fun c13 => ?_)
                  · refine z_iload (pc := 89) dX8_leastOver_89 0 rfl ?_
                    refine z_if_le (pc := 91) (tgt := 97) dX8_leastOver_91 (by decide) ⟨by omega, by omega⟩ (fun c14 => ?_) (fun c14 => ?_)
                    · refine z_iinc (pc := 97) (j := 2) (w := fun q => (5, AI q) :: [(7, AI v12), (6, AI v10), (0, AR 40), (1, AI x), (2, AI a1), (3, AI b1), (4, AI y)]) dX8_leastOver_97 rfl (by decide) (fun _ => rfl) (fun v15 ev15 => ?_)
                      refine z_goto (pc := 100) (tgt := 31) dX8_leastOver_100 (by decide) ?_
                      refine z_sub (lv' := [(5, AI v15), (0, AR 40), (1, AI x), (2, AI a1), (3, AI b1), (4, AI y)]) [0, 3, 4, 5, 6, 7] rfl ?_
                      exact ih31 v15 (by omega) (no_step i1 (by first | (intro q; omega) | (intro q; have := qa.mpr (q.2.1 (by omega)); omega) | (intro q; have := qs.mpr (q.2.2 (by omega)); omega)) (by omega)) (by omega)
                    · refine z_iload (pc := 94) dX8_leastOver_94 1 rfl ?_
                      refine z_iret (pc := 96) rfl dX8_leastOver_96 ?_
                      exact hQ v10 (by first | exact Or.inl ⟨rfl, by omega⟩ | exact Or.inr ⟨by omega, -1, Or.inr ⟨rfl, fun z z0 z1 => i1 z z0 (by omega)⟩, by omega⟩ | exact Or.inr ⟨by omega, k, Or.inl ⟨by omega, by omega, ⟨by omega, fun _ => qa.mp (by omega), fun _ => by omega⟩, i1⟩, by omega⟩ | exact Or.inr ⟨by omega, k, Or.inl ⟨by omega, by omega, ⟨by omega, fun _ => by omega, fun _ => qs.mp (by omega)⟩, i1⟩, by omega⟩)
                  · refine z_iload (pc := 76) dX8_leastOver_76 0 rfl ?_
                    refine z_iload_n (pc := 78) dX8_leastOver_78 rfl 6 rfl ?_
                    refine z_iload_n (pc := 79) dX8_leastOver_79 rfl 5 rfl ?_
                    refine z_isub (pc := 80) dX8_leastOver_80 (fun v16 ev16 => ?_)
                    refine z_iconst (pc := 81) (v := 1) dX8_leastOver_81 rfl ?_
                    refine z_iadd (pc := 82) dX8_leastOver_82 (fun v17 ev17 => ?_)
                    refine z_icmp_ne (pc := 83) (tgt := 97) dX8_leastOver_83 (by decide) ⟨by omega, by omega⟩ ⟨by omega, by omega⟩ (fun c18 => ?_) (fun c18 => ?_)
                    · refine z_iinc (pc := 97) (j := 2) (w := fun q => (5, AI q) :: [(7, AI v12), (6, AI v10), (0, AR 40), (1, AI x), (2, AI a1), (3, AI b1), (4, AI y)]) dX8_leastOver_97 rfl (by decide) (fun _ => rfl) (fun v19 ev19 => ?_)
                      refine z_goto (pc := 100) (tgt := 31) dX8_leastOver_100 (by decide) ?_
                      refine z_sub (lv' := [(5, AI v19), (0, AR 40), (1, AI x), (2, AI a1), (3, AI b1), (4, AI y)]) [0, 3, 4, 5, 6, 7] rfl ?_
                      exact ih31 v19 (by omega) (no_step i1 (by first | (intro q; omega) | (intro q; have := qa.mpr (q.2.1 (by omega)); omega) | (intro q; have := qs.mpr (q.2.2 (by omega)); omega)) (by omega)) (by omega)
                    · refine z_goto (pc := 86) (tgt := 94) dX8_leastOver_86 (by decide) ?_
                      refine z_iload (pc := 94) dX8_leastOver_94 1 rfl ?_
                      refine z_iret (pc := 96) rfl dX8_leastOver_96 ?_
                      exact hQ v10 (by first | exact Or.inl ⟨rfl, by omega⟩ | exact Or.inr ⟨by omega, -1, Or.inr ⟨rfl, fun z z0 z1 => i1 z z0 (by omega)⟩, by omega⟩ | exact Or.inr ⟨by omega, k, Or.inl ⟨by omega, by omega, ⟨by omega, fun _ => qa.mp (by omega), fun _ => by omega⟩, i1⟩, by omega⟩ | exact Or.inr ⟨by omega, k, Or.inl ⟨by omega, by omega, ⟨by omega, fun _ => by omega, fun _ => qs.mp (by omega)⟩, i1⟩, by omega⟩)
                · refine z_iconst (pc := 57) (v := 0) dX8_leastOver_57 rfl ?_
                  refine z_goto (pc := 58) (tgt := 69) dX8_leastOver_58 (by decide) ?_
                  refine z_istore (pc := 69) (lv' := [(7, AI 0), (6, AI v10), (5, AI k), (0, AR 40), (1, AI x), (2, AI a1), (3, AI b1), (4, AI y)]) dX8_leastOver_69 (by decide) rfl ?_
                  refine z_iload (pc := 71) dX8_leastOver_71 7 rfl ?_
                  refine z_if_eq (pc := 73) (tgt := 89) dX8_leastOver_73 (by decide) ⟨by omega, by omega⟩ (fun c20 => ?_) (fun c20 => ?_)
                  · refine z_iload (pc := 89) dX8_leastOver_89 0 rfl ?_
                    refine z_if_le (pc := 91) (tgt := 97) dX8_leastOver_91 (by decide) ⟨by decide, by decide⟩ (fun _ => ?_) (fun q => absurd q (by decide))
                    refine z_iinc (pc := 97) (j := 2) (w := fun q => (5, AI q) :: [(7, AI 0), (6, AI v10), (0, AR 40), (1, AI x), (2, AI a1), (3, AI b1), (4, AI y)]) dX8_leastOver_97 rfl (by decide) (fun _ => rfl) (fun v21 ev21 => ?_)
                    refine z_goto (pc := 100) (tgt := 31) dX8_leastOver_100 (by decide) ?_
                    refine z_sub (lv' := [(5, AI v21), (0, AR 40), (1, AI x), (2, AI a1), (3, AI b1), (4, AI y)]) [0, 3, 4, 5, 6, 7] rfl ?_
                    exact ih31 v21 (by omega) (no_step i1 (by first | (intro q; omega) | (intro q; have := qa.mpr (q.2.1 (by omega)); omega) | (intro q; have := qs.mpr (q.2.2 (by omega)); omega)) (by omega)) (by omega)
                  · refine z_iload (pc := 76) dX8_leastOver_76 0 rfl ?_
                    refine z_iload_n (pc := 78) dX8_leastOver_78 rfl 6 rfl ?_
                    refine z_iload_n (pc := 79) dX8_leastOver_79 rfl 5 rfl ?_
                    refine z_isub (pc := 80) dX8_leastOver_80 (fun v22 ev22 => ?_)
                    refine z_iconst (pc := 81) (v := 1) dX8_leastOver_81 rfl ?_
                    refine z_iadd (pc := 82) dX8_leastOver_82 (fun v23 ev23 => ?_)
                    refine z_icmp_ne (pc := 83) (tgt := 97) dX8_leastOver_83 (by decide) ⟨by decide, by decide⟩ ⟨by omega, by omega⟩ (fun c24 => ?_) (fun c24 => ?_)
                    · refine z_iinc (pc := 97) (j := 2) (w := fun q => (5, AI q) :: [(7, AI 0), (6, AI v10), (0, AR 40), (1, AI x), (2, AI a1), (3, AI b1), (4, AI y)]) dX8_leastOver_97 rfl (by decide) (fun _ => rfl) (fun v25 ev25 => ?_)
                      refine z_goto (pc := 100) (tgt := 31) dX8_leastOver_100 (by decide) ?_
                      refine z_sub (lv' := [(5, AI v25), (0, AR 40), (1, AI x), (2, AI a1), (3, AI b1), (4, AI y)]) [0, 3, 4, 5, 6, 7] rfl ?_
                      exact ih31 v25 (by omega) (no_step i1 (by first | (intro q; omega) | (intro q; have := qa.mpr (q.2.1 (by omega)); omega) | (intro q; have := qs.mpr (q.2.2 (by omega)); omega)) (by omega)) (by omega)
                    · refine z_goto (pc := 86) (tgt := 94) dX8_leastOver_86 (by decide) ?_
                      refine z_iload (pc := 94) dX8_leastOver_94 1 rfl ?_
                      refine z_iret (pc := 96) rfl dX8_leastOver_96 ?_
                      exact hQ v10 (by first | exact Or.inl ⟨rfl, by omega⟩ | exact Or.inr ⟨by omega, -1, Or.inr ⟨rfl, fun z z0 z1 => i1 z z0 (by omega)⟩, by omega⟩ | exact Or.inr ⟨by omega, k, Or.inl ⟨by omega, by omega, ⟨by omega, fun _ => qa.mp (by omega), fun _ => by omega⟩, i1⟩, by omega⟩ | exact Or.inr ⟨by omega, k, Or.inl ⟨by omega, by omega, ⟨by omega, fun _ => by omega, fun _ => qs.mp (by omega)⟩, i1⟩, by omega⟩)
          exact J31 _ 0 (by omega) (no_0 rfl) (Nat.lt_succ_self _)
        · refine z_iconst (pc := 26) (v := (-1)) dX8_leastOver_26 rfl ?_
          refine z_iret (pc := 27) rfl dX8_leastOver_27 ?_
          exact hQ (-1) (by first | exact Or.inl ⟨rfl, by omega⟩ | exact Or.inr ⟨by omega, -1, Or.inr ⟨rfl, fun z z0 z1 => i1 z z0 (by omega)⟩, by omega⟩ | exact Or.inr ⟨by omega, k, Or.inl ⟨by omega, by omega, ⟨by omega, fun _ => qa.mp (by omega), fun _ => by omega⟩, i1⟩, by omega⟩ | exact Or.inr ⟨by omega, k, Or.inl ⟨by omega, by omega, ⟨by omega, fun _ => by omega, fun _ => qs.mp (by omega)⟩, i1⟩, by omega⟩)

abbrev kX8_always : Kd := (cX8_always, .code yX8_always cX8_always 4 (some .int) :: wsL_law0, rmL 7, RX8, (some .int), 4)
theorem ct_X8_always : Ct kX8_always yX8_always (fun a hi Q => ∃ x : Int, ∃ a1 : Int, ∃ b1 : Int, a = [AR 40, AI x, AI a1, AI b1] ∧ (RI (hi 40) (hi 40 0) ∧ inR x ∧ inR a1 ∧ inR b1) ∧ ∀ (v : Int) (h2 : HI), (Fr [39] hi h2 ∧ (h2 = Z0 hi ∧ ((v = -1 ∧ ¬ ((0 ≤ x ∧ x ≤ 999) ∧ (0 ≤ a1 ∧ a1 < 64) ∧ (0 ≤ b1 ∧ b1 < 64) ∧ a1 ≤ b1)) ∨ (((0 ≤ x ∧ x ≤ 999) ∧ (0 ≤ a1 ∧ a1 < 64) ∧ (0 ≤ b1 ∧ b1 < 64) ∧ a1 ≤ b1) ∧ ∃ k : Int, Fst (fun z => x ≤ nO (hi 40) z ∧ AllH (hi 40) (hi 40 0) (nO (hi 40) z) a1 b1) (hi 40 0) k ∧ ((k < 0 ∧ v = -2) ∨ (0 ≤ k ∧ v = nO (hi 40) k)))))) → Q (AI v) h2) := by
  refine Ct.of (ws' := _) (by decide +kernel) rfl rfl ?_
  intro a hi Q hT
  obtain ⟨x, a1, b1, rfl, hpre, hQ⟩ := hT
  refine ⟨Nat.le_of_ble_eq_true rfl, ?_⟩
  show Z kX8_always Q 0 [(0, AR 40), (1, AI x), (2, AI a1), (3, AI b1)] [] hi
  refine z_aload_n (pc := 0) (x := 40) dX8_always_0 rfl 0 rfl ?_
  refine z_iconst (pc := 1) (v := 0) dX8_always_1 rfl ?_
  refine z_putI (pc := 2) (pl := 39) (f := 0) (ci := 7) (C := RX8) (T := TX8) (N := 33) hu_X8 tyX8_ok nmX8 (by decide) rfl rfl (by decide) rfl (List.mem_cons_of_mem _ (iw8 _ (List.mem_of_getElem? (i := 22) rfl))) rfl rfl (ty := .int) (by decide +kernel) rfl rfl ⟨by decide, by decide⟩ dX8_always_2 (fun h1 eh1 => ?_)
  have frh1 : Fr [39] hi h1 := (Fr.put (Fr.rf) eh1 (by decide))
  have z1 : h1 = Z0 hi := eh1
  have n0 := hpre.1.1
  have e40 : h1 40 = hi 40 := by rw [z1]; rfl
  refine z_aload_n (pc := 5) (x := 40) dX8_always_5 rfl 0 rfl ?_
  refine z_iload_n (pc := 6) dX8_always_6 rfl 1 rfl ?_
  refine z_iload_n (pc := 7) dX8_always_7 rfl 2 rfl ?_
  refine z_iload_n (pc := 8) dX8_always_8 rfl 3 rfl ?_
  refine z_iconst (pc := 9) (v := 1) dX8_always_9 rfl ?_
  refine z_callV (pc := 10) (kc := kX8_leastOver) (n := 4) (pl := 39) (ci := 7) (C := RX8) (As := [AI x, AI a1, AI b1, AI 1]) (stk := []) ct_X8_leastOver (gdV rfl rfl (iw48 _ (List.mem_of_getElem? (i := 3) rfl)) (iw48 _ (List.mem_of_getElem? (i := 4) rfl)) (iw48 _ (List.mem_of_getElem? (i := 5) rfl)) (iw1 _ (List.mem_of_getElem? (i := 5) rfl)) (iw48 _ (List.mem_of_getElem? (i := 6) rfl))) rfl ⟨rfl, rfl⟩ (by decide +kernel) ⟨by decide, by decide⟩ (by decide) rfl rfl dX8_always_10 rfl rfl (Nat.le_of_ble_eq_true rfl) ?_
  refine ⟨_, _, _, _, rfl, by rw [e40]; exact ⟨hpre.1, hpre.2.1, hpre.2.2.1, hpre.2.2.2, by decide⟩, fun v2 ev2 => ?_⟩
  try rw [(by rw [eh1]; rfl : h1 40 = hi 40)] at ev2
  have w10 := ev2
  refine z_iret (pc := 13) rfl dX8_always_13 ?_
  exact hQ v2 h1 ⟨frh1, ⟨z1, by first | exact Or.inl ⟨rfl, by omega⟩ | exact w10.imp (fun q => q) (fun ⟨q1, k, q2, q3⟩ => ⟨q1, k, q2.congr (fun z z0 z1 => ⟨fun q => ⟨q.1, q.2.1 rfl⟩, fun q => ⟨q.1, fun _ => q.2, fun c => absurd c (by decide)⟩⟩), q3⟩)⟩⟩

abbrev kX8_ever : Kd := (cX8_ever, .code yX8_ever cX8_ever 4 (some .int) :: wsL_law0, rmL 7, RX8, (some .int), 4)
theorem ct_X8_ever : Ct kX8_ever yX8_ever (fun a hi Q => ∃ x : Int, ∃ a1 : Int, ∃ b1 : Int, a = [AR 40, AI x, AI a1, AI b1] ∧ (RI (hi 40) (hi 40 0) ∧ inR x ∧ inR a1 ∧ inR b1) ∧ ∀ (v : Int) (h2 : HI), (Fr [39] hi h2 ∧ (h2 = Z0 hi ∧ ((v = -1 ∧ ¬ ((0 ≤ x ∧ x ≤ 999) ∧ (0 ≤ a1 ∧ a1 < 64) ∧ (0 ≤ b1 ∧ b1 < 64) ∧ a1 ≤ b1)) ∨ (((0 ≤ x ∧ x ≤ 999) ∧ (0 ≤ a1 ∧ a1 < 64) ∧ (0 ≤ b1 ∧ b1 < 64) ∧ a1 ≤ b1) ∧ ∃ k : Int, Fst (fun z => x ≤ nO (hi 40) z ∧ SomeH (hi 40) (hi 40 0) (nO (hi 40) z) a1 b1) (hi 40 0) k ∧ ((k < 0 ∧ v = -2) ∨ (0 ≤ k ∧ v = nO (hi 40) k)))))) → Q (AI v) h2) := by
  refine Ct.of (ws' := _) (by decide +kernel) rfl rfl ?_
  intro a hi Q hT
  obtain ⟨x, a1, b1, rfl, hpre, hQ⟩ := hT
  refine ⟨Nat.le_of_ble_eq_true rfl, ?_⟩
  show Z kX8_ever Q 0 [(0, AR 40), (1, AI x), (2, AI a1), (3, AI b1)] [] hi
  refine z_aload_n (pc := 0) (x := 40) dX8_ever_0 rfl 0 rfl ?_
  refine z_iconst (pc := 1) (v := 0) dX8_ever_1 rfl ?_
  refine z_putI (pc := 2) (pl := 39) (f := 0) (ci := 7) (C := RX8) (T := TX8) (N := 33) hu_X8 tyX8_ok nmX8 (by decide) rfl rfl (by decide) rfl (List.mem_cons_of_mem _ (iw8 _ (List.mem_of_getElem? (i := 22) rfl))) rfl rfl (ty := .int) (by decide +kernel) rfl rfl ⟨by decide, by decide⟩ dX8_ever_2 (fun h1 eh1 => ?_)
  have frh1 : Fr [39] hi h1 := (Fr.put (Fr.rf) eh1 (by decide))
  have z1 : h1 = Z0 hi := eh1
  have n0 := hpre.1.1
  have e40 : h1 40 = hi 40 := by rw [z1]; rfl
  refine z_aload_n (pc := 5) (x := 40) dX8_ever_5 rfl 0 rfl ?_
  refine z_iload_n (pc := 6) dX8_ever_6 rfl 1 rfl ?_
  refine z_iload_n (pc := 7) dX8_ever_7 rfl 2 rfl ?_
  refine z_iload_n (pc := 8) dX8_ever_8 rfl 3 rfl ?_
  refine z_iconst (pc := 9) (v := 0) dX8_ever_9 rfl ?_
  refine z_callV (pc := 10) (kc := kX8_leastOver) (n := 4) (pl := 39) (ci := 7) (C := RX8) (As := [AI x, AI a1, AI b1, AI 0]) (stk := []) ct_X8_leastOver (gdV rfl rfl (iw48 _ (List.mem_of_getElem? (i := 3) rfl)) (iw48 _ (List.mem_of_getElem? (i := 4) rfl)) (iw48 _ (List.mem_of_getElem? (i := 5) rfl)) (iw1 _ (List.mem_of_getElem? (i := 5) rfl)) (iw48 _ (List.mem_of_getElem? (i := 6) rfl))) rfl ⟨rfl, rfl⟩ (by decide +kernel) ⟨by decide, by decide⟩ (by decide) rfl rfl dX8_ever_10 rfl rfl (Nat.le_of_ble_eq_true rfl) ?_
  refine ⟨_, _, _, _, rfl, by rw [e40]; exact ⟨hpre.1, hpre.2.1, hpre.2.2.1, hpre.2.2.2, by decide⟩, fun v2 ev2 => ?_⟩
  try rw [(by rw [eh1]; rfl : h1 40 = hi 40)] at ev2
  have w10 := ev2
  refine z_iret (pc := 13) rfl dX8_ever_13 ?_
  exact hQ v2 h1 ⟨frh1, ⟨z1, by first | exact Or.inl ⟨rfl, by omega⟩ | exact w10.imp (fun q => q) (fun ⟨q1, k, q2, q3⟩ => ⟨q1, k, q2.congr (fun z z0 z1 => ⟨fun q => ⟨q.1, q.2.2 rfl⟩, fun q => ⟨q.1, fun c => absurd c (by decide), fun _ => q.2⟩⟩), q3⟩)⟩⟩
