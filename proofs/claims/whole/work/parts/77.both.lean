theorem cntP_cong {P Q : Int → Prop} : ∀ {n : Nat}, (∀ h : Int, 0 ≤ h → h < n → (P h ↔ Q h)) → cntP P n = cntP Q n
  | 0, _ => rfl
  | n + 1, h => by
    have ih := cntP_cong (P := P) (Q := Q) (n := n) (fun z z0 z1 => h z z0 (by omega))
    have e := h n (by omega) (by omega)
    show cntP P n + @ite Int (P n) (Classical.propDecidable _) 1 0 = cntP Q n + @ite Int (Q n) (Classical.propDecidable _) 1 0
    rw [ih]
    by_cases q : P n
    · rw [if_pos q, if_pos (e.mp q)]
    · rw [if_neg q, if_neg (fun z => q (e.mpr z))]

abbrev kJ13_bitCount_95d88 : Kd := (cJ13_bitCount_95d88, .code yJ13_bitCount_95d88 cJ13_bitCount_95d88 2 (some .int) :: wsL_law0, rmL 1, RJ13, (some .int), 2)
theorem ct_J13_bitCount_95d88 : Ct kJ13_bitCount_95d88 yJ13_bitCount_95d88 (fun a hi Q => ∃ x : Int, a = [AL x] ∧ (True) ∧ ∀ v : Int, (v = cntP (fun h => bit x h) 64) → Q (AI v) hi) := by
  refine Ct.of (ws' := _) (by decide +kernel) rfl rfl ?_
  intro a hi Q hT
  obtain ⟨x, rfl, hpre, hQ⟩ := hT
  refine ⟨Nat.le_of_ble_eq_true rfl, ?_⟩
  show Z kJ13_bitCount_95d88 Q 0 [(0, AL x)] [] hi
  obtain ⟨n, hn, lx⟩ := wb_of (iL x)
  have lm5 : iL 6148914691236517205 = lN (rpM 85 8) := by decide +kernel
  have lm3 : iL 3689348814741910323 = lN (rpM 51 8) := by decide +kernel
  have lm0 : iL 1085102592571150095 = lN (rpM 15 8) := by decide +kernel
  have hh : ∀ k, n / k < 2 ^ 64 := fun k => Nat.lt_of_le_of_lt (Nat.div_le_self _ _) hn
  have b8 : G1 8 n < 2 ^ 64 := Nat.lt_of_le_of_lt (Nat.sub_le _ _) hn
  have c22 : G2 8 (G1 8 n) ≤ 7378697629483820646 := Nat.le_trans (Nat.add_le_add Nat.and_le_right Nat.and_le_right) (by decide)
  have c32 : G3 8 (G2 8 (G1 8 n)) ≤ 1085102592571150095 := Nat.le_trans Nat.and_le_right (by decide)
  refine z_lload_n (pc := 0) dJ13_bitCount_95d88_0 rfl 0 rfl ?_
  refine z_lload_n (pc := 1) dJ13_bitCount_95d88_1 rfl 0 rfl ?_
  refine z_iconst (pc := 2) (v := 1) dJ13_bitCount_95d88_2 rfl ?_
  refine z_lushr (pc := 3) dJ13_bitCount_95d88_3 (fun v1 ev1 => ?_)
  have bv1 := toL_inL ev1
  have l3 : iL v1 = lN (n / 2) := lsh 1 lx hn (by decide) rfl ev1
  refine z_ldc2 (pc := 4) (v := 6148914691236517205) (x := 6148914691236517205) (List.mem_cons_of_mem _ (iw49 _ (List.mem_of_getElem? (i := 7) rfl))) (by decide +kernel) dJ13_bitCount_95d88_4 ?_
  refine z_land (pc := 7) dJ13_bitCount_95d88_7 (fun v2 ev2 => ?_)
  have bv2 := toL_inL ev2
  have l7 : iL v2 = lN (n / 2 &&& rpM 85 8) := lnd l3 lm5 (hh 2) (by decide) ev2
  refine z_lsub (pc := 8) dJ13_bitCount_95d88_8 (fun v3 ev3 => ?_)
  have l8 : iL v3 = lN (G1 8 n) := lsb lx l7 (Nat.le_trans Nat.and_le_left (Nat.div_le_self _ _)) ev3
  refine z_lstore_n (pc := 9) (lv' := [(0, AL v3)]) dJ13_bitCount_95d88_9 rfl (by decide) rfl ?_
  refine z_lload_n (pc := 10) dJ13_bitCount_95d88_10 rfl 0 rfl ?_
  refine z_ldc2 (pc := 11) (v := 3689348814741910323) (x := 3689348814741910323) (List.mem_cons_of_mem _ (iw49 _ (List.mem_of_getElem? (i := 8) rfl))) (by decide +kernel) dJ13_bitCount_95d88_11 ?_
  refine z_land (pc := 14) dJ13_bitCount_95d88_14 (fun v4 ev4 => ?_)
  have bv4 := toL_inL ev4
  have l14 : iL v4 = lN (G1 8 n &&& rpM 51 8) := lnd l8 lm3 b8 (by decide) ev4
  refine z_lload_n (pc := 15) dJ13_bitCount_95d88_15 rfl 0 rfl ?_
  refine z_iconst (pc := 16) (v := 2) dJ13_bitCount_95d88_16 rfl ?_
  refine z_lushr (pc := 17) dJ13_bitCount_95d88_17 (fun v5 ev5 => ?_)
  have bv5 := toL_inL ev5
  have l17 : iL v5 = lN (G1 8 n / 4) := lsh 2 l8 b8 (by decide) rfl ev5
  refine z_ldc2 (pc := 18) (v := 3689348814741910323) (x := 3689348814741910323) (List.mem_cons_of_mem _ (iw49 _ (List.mem_of_getElem? (i := 8) rfl))) (by decide +kernel) dJ13_bitCount_95d88_18 ?_
  refine z_land (pc := 21) dJ13_bitCount_95d88_21 (fun v6 ev6 => ?_)
  have bv6 := toL_inL ev6
  have l21 : iL v6 = lN (G1 8 n / 4 &&& rpM 51 8) := lnd l17 lm3 (Nat.lt_of_le_of_lt (Nat.div_le_self _ _) b8) (by decide) ev6
  refine z_ladd (pc := 22) dJ13_bitCount_95d88_22 (fun v7 ev7 => ?_)
  have l22 : iL v7 = lN (G2 8 (G1 8 n)) := lad l14 l21 ev7
  obtain ⟨y, hy⟩ : ∃ y, y = G2 8 (G1 8 n) := ⟨_, rfl⟩
  rw [← hy] at l22 c22
  refine z_lstore_n (pc := 23) (lv' := [(0, AL v7)]) dJ13_bitCount_95d88_23 rfl (by decide) rfl ?_
  refine z_lload_n (pc := 24) dJ13_bitCount_95d88_24 rfl 0 rfl ?_
  refine z_lload_n (pc := 25) dJ13_bitCount_95d88_25 rfl 0 rfl ?_
  refine z_iconst (pc := 26) (v := 4) dJ13_bitCount_95d88_26 rfl ?_
  refine z_lushr (pc := 27) dJ13_bitCount_95d88_27 (fun v8 ev8 => ?_)
  have bv8 := toL_inL ev8
  have l27 : iL v8 = lN (y / 16) := lsh 4 l22 (Nat.lt_of_le_of_lt c22 (by decide)) (by decide) rfl ev8
  refine z_ladd (pc := 28) dJ13_bitCount_95d88_28 (fun v9 ev9 => ?_)
  have l28 : iL v9 = lN (y + y / 16) := lad l22 l27 ev9
  refine z_ldc2 (pc := 29) (v := 1085102592571150095) (x := 1085102592571150095) (List.mem_cons_of_mem _ (iw49 _ (List.mem_of_getElem? (i := 9) rfl))) (by decide +kernel) dJ13_bitCount_95d88_29 ?_
  refine z_land (pc := 32) dJ13_bitCount_95d88_32 (fun v10 ev10 => ?_)
  have bv10 := toL_inL ev10
  have l32 : iL v10 = lN (G3 8 y) := lnd l28 lm0 (by clear hh; omega) (by decide) ev10
  rw [hy] at l32
  obtain ⟨s, hs⟩ : ∃ s, s = G3 8 (G2 8 (G1 8 n)) := ⟨_, rfl⟩
  rw [← hs] at l32 c32
  clear hh
  refine z_lstore_n (pc := 33) (lv' := [(0, AL v10)]) dJ13_bitCount_95d88_33 rfl (by decide) rfl ?_
  refine z_lload_n (pc := 34) dJ13_bitCount_95d88_34 rfl 0 rfl ?_
  refine z_lload_n (pc := 35) dJ13_bitCount_95d88_35 rfl 0 rfl ?_
  refine z_bipush (pc := 36) (v := 8) dJ13_bitCount_95d88_36 (by decide +kernel) ?_
  refine z_lushr (pc := 38) dJ13_bitCount_95d88_38 (fun v11 ev11 => ?_)
  have bv11 := toL_inL ev11
  have l38 : iL v11 = lN (s / 256) := lsh 8 l32 (by omega) (by decide) rfl ev11
  refine z_ladd (pc := 39) dJ13_bitCount_95d88_39 (fun v12 ev12 => ?_)
  have l39 : iL v12 = lN (s + s / 256) := lad l32 l38 ev12
  obtain ⟨x4, h4⟩ : ∃ x4, x4 = s + s / 256 := ⟨_, rfl⟩
  rw [← h4] at l39
  refine z_lstore_n (pc := 40) (lv' := [(0, AL v12)]) dJ13_bitCount_95d88_40 rfl (by decide) rfl ?_
  refine z_lload_n (pc := 41) dJ13_bitCount_95d88_41 rfl 0 rfl ?_
  refine z_lload_n (pc := 42) dJ13_bitCount_95d88_42 rfl 0 rfl ?_
  refine z_bipush (pc := 43) (v := 16) dJ13_bitCount_95d88_43 (by decide +kernel) ?_
  refine z_lushr (pc := 45) dJ13_bitCount_95d88_45 (fun v13 ev13 => ?_)
  have bv13 := toL_inL ev13
  have l45 : iL v13 = lN (x4 / 65536) := lsh 16 l39 (by omega) (by decide) rfl ev13
  refine z_ladd (pc := 46) dJ13_bitCount_95d88_46 (fun v14 ev14 => ?_)
  have l46 : iL v14 = lN (x4 + x4 / 65536) := lad l39 l45 ev14
  obtain ⟨x5, h5⟩ : ∃ x5, x5 = x4 + x4 / 65536 := ⟨_, rfl⟩
  rw [← h5] at l46
  refine z_lstore_n (pc := 47) (lv' := [(0, AL v14)]) dJ13_bitCount_95d88_47 rfl (by decide) rfl ?_
  refine z_lload_n (pc := 48) dJ13_bitCount_95d88_48 rfl 0 rfl ?_
  refine z_lload_n (pc := 49) dJ13_bitCount_95d88_49 rfl 0 rfl ?_
  refine z_bipush (pc := 50) (v := 32) dJ13_bitCount_95d88_50 (by decide +kernel) ?_
  refine z_lushr (pc := 52) dJ13_bitCount_95d88_52 (fun v15 ev15 => ?_)
  have bv15 := toL_inL ev15
  have l52 : iL v15 = lN (x5 / 4294967296) := lsh 32 l46 (by omega) (by decide) rfl ev15
  refine z_ladd (pc := 53) dJ13_bitCount_95d88_53 (fun v16 ev16 => ?_)
  have l53 : iL v16 = lN (x5 + x5 / 4294967296) := lad l46 l52 ev16
  obtain ⟨x6, h6⟩ : ∃ x6, x6 = x5 + x5 / 4294967296 := ⟨_, rfl⟩
  rw [← h6] at l53
  refine z_lstore_n (pc := 54) (lv' := [(0, AL v16)]) dJ13_bitCount_95d88_54 rfl (by decide) rfl ?_
  refine z_lload_n (pc := 55) dJ13_bitCount_95d88_55 rfl 0 rfl ?_
  refine z_l2i (pc := 56) dJ13_bitCount_95d88_56 (fun v17 ev17 => ?_)
  have bv17 := toI_inR ev17
  have w56 := ev17
  refine z_bipush (pc := 57) (v := 127) dJ13_bitCount_95d88_57 (by decide +kernel) ?_
  refine z_iand (pc := 59) dJ13_bitCount_95d88_59 (fun v18 ev18 => ?_)
  have bv18 := toI_inR ev18
  have w59 := l2i127 l53 w56 rfl ev18
  refine z_iret (pc := 60) rfl dJ13_bitCount_95d88_60 ?_
  exact hQ v18 (by rw [cnt_64 lx hn, ← pop_64 hn (by rw [h4, hs]) h5 h6]; exact w59)

abbrev kX7_both : Kd := (cX7_both, .code yX7_both cX7_both 3 (some .int) :: wsL_law0, rmL 3, RX7, (some .int), 3)
theorem ct_X7_both : Ct kX7_both yX7_both (fun a hi Q => ∃ x : Int, ∃ y : Int, a = [AR 1, AI x, AI y] ∧ (RI (hi 2) (hi 2 1) ∧ inR x ∧ inR y) ∧ ∀ v : Int, ((v = -1 ∧ ¬ ((0 ≤ x ∧ x ≤ 999) ∧ (0 ≤ y ∧ y ≤ 999))) ∨ (((0 ≤ x ∧ x ≤ 999) ∧ (0 ≤ y ∧ y ≤ 999)) ∧ v = cntP (fun h => Hrs (hi 2) (hi 2 1) x (-1) h ∧ Hrs (hi 2) (hi 2 1) y (-1) h) 64)) → Q (AI v) hi) := by
  refine Ct.of (ws' := _) (by decide +kernel) rfl rfl ?_
  intro a hi Q hT
  obtain ⟨x, y, rfl, hpre, hQ⟩ := hT
  refine ⟨Nat.le_of_ble_eq_true rfl, ?_⟩
  show Z kX7_both Q 0 [(0, AR 1), (1, AI x), (2, AI y)] [] hi
  refine z_iload_n (pc := 0) dX7_both_0 rfl 1 rfl ?_
  refine z_callS (pc := 1) (kc := kX7_isNumber) (n := 1) (As := [AI x]) (stk := []) ct_X7_isNumber (gdS rfl rfl (iw6 _ (List.mem_of_getElem? (i := 4) rfl)) (iw6 _ (List.mem_of_getElem? (i := 5) rfl)) (iw1 _ (List.mem_of_getElem? (i := 2) rfl)) (iw6 _ (List.mem_of_getElem? (i := 6) rfl))) rfl ⟨rfl, rfl⟩ (by decide +kernel) ⟨by decide, by decide⟩ dX7_both_1 rfl rfl (Nat.le_of_ble_eq_true rfl) ?_
  refine ⟨_, rfl, by omega, fun v1 ev1 => ?_⟩
  refine z_if_eq (pc := 4) (tgt := 14) dX7_both_4 (by decide) ⟨by omega, by omega⟩ (fun c2 => ?_) (fun c2 => ?_)
  · refine z_iconst (pc := 14) (v := (-1)) dX7_both_14 rfl ?_
    refine z_iret (pc := 15) rfl dX7_both_15 ?_
    exact hQ (-1) (by first | exact Or.inl ⟨rfl, by omega⟩ | exact Or.inr ⟨by omega, w35.trans (cntP_cong (fun h h0 h1 => (w34 h).trans (and_congr (w22 h h0 (by omega)) (w31 h h0 (by omega)))))⟩)
  · refine z_iload_n (pc := 7) dX7_both_7 rfl 2 rfl ?_
    refine z_callS (pc := 8) (kc := kX7_isNumber) (n := 1) (As := [AI y]) (stk := []) ct_X7_isNumber (gdS rfl rfl (iw6 _ (List.mem_of_getElem? (i := 4) rfl)) (iw6 _ (List.mem_of_getElem? (i := 5) rfl)) (iw1 _ (List.mem_of_getElem? (i := 2) rfl)) (iw6 _ (List.mem_of_getElem? (i := 6) rfl))) rfl ⟨rfl, rfl⟩ (by decide +kernel) ⟨by decide, by decide⟩ dX7_both_8 rfl rfl (Nat.le_of_ble_eq_true rfl) ?_
    refine ⟨_, rfl, by omega, fun v3 ev3 => ?_⟩
    refine z_if_ne (pc := 11) (tgt := 16) dX7_both_11 (by decide) ⟨by omega, by omega⟩ (fun c4 => ?_) (fun c4 => ?_)
    · refine z_aload_n (pc := 16) (x := 1) dX7_both_16 rfl 0 rfl ?_
      refine z_getR (pc := 17) (pl := 0) (f := 0) (ci := 6) (C := RX7) (T := TX7) (N := 13) hu_X7 (by decide) rfl rfl (by decide) rfl (List.mem_cons_of_mem _ (iw1 _ (List.mem_of_getElem? (i := 16) rfl))) rfl dX7_both_17 ?_
      refine z_iload_n (pc := 20) dX7_both_20 rfl 1 rfl ?_
      refine z_iconst (pc := 21) (v := (-1)) dX7_both_21 rfl ?_
      refine z_callV (pc := 22) (kc := kX1_hoursOf) (n := 2) (pl := 1) (ci := 1) (C := RX1) (As := [AI x, AI (-1)]) (stk := []) ct_X1_hoursOf (gdV rfl rfl (iw6 _ (List.mem_of_getElem? (i := 21) rfl)) (iw6 _ (List.mem_of_getElem? (i := 22) rfl)) (iw6 _ (List.mem_of_getElem? (i := 23) rfl)) (iw1 _ (List.mem_of_getElem? (i := 15) rfl)) (iw7 _ (List.mem_of_getElem? (i := 0) rfl))) rfl ⟨rfl, rfl⟩ (by decide +kernel) ⟨by decide, by decide⟩ (by decide) rfl rfl dX7_both_22 rfl rfl (Nat.le_of_ble_eq_true rfl) ?_
      refine ⟨_, _, rfl, ⟨hpre.1, by omega, by decide⟩, fun v5 ev5 => ?_⟩
      have w22 := ev5.2
      refine z_aload_n (pc := 25) (x := 1) dX7_both_25 rfl 0 rfl ?_
      refine z_getR (pc := 26) (pl := 0) (f := 0) (ci := 6) (C := RX7) (T := TX7) (N := 13) hu_X7 (by decide) rfl rfl (by decide) rfl (List.mem_cons_of_mem _ (iw1 _ (List.mem_of_getElem? (i := 16) rfl))) rfl dX7_both_26 ?_
      refine z_iload_n (pc := 29) dX7_both_29 rfl 2 rfl ?_
      refine z_iconst (pc := 30) (v := (-1)) dX7_both_30 rfl ?_
      refine z_callV (pc := 31) (kc := kX1_hoursOf) (n := 2) (pl := 1) (ci := 1) (C := RX1) (As := [AI y, AI (-1)]) (stk := [AL v5]) ct_X1_hoursOf (gdV rfl rfl (iw6 _ (List.mem_of_getElem? (i := 21) rfl)) (iw6 _ (List.mem_of_getElem? (i := 22) rfl)) (iw6 _ (List.mem_of_getElem? (i := 23) rfl)) (iw1 _ (List.mem_of_getElem? (i := 15) rfl)) (iw7 _ (List.mem_of_getElem? (i := 0) rfl))) rfl ⟨rfl, rfl⟩ (by decide +kernel) ⟨by decide, by decide⟩ (by decide) rfl rfl dX7_both_31 rfl rfl (Nat.le_of_ble_eq_true rfl) ?_
      refine ⟨_, _, rfl, ⟨hpre.1, by omega, by decide⟩, fun v6 ev6 => ?_⟩
      have w31 := ev6.2
      refine z_land (pc := 34) dX7_both_34 (fun v7 ev7 => ?_)
      have bv7 := toL_inL ev7
      have w34 := fun h => bit_and (h := h) ev7
      refine z_callS (pc := 35) (kc := kJ13_bitCount_95d88) (n := 1) (As := [AL v7]) (stk := []) ct_J13_bitCount_95d88 (gdS rfl rfl (iw49 _ (List.mem_of_getElem? (i := 3) rfl)) (iw49 _ (List.mem_of_getElem? (i := 4) rfl)) (iw49 _ (List.mem_of_getElem? (i := 5) rfl)) (iw49 _ (List.mem_of_getElem? (i := 6) rfl))) rfl ⟨rfl, rfl⟩ (by decide +kernel) ⟨by decide, by decide⟩ dX7_both_35 rfl rfl (Nat.le_of_ble_eq_true rfl) ?_
      refine ⟨_, rfl, trivial, fun v8 ev8 => ?_⟩
      have w35 := ev8
      refine z_iret (pc := 38) rfl dX7_both_38 ?_
      exact hQ v8 (by first | exact Or.inl ⟨rfl, by omega⟩ | exact Or.inr ⟨by omega, w35.trans (cntP_cong (fun h h0 h1 => (w34 h).trans (and_congr (w22 h h0 (by omega)) (w31 h h0 (by omega)))))⟩)
    · refine z_iconst (pc := 14) (v := (-1)) dX7_both_14 rfl ?_
      refine z_iret (pc := 15) rfl dX7_both_15 ?_
      exact hQ (-1) (by first | exact Or.inl ⟨rfl, by omega⟩ | exact Or.inr ⟨by omega, w35.trans (cntP_cong (fun h h0 h1 => (w34 h).trans (and_congr (w22 h h0 (by omega)) (w31 h h0 (by omega)))))⟩)
