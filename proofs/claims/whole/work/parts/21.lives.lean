abbrev kX1_lockHour : Kd := (cX1_lockHour, .code yX1_lockHour cX1_lockHour 1 (some .int) :: wsL_law0, rmL 1, RX1, (some .int), 1)
theorem ct_X1_lockHour : Ct kX1_lockHour yX1_lockHour (fun a hi Q => a = [AR 2] ∧ (True) ∧ ∀ v : Int, (v = hi 2 0 ∧ inR v) → Q (AI v) hi) := by
  refine Ct.of (ws' := _) (by decide +kernel) rfl rfl ?_
  intro a hi Q hT
  obtain ⟨rfl, hpre, hQ⟩ := hT
  refine ⟨Nat.le_of_ble_eq_true rfl, ?_⟩
  show Z kX1_lockHour Q 0 [(0, AR 2)] [] hi
  refine z_aload_n (pc := 0) (x := 2) dX1_lockHour_0 rfl 0 rfl ?_
  refine z_getR (pc := 1) (pl := 1) (f := 0) (ci := 1) (C := RX1) (T := TX1) (N := 1) hu_X1 (by decide) rfl rfl (by decide) rfl (List.mem_cons_of_mem _ (iw3 _ (List.mem_of_getElem? (i := 2) rfl))) rfl dX1_lockHour_1 ?_
  refine z_iconst (pc := 4) (v := 0) dX1_lockHour_4 rfl ?_
  refine z_iald (pc := 5) (pl := 2) (by decide) rfl (by decide) (by decide) (by decide) (by decide) dX1_lockHour_5 (fun v1 ev1 rv1 => ?_)
  refine z_iret (pc := 6) rfl dX1_lockHour_6 ?_
  exact hQ v1 (⟨ev1, rv1⟩)

abbrev kX1_size : Kd := (cX1_size, .code yX1_size cX1_size 1 (some .int) :: wsL_law0, rmL 1, RX1, (some .int), 1)
theorem ct_X1_size : Ct kX1_size yX1_size (fun a hi Q => a = [AR 2] ∧ (True) ∧ ∀ v : Int, (v = hi 2 1 ∧ inR v) → Q (AI v) hi) := by
  refine Ct.of (ws' := _) (by decide +kernel) rfl rfl ?_
  intro a hi Q hT
  obtain ⟨rfl, hpre, hQ⟩ := hT
  refine ⟨Nat.le_of_ble_eq_true rfl, ?_⟩
  show Z kX1_size Q 0 [(0, AR 2)] [] hi
  refine z_aload_n (pc := 0) (x := 2) dX1_size_0 rfl 0 rfl ?_
  refine z_getR (pc := 1) (pl := 1) (f := 0) (ci := 1) (C := RX1) (T := TX1) (N := 1) hu_X1 (by decide) rfl rfl (by decide) rfl (List.mem_cons_of_mem _ (iw3 _ (List.mem_of_getElem? (i := 2) rfl))) rfl dX1_size_1 ?_
  refine z_iconst (pc := 4) (v := 1) dX1_size_4 rfl ?_
  refine z_iald (pc := 5) (pl := 2) (by decide) rfl (by decide) (by decide) (by decide) (by decide) dX1_size_5 (fun v1 ev1 rv1 => ?_)
  refine z_iret (pc := 6) rfl dX1_size_6 ?_
  exact hQ v1 (⟨ev1, rv1⟩)

abbrev kX1_setLock : Kd := (cX1_setLock, .code yX1_setLock cX1_setLock 2 none :: wsL_law0, rmL 1, RX1, none, 2)
theorem ct_X1_setLock : Ct kX1_setLock yX1_setLock (fun a hi Q => ∃ x : Int, a = [AR 2, AI x] ∧ (inR x) ∧ ∀ h2 : HI, (Fr [2] hi h2 ∧ (h2 = hput hi 2 (updI (hi 2) 0 x))) → Q AU h2) := by
  refine Ct.of (ws' := _) (by decide +kernel) rfl rfl ?_
  intro a hi Q hT
  obtain ⟨x, rfl, hpre, hQ⟩ := hT
  refine ⟨Nat.le_of_ble_eq_true rfl, ?_⟩
  show Z kX1_setLock Q 0 [(0, AR 2), (1, AI x)] [] hi
  refine z_aload_n (pc := 0) (x := 2) dX1_setLock_0 rfl 0 rfl ?_
  refine z_getR (pc := 1) (pl := 1) (f := 0) (ci := 1) (C := RX1) (T := TX1) (N := 1) hu_X1 (by decide) rfl rfl (by decide) rfl (List.mem_cons_of_mem _ (iw3 _ (List.mem_of_getElem? (i := 2) rfl))) rfl dX1_setLock_1 ?_
  refine z_iconst (pc := 4) (v := 0) dX1_setLock_4 rfl ?_
  refine z_iload_n (pc := 5) dX1_setLock_5 rfl 1 rfl ?_
  refine z_iast (pc := 6) (pl := 2) (by decide) rfl (by decide) (by decide) (by decide) ⟨by omega, by omega⟩ dX1_setLock_6 (fun h1 eh1 => ?_)
  have frh1 : Fr [2] hi h1 := (Fr.put (Fr.rf) eh1 (by decide))
  refine z_vret (pc := 7) rfl dX1_setLock_7 ?_
  exact hQ h1 ⟨frh1, by assumption⟩

abbrev kX1_numberOf : Kd := (cX1_numberOf, .code yX1_numberOf cX1_numberOf 2 (some .int) :: wsL_law0, rmL 1, RX1, (some .int), 2)
theorem ct_X1_numberOf : Ct kX1_numberOf yX1_numberOf (fun a hi Q => ∃ k : Int, a = [AR 2, AI k] ∧ (0 ≤ k ∧ k < 40) ∧ ∀ v : Int, (v = nO (hi 2) k ∧ inR v) → Q (AI v) hi) := by
  refine Ct.of (ws' := _) (by decide +kernel) rfl rfl ?_
  intro a hi Q hT
  obtain ⟨k, rfl, hpre, hQ⟩ := hT
  refine ⟨Nat.le_of_ble_eq_true rfl, ?_⟩
  show Z kX1_numberOf Q 0 [(0, AR 2), (1, AI k)] [] hi
  refine z_iload_n (pc := 0) dX1_numberOf_0 rfl 1 rfl ?_
  refine z_if_lt (pc := 1) (tgt := 23) dX1_numberOf_1 (by decide) ⟨by omega, by omega⟩ (fun c1 => ?_) (fun c1 => ?_)
  · refine z_iconst (pc := 23) (v := 0) dX1_numberOf_23 rfl ?_
    refine z_iret (pc := 24) rfl dX1_numberOf_24 ?_
    exact hQ 0 (by first | omega | exact ⟨by rw [e0]; exact nO_i (by omega) (by omega), r0⟩)
  · refine z_iload_n (pc := 4) dX1_numberOf_4 rfl 1 rfl ?_
    refine z_bipush (pc := 5) (v := 40) dX1_numberOf_5 (by decide +kernel) ?_
    refine z_icmp_ge (pc := 7) (tgt := 23) dX1_numberOf_7 (by decide) ⟨by omega, by omega⟩ ⟨by decide, by decide⟩ (fun c2 => ?_) (fun c2 => ?_)
    · refine z_iconst (pc := 23) (v := 0) dX1_numberOf_23 rfl ?_
      refine z_iret (pc := 24) rfl dX1_numberOf_24 ?_
      exact hQ 0 (by first | omega | exact ⟨by rw [e0]; exact nO_i (by omega) (by omega), r0⟩)
    · refine z_aload_n (pc := 10) (x := 2) dX1_numberOf_10 rfl 0 rfl ?_
      refine z_getR (pc := 11) (pl := 1) (f := 0) (ci := 1) (C := RX1) (T := TX1) (N := 1) hu_X1 (by decide) rfl rfl (by decide) rfl (List.mem_cons_of_mem _ (iw3 _ (List.mem_of_getElem? (i := 2) rfl))) rfl dX1_numberOf_11 ?_
      refine z_iconst (pc := 14) (v := 2) dX1_numberOf_14 rfl ?_
      refine z_iconst (pc := 15) (v := 4) dX1_numberOf_15 rfl ?_
      refine z_iload_n (pc := 16) dX1_numberOf_16 rfl 1 rfl ?_
      refine z_imul (pc := 17) dX1_numberOf_17 (fun v3 ev3 => ?_)
      refine z_iadd (pc := 18) dX1_numberOf_18 (fun v4 ev4 => ?_)
      refine z_iald (pc := 19) (pl := 2) (by decide) rfl (by decide) (by decide) (by omega) (by omega) dX1_numberOf_19 (fun v5 ev5 rv5 => ?_)
      refine z_goto (pc := 20) (tgt := 24) dX1_numberOf_20 (by decide) ?_
      refine z_iret (pc := 24) rfl dX1_numberOf_24 ?_
      exact hQ v5 (by first | omega | exact ⟨by rw [ev5]; exact nO_i (by omega) (by omega), rv5⟩)

abbrev kX1_birthOf : Kd := (cX1_birthOf, .code yX1_birthOf cX1_birthOf 2 (some .int) :: wsL_law0, rmL 1, RX1, (some .int), 2)
theorem ct_X1_birthOf : Ct kX1_birthOf yX1_birthOf (fun a hi Q => ∃ k : Int, a = [AR 2, AI k] ∧ (0 ≤ k ∧ k < 40) ∧ ∀ v : Int, (v = bO (hi 2) k ∧ inR v) → Q (AI v) hi) := by
  refine Ct.of (ws' := _) (by decide +kernel) rfl rfl ?_
  intro a hi Q hT
  obtain ⟨k, rfl, hpre, hQ⟩ := hT
  refine ⟨Nat.le_of_ble_eq_true rfl, ?_⟩
  show Z kX1_birthOf Q 0 [(0, AR 2), (1, AI k)] [] hi
  refine z_iload_n (pc := 0) dX1_birthOf_0 rfl 1 rfl ?_
  refine z_if_lt (pc := 1) (tgt := 25) dX1_birthOf_1 (by decide) ⟨by omega, by omega⟩ (fun c1 => ?_) (fun c1 => ?_)
  · refine z_iconst (pc := 25) (v := 0) dX1_birthOf_25 rfl ?_
    refine z_iret (pc := 26) rfl dX1_birthOf_26 ?_
    exact hQ 0 (by first | omega | exact ⟨by rw [e0]; exact bO_i (by omega) (by omega), r0⟩)
  · refine z_iload_n (pc := 4) dX1_birthOf_4 rfl 1 rfl ?_
    refine z_bipush (pc := 5) (v := 40) dX1_birthOf_5 (by decide +kernel) ?_
    refine z_icmp_ge (pc := 7) (tgt := 25) dX1_birthOf_7 (by decide) ⟨by omega, by omega⟩ ⟨by decide, by decide⟩ (fun c2 => ?_) (fun c2 => ?_)
    · refine z_iconst (pc := 25) (v := 0) dX1_birthOf_25 rfl ?_
      refine z_iret (pc := 26) rfl dX1_birthOf_26 ?_
      exact hQ 0 (by first | omega | exact ⟨by rw [e0]; exact bO_i (by omega) (by omega), r0⟩)
    · refine z_aload_n (pc := 10) (x := 2) dX1_birthOf_10 rfl 0 rfl ?_
      refine z_getR (pc := 11) (pl := 1) (f := 0) (ci := 1) (C := RX1) (T := TX1) (N := 1) hu_X1 (by decide) rfl rfl (by decide) rfl (List.mem_cons_of_mem _ (iw3 _ (List.mem_of_getElem? (i := 2) rfl))) rfl dX1_birthOf_11 ?_
      refine z_iconst (pc := 14) (v := 2) dX1_birthOf_14 rfl ?_
      refine z_iconst (pc := 15) (v := 4) dX1_birthOf_15 rfl ?_
      refine z_iload_n (pc := 16) dX1_birthOf_16 rfl 1 rfl ?_
      refine z_imul (pc := 17) dX1_birthOf_17 (fun v3 ev3 => ?_)
      refine z_iadd (pc := 18) dX1_birthOf_18 (fun v4 ev4 => ?_)
      refine z_iconst (pc := 19) (v := 1) dX1_birthOf_19 rfl ?_
      refine z_iadd (pc := 20) dX1_birthOf_20 (fun v5 ev5 => ?_)
      refine z_iald (pc := 21) (pl := 2) (by decide) rfl (by decide) (by decide) (by omega) (by omega) dX1_birthOf_21 (fun v6 ev6 rv6 => ?_)
      refine z_goto (pc := 22) (tgt := 26) dX1_birthOf_22 (by decide) ?_
      refine z_iret (pc := 26) rfl dX1_birthOf_26 ?_
      exact hQ v6 (by first | omega | exact ⟨by rw [ev6]; exact bO_i (by omega) (by omega), rv6⟩)

abbrev kX1_deathOf : Kd := (cX1_deathOf, .code yX1_deathOf cX1_deathOf 2 (some .int) :: wsL_law0, rmL 1, RX1, (some .int), 2)
theorem ct_X1_deathOf : Ct kX1_deathOf yX1_deathOf (fun a hi Q => ∃ k : Int, a = [AR 2, AI k] ∧ (0 ≤ k ∧ k < 40) ∧ ∀ v : Int, (v = dO (hi 2) k ∧ inR v) → Q (AI v) hi) := by
  refine Ct.of (ws' := _) (by decide +kernel) rfl rfl ?_
  intro a hi Q hT
  obtain ⟨k, rfl, hpre, hQ⟩ := hT
  refine ⟨Nat.le_of_ble_eq_true rfl, ?_⟩
  show Z kX1_deathOf Q 0 [(0, AR 2), (1, AI k)] [] hi
  refine z_iload_n (pc := 0) dX1_deathOf_0 rfl 1 rfl ?_
  refine z_if_lt (pc := 1) (tgt := 25) dX1_deathOf_1 (by decide) ⟨by omega, by omega⟩ (fun c1 => ?_) (fun c1 => ?_)
  · refine z_iconst (pc := 25) (v := 0) dX1_deathOf_25 rfl ?_
    refine z_iret (pc := 26) rfl dX1_deathOf_26 ?_
    exact hQ 0 (by first | omega | exact ⟨by rw [e0]; exact dO_i (by omega) (by omega), r0⟩)
  · refine z_iload_n (pc := 4) dX1_deathOf_4 rfl 1 rfl ?_
    refine z_bipush (pc := 5) (v := 40) dX1_deathOf_5 (by decide +kernel) ?_
    refine z_icmp_ge (pc := 7) (tgt := 25) dX1_deathOf_7 (by decide) ⟨by omega, by omega⟩ ⟨by decide, by decide⟩ (fun c2 => ?_) (fun c2 => ?_)
    · refine z_iconst (pc := 25) (v := 0) dX1_deathOf_25 rfl ?_
      refine z_iret (pc := 26) rfl dX1_deathOf_26 ?_
      exact hQ 0 (by first | omega | exact ⟨by rw [e0]; exact dO_i (by omega) (by omega), r0⟩)
    · refine z_aload_n (pc := 10) (x := 2) dX1_deathOf_10 rfl 0 rfl ?_
      refine z_getR (pc := 11) (pl := 1) (f := 0) (ci := 1) (C := RX1) (T := TX1) (N := 1) hu_X1 (by decide) rfl rfl (by decide) rfl (List.mem_cons_of_mem _ (iw3 _ (List.mem_of_getElem? (i := 2) rfl))) rfl dX1_deathOf_11 ?_
      refine z_iconst (pc := 14) (v := 2) dX1_deathOf_14 rfl ?_
      refine z_iconst (pc := 15) (v := 4) dX1_deathOf_15 rfl ?_
      refine z_iload_n (pc := 16) dX1_deathOf_16 rfl 1 rfl ?_
      refine z_imul (pc := 17) dX1_deathOf_17 (fun v3 ev3 => ?_)
      refine z_iadd (pc := 18) dX1_deathOf_18 (fun v4 ev4 => ?_)
      refine z_iconst (pc := 19) (v := 2) dX1_deathOf_19 rfl ?_
      refine z_iadd (pc := 20) dX1_deathOf_20 (fun v5 ev5 => ?_)
      refine z_iald (pc := 21) (pl := 2) (by decide) rfl (by decide) (by decide) (by omega) (by omega) dX1_deathOf_21 (fun v6 ev6 rv6 => ?_)
      refine z_goto (pc := 22) (tgt := 26) dX1_deathOf_22 (by decide) ?_
      refine z_iret (pc := 26) rfl dX1_deathOf_26 ?_
      exact hQ v6 (by first | omega | exact ⟨by rw [ev6]; exact dO_i (by omega) (by omega), rv6⟩)

abbrev kX1_worthOf : Kd := (cX1_worthOf, .code yX1_worthOf cX1_worthOf 2 (some .int) :: wsL_law0, rmL 1, RX1, (some .int), 2)
theorem ct_X1_worthOf : Ct kX1_worthOf yX1_worthOf (fun a hi Q => ∃ k : Int, a = [AR 2, AI k] ∧ (0 ≤ k ∧ k < 40) ∧ ∀ v : Int, (v = wO (hi 2) k ∧ inR v) → Q (AI v) hi) := by
  refine Ct.of (ws' := _) (by decide +kernel) rfl rfl ?_
  intro a hi Q hT
  obtain ⟨k, rfl, hpre, hQ⟩ := hT
  refine ⟨Nat.le_of_ble_eq_true rfl, ?_⟩
  show Z kX1_worthOf Q 0 [(0, AR 2), (1, AI k)] [] hi
  refine z_iload_n (pc := 0) dX1_worthOf_0 rfl 1 rfl ?_
  refine z_if_lt (pc := 1) (tgt := 25) dX1_worthOf_1 (by decide) ⟨by omega, by omega⟩ (fun c1 => ?_) (fun c1 => ?_)
  · refine z_iconst (pc := 25) (v := 0) dX1_worthOf_25 rfl ?_
    refine z_iret (pc := 26) rfl dX1_worthOf_26 ?_
    exact hQ 0 (by first | omega | exact ⟨by rw [e0]; exact wO_i (by omega) (by omega), r0⟩)
  · refine z_iload_n (pc := 4) dX1_worthOf_4 rfl 1 rfl ?_
    refine z_bipush (pc := 5) (v := 40) dX1_worthOf_5 (by decide +kernel) ?_
    refine z_icmp_ge (pc := 7) (tgt := 25) dX1_worthOf_7 (by decide) ⟨by omega, by omega⟩ ⟨by decide, by decide⟩ (fun c2 => ?_) (fun c2 => ?_)
    · refine z_iconst (pc := 25) (v := 0) dX1_worthOf_25 rfl ?_
      refine z_iret (pc := 26) rfl dX1_worthOf_26 ?_
      exact hQ 0 (by first | omega | exact ⟨by rw [e0]; exact wO_i (by omega) (by omega), r0⟩)
    · refine z_aload_n (pc := 10) (x := 2) dX1_worthOf_10 rfl 0 rfl ?_
      refine z_getR (pc := 11) (pl := 1) (f := 0) (ci := 1) (C := RX1) (T := TX1) (N := 1) hu_X1 (by decide) rfl rfl (by decide) rfl (List.mem_cons_of_mem _ (iw3 _ (List.mem_of_getElem? (i := 2) rfl))) rfl dX1_worthOf_11 ?_
      refine z_iconst (pc := 14) (v := 2) dX1_worthOf_14 rfl ?_
      refine z_iconst (pc := 15) (v := 4) dX1_worthOf_15 rfl ?_
      refine z_iload_n (pc := 16) dX1_worthOf_16 rfl 1 rfl ?_
      refine z_imul (pc := 17) dX1_worthOf_17 (fun v3 ev3 => ?_)
      refine z_iadd (pc := 18) dX1_worthOf_18 (fun v4 ev4 => ?_)
      refine z_iconst (pc := 19) (v := 3) dX1_worthOf_19 rfl ?_
      refine z_iadd (pc := 20) dX1_worthOf_20 (fun v5 ev5 => ?_)
      refine z_iald (pc := 21) (pl := 2) (by decide) rfl (by decide) (by decide) (by omega) (by omega) dX1_worthOf_21 (fun v6 ev6 rv6 => ?_)
      refine z_goto (pc := 22) (tgt := 26) dX1_worthOf_22 (by decide) ?_
      refine z_iret (pc := 26) rfl dX1_worthOf_26 ?_
      exact hQ v6 (by first | omega | exact ⟨by rw [ev6]; exact wO_i (by omega) (by omega), rv6⟩)

abbrev kX1_setWorth : Kd := (cX1_setWorth, .code yX1_setWorth cX1_setWorth 3 none :: wsL_law0, rmL 1, RX1, none, 3)
theorem ct_X1_setWorth : Ct kX1_setWorth yX1_setWorth (fun a hi Q => ∃ k : Int, ∃ w : Int, a = [AR 2, AI k, AI w] ∧ ((0 ≤ k ∧ k < 40) ∧ inR w) ∧ ∀ h2 : HI, (Fr [2] hi h2 ∧ (h2 = hput hi 2 (updI (hi 2) (2 + 4 * k.toNat + 3) w))) → Q AU h2) := by
  refine Ct.of (ws' := _) (by decide +kernel) rfl rfl ?_
  intro a hi Q hT
  obtain ⟨k, w, rfl, hpre, hQ⟩ := hT
  refine ⟨Nat.le_of_ble_eq_true rfl, ?_⟩
  show Z kX1_setWorth Q 0 [(0, AR 2), (1, AI k), (2, AI w)] [] hi
  refine z_iload_n (pc := 0) dX1_setWorth_0 rfl 1 rfl ?_
  refine z_if_lt (pc := 1) (tgt := 23) dX1_setWorth_1 (by decide) ⟨by omega, by omega⟩ (fun c1 => ?_) (fun c1 => ?_)
  · refine z_vret (pc := 23) rfl dX1_setWorth_23 ?_
    exact hQ hi ⟨(Fr.rf), by first | omega | (rw [ehi]; congr 2; omega)⟩
  · refine z_iload_n (pc := 4) dX1_setWorth_4 rfl 1 rfl ?_
    refine z_bipush (pc := 5) (v := 40) dX1_setWorth_5 (by decide +kernel) ?_
    refine z_icmp_ge (pc := 7) (tgt := 23) dX1_setWorth_7 (by decide) ⟨by omega, by omega⟩ ⟨by decide, by decide⟩ (fun c2 => ?_) (fun c2 => ?_)
    · refine z_vret (pc := 23) rfl dX1_setWorth_23 ?_
      exact hQ hi ⟨(Fr.rf), by first | omega | (rw [ehi]; congr 2; omega)⟩
    · refine z_aload_n (pc := 10) (x := 2) dX1_setWorth_10 rfl 0 rfl ?_
      refine z_getR (pc := 11) (pl := 1) (f := 0) (ci := 1) (C := RX1) (T := TX1) (N := 1) hu_X1 (by decide) rfl rfl (by decide) rfl (List.mem_cons_of_mem _ (iw3 _ (List.mem_of_getElem? (i := 2) rfl))) rfl dX1_setWorth_11 ?_
      refine z_iconst (pc := 14) (v := 2) dX1_setWorth_14 rfl ?_
      refine z_iconst (pc := 15) (v := 4) dX1_setWorth_15 rfl ?_
      refine z_iload_n (pc := 16) dX1_setWorth_16 rfl 1 rfl ?_
      refine z_imul (pc := 17) dX1_setWorth_17 (fun v3 ev3 => ?_)
      refine z_iadd (pc := 18) dX1_setWorth_18 (fun v4 ev4 => ?_)
      refine z_iconst (pc := 19) (v := 3) dX1_setWorth_19 rfl ?_
      refine z_iadd (pc := 20) dX1_setWorth_20 (fun v5 ev5 => ?_)
      refine z_iload_n (pc := 21) dX1_setWorth_21 rfl 2 rfl ?_
      refine z_iast (pc := 22) (pl := 2) (by decide) rfl (by decide) (by omega) (by omega) ⟨by omega, by omega⟩ dX1_setWorth_22 (fun h6 eh6 => ?_)
      have frh6 : Fr [2] hi h6 := (Fr.put (Fr.rf) eh6 (by decide))
      refine z_vret (pc := 23) rfl dX1_setWorth_23 ?_
      exact hQ h6 ⟨frh6, by first | omega | (rw [eh6]; congr 2; omega)⟩

abbrev kX1_isAlive : Kd := (cX1_isAlive, .code yX1_isAlive cX1_isAlive 3 (some .boolean) :: wsL_law0, rmL 2, RX1, (some .boolean), 3)
theorem ct_X1_isAlive : Ct kX1_isAlive yX1_isAlive (fun a hi Q => ∃ k : Int, ∃ h : Int, a = [AR 2, AI k, AI h] ∧ ((0 ≤ k ∧ k < 40) ∧ inR h) ∧ ∀ v : Int, ((v = 1 ∧ al (hi 2) k h) ∨ (v = 0 ∧ ¬ al (hi 2) k h)) → Q (AI v) hi) := by
  refine Ct.of (ws' := _) (by decide +kernel) rfl rfl ?_
  intro a hi Q hT
  obtain ⟨k, h, rfl, hpre, hQ⟩ := hT
  refine ⟨Nat.le_of_ble_eq_true rfl, ?_⟩
  show Z kX1_isAlive Q 0 [(0, AR 2), (1, AI k), (2, AI h)] [] hi
  refine z_aload_n (pc := 0) (x := 2) dX1_isAlive_0 rfl 0 rfl ?_
  refine z_iload_n (pc := 1) dX1_isAlive_1 rfl 1 rfl ?_
  refine z_callV (pc := 2) (kc := kX1_birthOf) (n := 1) (pl := 1) (ci := 1) (C := RX1) (As := [AI k]) (stk := []) ct_X1_birthOf (gdV rfl rfl (iw7 _ (List.mem_of_getElem? (i := 9) rfl)) (iw7 _ (List.mem_of_getElem? (i := 10) rfl)) (iw7 _ (List.mem_of_getElem? (i := 11) rfl)) (iw1 _ (List.mem_of_getElem? (i := 15) rfl)) (iw7 _ (List.mem_of_getElem? (i := 12) rfl))) rfl ⟨rfl, rfl⟩ (by decide +kernel) ⟨by decide, by decide⟩ (by decide) rfl rfl dX1_isAlive_2 rfl rfl (Nat.le_of_ble_eq_true rfl) ?_
  refine ⟨_, rfl, by omega, fun v1 ev1 => ?_⟩
  refine z_iload_n (pc := 5) dX1_isAlive_5 rfl 2 rfl ?_
  refine z_icmp_gt (pc := 6) (tgt := 22) dX1_isAlive_6 (by decide) ⟨by omega, by omega⟩ ⟨by omega, by omega⟩ (fun c2 => ?_) (fun c2 => ?_)
  · refine z_iconst (pc := 22) (v := 0) dX1_isAlive_22 rfl ?_
    refine z_zret (pc := 23) rfl (by decide) dX1_isAlive_23 ?_
    exact hQ 0 (by omega)
  · refine z_iload_n (pc := 9) dX1_isAlive_9 rfl 2 rfl ?_
    refine z_aload_n (pc := 10) (x := 2) dX1_isAlive_10 rfl 0 rfl ?_
    refine z_iload_n (pc := 11) dX1_isAlive_11 rfl 1 rfl ?_
    refine z_callV (pc := 12) (kc := kX1_deathOf) (n := 1) (pl := 1) (ci := 1) (C := RX1) (As := [AI k]) (stk := [AI h]) ct_X1_deathOf (gdV rfl rfl (iw7 _ (List.mem_of_getElem? (i := 13) rfl)) (iw7 _ (List.mem_of_getElem? (i := 14) rfl)) (iw7 _ (List.mem_of_getElem? (i := 15) rfl)) (iw1 _ (List.mem_of_getElem? (i := 15) rfl)) (iw7 _ (List.mem_of_getElem? (i := 16) rfl))) rfl ⟨rfl, rfl⟩ (by decide +kernel) ⟨by decide, by decide⟩ (by decide) rfl rfl dX1_isAlive_12 rfl rfl (Nat.le_of_ble_eq_true rfl) ?_
    refine ⟨_, rfl, by omega, fun v3 ev3 => ?_⟩
    refine z_icmp_ge (pc := 15) (tgt := 22) dX1_isAlive_15 (by decide) ⟨by omega, by omega⟩ ⟨by omega, by omega⟩ (fun c4 => ?_) (fun c4 => ?_)
    · refine z_iconst (pc := 22) (v := 0) dX1_isAlive_22 rfl ?_
      refine z_zret (pc := 23) rfl (by decide) dX1_isAlive_23 ?_
      exact hQ 0 (by omega)
    · refine z_iconst (pc := 18) (v := 1) dX1_isAlive_18 rfl ?_
      refine z_goto (pc := 19) (tgt := 23) dX1_isAlive_19 (by decide) ?_
      refine z_zret (pc := 23) rfl (by decide) dX1_isAlive_23 ?_
      exact hQ 1 (by omega)

abbrev kX1_find : Kd := (cX1_find, .code yX1_find cX1_find 4 (some .int) :: wsL_law0, rmL 3, RX1, (some .int), 4)
theorem ct_X1_find : Ct kX1_find yX1_find (fun a hi Q => ∃ x : Int, ∃ h : Int, a = [AR 2, AI x, AI h] ∧ ((0 ≤ hi 2 1 ∧ hi 2 1 ≤ 40) ∧ inR x ∧ inR h) ∧ ∀ v : Int, (Fst (fun z => nO (hi 2) z = x ∧ al (hi 2) z h) (hi 2 1) v) → Q (AI v) hi) := by
  refine Ct.of (ws' := _) (by decide +kernel) rfl rfl ?_
  intro a hi Q hT
  obtain ⟨x, h, rfl, hpre, hQ⟩ := hT
  refine ⟨Nat.le_of_ble_eq_true rfl, ?_⟩
  show Z kX1_find Q 0 [(0, AR 2), (1, AI x), (2, AI h)] [] hi
  refine z_iconst (pc := 0) (v := 0) dX1_find_0 rfl ?_
  refine z_istore_n (pc := 1) (lv' := [(3, AI 0), (0, AR 2), (1, AI x), (2, AI h)]) dX1_find_1 rfl (by decide) rfl ?_
  have J2 : ∀ (N : Nat) (k : Int), (0 ≤ k ∧ k ≤ hi 2 1) → (∀ z : Int, 0 ≤ z → z < k → ¬ (nO (hi 2) z = x ∧ al (hi 2) z h)) → ((hi 2 1 - k).toNat) < N → Z kX1_find Q 2 [(3, AI k), (0, AR 2), (1, AI x), (2, AI h)] [] hi := by
    intro N
    induction N with
    | zero => intro k _ _ _; exact absurd (by assumption) (Nat.not_lt_zero _)
    | succ N ih2 =>
      intro k i0 i1 hm2
      refine z_iload_n (pc := 2) dX1_find_2 rfl 0 rfl ?_
      refine z_aload_n (pc := 3) (x := 2) dX1_find_3 rfl 1 rfl ?_
      refine z_callV (pc := 4) (kc := kX1_size) (n := 0) (pl := 1) (ci := 1) (C := RX1) (As := []) (stk := [AI k]) ct_X1_size (gdV rfl rfl (iw7 _ (List.mem_of_getElem? (i := 1) rfl)) (iw7 _ (List.mem_of_getElem? (i := 2) rfl)) (iw7 _ (List.mem_of_getElem? (i := 3) rfl)) (iw1 _ (List.mem_of_getElem? (i := 15) rfl)) (iw7 _ (List.mem_of_getElem? (i := 4) rfl))) rfl ⟨rfl, rfl⟩ (by decide +kernel) ⟨by decide, by decide⟩ (by decide) rfl rfl dX1_find_4 rfl rfl (Nat.le_of_ble_eq_true rfl) ?_
      refine ⟨rfl, trivial, fun v1 ev1 => ?_⟩
      refine z_icmp_ge (pc := 7) (tgt := 36) dX1_find_7 (by decide) ⟨by omega, by omega⟩ ⟨by omega, by omega⟩ (fun c2 => ?_) (fun c2 => ?_)
      · refine z_iconst (pc := 36) (v := (-1)) dX1_find_36 rfl ?_
        refine z_iret (pc := 37) rfl dX1_find_37 ?_
        exact hQ (-1) (by first | exact Or.inr ⟨rfl, fun z h0 h1 => i1 z h0 (by omega)⟩ | exact Or.inl ⟨by omega, by omega, by omega, i1⟩)
      · refine z_aload_n (pc := 10) (x := 2) dX1_find_10 rfl 1 rfl ?_
        refine z_iload_n (pc := 11) dX1_find_11 rfl 0 rfl ?_
        refine z_callV (pc := 12) (kc := kX1_numberOf) (n := 1) (pl := 1) (ci := 1) (C := RX1) (As := [AI k]) (stk := []) ct_X1_numberOf (gdV rfl rfl (iw7 _ (List.mem_of_getElem? (i := 5) rfl)) (iw7 _ (List.mem_of_getElem? (i := 6) rfl)) (iw7 _ (List.mem_of_getElem? (i := 7) rfl)) (iw1 _ (List.mem_of_getElem? (i := 15) rfl)) (iw7 _ (List.mem_of_getElem? (i := 8) rfl))) rfl ⟨rfl, rfl⟩ (by decide +kernel) ⟨by decide, by decide⟩ (by decide) rfl rfl dX1_find_12 rfl rfl (Nat.le_of_ble_eq_true rfl) ?_
        refine ⟨_, rfl, by omega, fun v3 ev3 => ?_⟩
        refine z_iload_n (pc := 15) dX1_find_15 rfl 2 rfl ?_
        refine z_icmp_ne (pc := 16) (tgt := 30) dX1_find_16 (by decide) ⟨by omega, by omega⟩ ⟨by omega, by omega⟩ (fun c4 => ?_) (fun c4 => ?_)
        · refine z_iinc (pc := 30) (j := 0) (w := fun q => (3, AI q) :: [(0, AR 2), (1, AI x), (2, AI h)]) dX1_find_30 rfl (by decide) (fun _ => rfl) (fun v5 ev5 => ?_)
          refine z_goto (pc := 33) (tgt := 2) dX1_find_33 (by decide) ?_
          exact ih2 v5 (by omega) (no_step i1 (by omega) (by omega)) (by omega)
        · refine z_aload_n (pc := 19) (x := 2) dX1_find_19 rfl 1 rfl ?_
          refine z_iload_n (pc := 20) dX1_find_20 rfl 0 rfl ?_
          refine z_iload_n (pc := 21) dX1_find_21 rfl 3 rfl ?_
          refine z_callV (pc := 22) (kc := kX1_isAlive) (n := 2) (pl := 1) (ci := 1) (C := RX1) (As := [AI k, AI h]) (stk := []) ct_X1_isAlive (gdV rfl rfl (iw11 _ (List.mem_of_getElem? (i := 22) rfl)) (iw11 _ (List.mem_of_getElem? (i := 23) rfl)) (iw12 _ (List.mem_of_getElem? (i := 0) rfl)) (iw1 _ (List.mem_of_getElem? (i := 15) rfl)) (iw12 _ (List.mem_of_getElem? (i := 1) rfl))) rfl ⟨rfl, rfl⟩ (by decide +kernel) ⟨by decide, by decide⟩ (by decide) rfl rfl dX1_find_22 rfl rfl (Nat.le_of_ble_eq_true rfl) ?_
          refine ⟨_, _, rfl, by omega, fun v6 ev6 => ?_⟩
          refine z_if_eq (pc := 25) (tgt := 30) dX1_find_25 (by decide) ⟨by omega, by omega⟩ (fun c7 => ?_) (fun c7 => ?_)
          · refine z_iinc (pc := 30) (j := 0) (w := fun q => (3, AI q) :: [(0, AR 2), (1, AI x), (2, AI h)]) dX1_find_30 rfl (by decide) (fun _ => rfl) (fun v8 ev8 => ?_)
            refine z_goto (pc := 33) (tgt := 2) dX1_find_33 (by decide) ?_
            exact ih2 v8 (by omega) (no_step i1 (by omega) (by omega)) (by omega)
          · refine z_iload_n (pc := 28) dX1_find_28 rfl 0 rfl ?_
            refine z_iret (pc := 29) rfl dX1_find_29 ?_
            exact hQ k (by first | exact Or.inr ⟨rfl, fun z h0 h1 => i1 z h0 (by omega)⟩ | exact Or.inl ⟨by omega, by omega, by omega, i1⟩)
  exact J2 _ 0 (by omega) (no_0 rfl) (Nat.lt_succ_self _)

abbrev kX1_findDeath : Kd := (cX1_findDeath, .code yX1_findDeath cX1_findDeath 4 (some .int) :: wsL_law0, rmL 2, RX1, (some .int), 4)
theorem ct_X1_findDeath : Ct kX1_findDeath yX1_findDeath (fun a hi Q => ∃ x : Int, ∃ h : Int, a = [AR 2, AI x, AI h] ∧ ((0 ≤ hi 2 1 ∧ hi 2 1 ≤ 40) ∧ inR x ∧ inR h) ∧ ∀ v : Int, (Fst (fun z => nO (hi 2) z = x ∧ dO (hi 2) z = h) (hi 2 1) v) → Q (AI v) hi) := by
  refine Ct.of (ws' := _) (by decide +kernel) rfl rfl ?_
  intro a hi Q hT
  obtain ⟨x, h, rfl, hpre, hQ⟩ := hT
  refine ⟨Nat.le_of_ble_eq_true rfl, ?_⟩
  show Z kX1_findDeath Q 0 [(0, AR 2), (1, AI x), (2, AI h)] [] hi
  refine z_iconst (pc := 0) (v := 0) dX1_findDeath_0 rfl ?_
  refine z_istore_n (pc := 1) (lv' := [(3, AI 0), (0, AR 2), (1, AI x), (2, AI h)]) dX1_findDeath_1 rfl (by decide) rfl ?_
  have J2 : ∀ (N : Nat) (k : Int), (0 ≤ k ∧ k ≤ hi 2 1) → (∀ z : Int, 0 ≤ z → z < k → ¬ (nO (hi 2) z = x ∧ dO (hi 2) z = h)) → ((hi 2 1 - k).toNat) < N → Z kX1_findDeath Q 2 [(3, AI k), (0, AR 2), (1, AI x), (2, AI h)] [] hi := by
    intro N
    induction N with
    | zero => intro k _ _ _; exact absurd (by assumption) (Nat.not_lt_zero _)
    | succ N ih2 =>
      intro k i0 i1 hm2
      refine z_iload_n (pc := 2) dX1_findDeath_2 rfl 0 rfl ?_
      refine z_aload_n (pc := 3) (x := 2) dX1_findDeath_3 rfl 1 rfl ?_
      refine z_callV (pc := 4) (kc := kX1_size) (n := 0) (pl := 1) (ci := 1) (C := RX1) (As := []) (stk := [AI k]) ct_X1_size (gdV rfl rfl (iw7 _ (List.mem_of_getElem? (i := 1) rfl)) (iw7 _ (List.mem_of_getElem? (i := 2) rfl)) (iw7 _ (List.mem_of_getElem? (i := 3) rfl)) (iw1 _ (List.mem_of_getElem? (i := 15) rfl)) (iw7 _ (List.mem_of_getElem? (i := 4) rfl))) rfl ⟨rfl, rfl⟩ (by decide +kernel) ⟨by decide, by decide⟩ (by decide) rfl rfl dX1_findDeath_4 rfl rfl (Nat.le_of_ble_eq_true rfl) ?_
      refine ⟨rfl, trivial, fun v1 ev1 => ?_⟩
      refine z_icmp_ge (pc := 7) (tgt := 36) dX1_findDeath_7 (by decide) ⟨by omega, by omega⟩ ⟨by omega, by omega⟩ (fun c2 => ?_) (fun c2 => ?_)
      · refine z_iconst (pc := 36) (v := (-1)) dX1_findDeath_36 rfl ?_
        refine z_iret (pc := 37) rfl dX1_findDeath_37 ?_
        exact hQ (-1) (by first | exact Or.inr ⟨rfl, fun z h0 h1 => i1 z h0 (by omega)⟩ | exact Or.inl ⟨by omega, by omega, by omega, i1⟩)
      · refine z_aload_n (pc := 10) (x := 2) dX1_findDeath_10 rfl 1 rfl ?_
        refine z_iload_n (pc := 11) dX1_findDeath_11 rfl 0 rfl ?_
        refine z_callV (pc := 12) (kc := kX1_numberOf) (n := 1) (pl := 1) (ci := 1) (C := RX1) (As := [AI k]) (stk := []) ct_X1_numberOf (gdV rfl rfl (iw7 _ (List.mem_of_getElem? (i := 5) rfl)) (iw7 _ (List.mem_of_getElem? (i := 6) rfl)) (iw7 _ (List.mem_of_getElem? (i := 7) rfl)) (iw1 _ (List.mem_of_getElem? (i := 15) rfl)) (iw7 _ (List.mem_of_getElem? (i := 8) rfl))) rfl ⟨rfl, rfl⟩ (by decide +kernel) ⟨by decide, by decide⟩ (by decide) rfl rfl dX1_findDeath_12 rfl rfl (Nat.le_of_ble_eq_true rfl) ?_
        refine ⟨_, rfl, by omega, fun v3 ev3 => ?_⟩
        refine z_iload_n (pc := 15) dX1_findDeath_15 rfl 2 rfl ?_
        refine z_icmp_ne (pc := 16) (tgt := 30) dX1_findDeath_16 (by decide) ⟨by omega, by omega⟩ ⟨by omega, by omega⟩ (fun c4 => ?_) (fun c4 => ?_)
        · refine z_iinc (pc := 30) (j := 0) (w := fun q => (3, AI q) :: [(0, AR 2), (1, AI x), (2, AI h)]) dX1_findDeath_30 rfl (by decide) (fun _ => rfl) (fun v5 ev5 => ?_)
          refine z_goto (pc := 33) (tgt := 2) dX1_findDeath_33 (by decide) ?_
          exact ih2 v5 (by omega) (no_step i1 (by omega) (by omega)) (by omega)
        · refine z_aload_n (pc := 19) (x := 2) dX1_findDeath_19 rfl 1 rfl ?_
          refine z_iload_n (pc := 20) dX1_findDeath_20 rfl 0 rfl ?_
          refine z_callV (pc := 21) (kc := kX1_deathOf) (n := 1) (pl := 1) (ci := 1) (C := RX1) (As := [AI k]) (stk := []) ct_X1_deathOf (gdV rfl rfl (iw7 _ (List.mem_of_getElem? (i := 13) rfl)) (iw7 _ (List.mem_of_getElem? (i := 14) rfl)) (iw7 _ (List.mem_of_getElem? (i := 15) rfl)) (iw1 _ (List.mem_of_getElem? (i := 15) rfl)) (iw7 _ (List.mem_of_getElem? (i := 16) rfl))) rfl ⟨rfl, rfl⟩ (by decide +kernel) ⟨by decide, by decide⟩ (by decide) rfl rfl dX1_findDeath_21 rfl rfl (Nat.le_of_ble_eq_true rfl) ?_
          refine ⟨_, rfl, by omega, fun v6 ev6 => ?_⟩
          refine z_iload_n (pc := 24) dX1_findDeath_24 rfl 3 rfl ?_
          refine z_icmp_ne (pc := 25) (tgt := 30) dX1_findDeath_25 (by decide) ⟨by omega, by omega⟩ ⟨by omega, by omega⟩ (fun c7 => ?_) (fun c7 => ?_)
          · refine z_iinc (pc := 30) (j := 0) (w := fun q => (3, AI q) :: [(0, AR 2), (1, AI x), (2, AI h)]) dX1_findDeath_30 rfl (by decide) (fun _ => rfl) (fun v8 ev8 => ?_)
            refine z_goto (pc := 33) (tgt := 2) dX1_findDeath_33 (by decide) ?_
            exact ih2 v8 (by omega) (no_step i1 (by omega) (by omega)) (by omega)
          · refine z_iload_n (pc := 28) dX1_findDeath_28 rfl 0 rfl ?_
            refine z_iret (pc := 29) rfl dX1_findDeath_29 ?_
            exact hQ k (by first | exact Or.inr ⟨rfl, fun z h0 h1 => i1 z h0 (by omega)⟩ | exact Or.inl ⟨by omega, by omega, by omega, i1⟩)
  exact J2 _ 0 (by omega) (no_0 rfl) (Nat.lt_succ_self _)

abbrev kX1_firstAt : Kd := (cX1_firstAt, .code yX1_firstAt cX1_firstAt 4 (some .int) :: wsL_law0, rmL 3, RX1, (some .int), 4)
theorem ct_X1_firstAt : Ct kX1_firstAt yX1_firstAt (fun a hi Q => ∃ h : Int, ∃ x : Int, a = [AR 2, AI h, AI x] ∧ ((0 ≤ hi 2 1 ∧ hi 2 1 ≤ 40) ∧ inR h ∧ inR x) ∧ ∀ v : Int, (Fst (fun z => x ≤ nO (hi 2) z ∧ al (hi 2) z h) (hi 2 1) v) → Q (AI v) hi) := by
  refine Ct.of (ws' := _) (by decide +kernel) rfl rfl ?_
  intro a hi Q hT
  obtain ⟨h, x, rfl, hpre, hQ⟩ := hT
  refine ⟨Nat.le_of_ble_eq_true rfl, ?_⟩
  show Z kX1_firstAt Q 0 [(0, AR 2), (1, AI h), (2, AI x)] [] hi
  refine z_iconst (pc := 0) (v := 0) dX1_firstAt_0 rfl ?_
  refine z_istore_n (pc := 1) (lv' := [(3, AI 0), (0, AR 2), (1, AI h), (2, AI x)]) dX1_firstAt_1 rfl (by decide) rfl ?_
  have J2 : ∀ (N : Nat) (k : Int), (0 ≤ k ∧ k ≤ hi 2 1) → (∀ z : Int, 0 ≤ z → z < k → ¬ (x ≤ nO (hi 2) z ∧ al (hi 2) z h)) → ((hi 2 1 - k).toNat) < N → Z kX1_firstAt Q 2 [(3, AI k), (0, AR 2), (1, AI h), (2, AI x)] [] hi := by
    intro N
    induction N with
    | zero => intro k _ _ _; exact absurd (by assumption) (Nat.not_lt_zero _)
    | succ N ih2 =>
      intro k i0 i1 hm2
      refine z_iload_n (pc := 2) dX1_firstAt_2 rfl 0 rfl ?_
      refine z_aload_n (pc := 3) (x := 2) dX1_firstAt_3 rfl 1 rfl ?_
      refine z_callV (pc := 4) (kc := kX1_size) (n := 0) (pl := 1) (ci := 1) (C := RX1) (As := []) (stk := [AI k]) ct_X1_size (gdV rfl rfl (iw7 _ (List.mem_of_getElem? (i := 1) rfl)) (iw7 _ (List.mem_of_getElem? (i := 2) rfl)) (iw7 _ (List.mem_of_getElem? (i := 3) rfl)) (iw1 _ (List.mem_of_getElem? (i := 15) rfl)) (iw7 _ (List.mem_of_getElem? (i := 4) rfl))) rfl ⟨rfl, rfl⟩ (by decide +kernel) ⟨by decide, by decide⟩ (by decide) rfl rfl dX1_firstAt_4 rfl rfl (Nat.le_of_ble_eq_true rfl) ?_
      refine ⟨rfl, trivial, fun v1 ev1 => ?_⟩
      refine z_icmp_ge (pc := 7) (tgt := 36) dX1_firstAt_7 (by decide) ⟨by omega, by omega⟩ ⟨by omega, by omega⟩ (fun c2 => ?_) (fun c2 => ?_)
      · refine z_iconst (pc := 36) (v := (-1)) dX1_firstAt_36 rfl ?_
        refine z_iret (pc := 37) rfl dX1_firstAt_37 ?_
        exact hQ (-1) (by first | exact Or.inr ⟨rfl, fun z h0 h1 => i1 z h0 (by omega)⟩ | exact Or.inl ⟨by omega, by omega, by omega, i1⟩)
      · refine z_aload_n (pc := 10) (x := 2) dX1_firstAt_10 rfl 1 rfl ?_
        refine z_iload_n (pc := 11) dX1_firstAt_11 rfl 0 rfl ?_
        refine z_callV (pc := 12) (kc := kX1_numberOf) (n := 1) (pl := 1) (ci := 1) (C := RX1) (As := [AI k]) (stk := []) ct_X1_numberOf (gdV rfl rfl (iw7 _ (List.mem_of_getElem? (i := 5) rfl)) (iw7 _ (List.mem_of_getElem? (i := 6) rfl)) (iw7 _ (List.mem_of_getElem? (i := 7) rfl)) (iw1 _ (List.mem_of_getElem? (i := 15) rfl)) (iw7 _ (List.mem_of_getElem? (i := 8) rfl))) rfl ⟨rfl, rfl⟩ (by decide +kernel) ⟨by decide, by decide⟩ (by decide) rfl rfl dX1_firstAt_12 rfl rfl (Nat.le_of_ble_eq_true rfl) ?_
        refine ⟨_, rfl, by omega, fun v3 ev3 => ?_⟩
        refine z_iload_n (pc := 15) dX1_firstAt_15 rfl 3 rfl ?_
        refine z_icmp_lt (pc := 16) (tgt := 30) dX1_firstAt_16 (by decide) ⟨by omega, by omega⟩ ⟨by omega, by omega⟩ (fun c4 => ?_) (fun c4 => ?_)
        · refine z_iinc (pc := 30) (j := 0) (w := fun q => (3, AI q) :: [(0, AR 2), (1, AI h), (2, AI x)]) dX1_firstAt_30 rfl (by decide) (fun _ => rfl) (fun v5 ev5 => ?_)
          refine z_goto (pc := 33) (tgt := 2) dX1_firstAt_33 (by decide) ?_
          exact ih2 v5 (by omega) (no_step i1 (by omega) (by omega)) (by omega)
        · refine z_aload_n (pc := 19) (x := 2) dX1_firstAt_19 rfl 1 rfl ?_
          refine z_iload_n (pc := 20) dX1_firstAt_20 rfl 0 rfl ?_
          refine z_iload_n (pc := 21) dX1_firstAt_21 rfl 2 rfl ?_
          refine z_callV (pc := 22) (kc := kX1_isAlive) (n := 2) (pl := 1) (ci := 1) (C := RX1) (As := [AI k, AI h]) (stk := []) ct_X1_isAlive (gdV rfl rfl (iw11 _ (List.mem_of_getElem? (i := 22) rfl)) (iw11 _ (List.mem_of_getElem? (i := 23) rfl)) (iw12 _ (List.mem_of_getElem? (i := 0) rfl)) (iw1 _ (List.mem_of_getElem? (i := 15) rfl)) (iw12 _ (List.mem_of_getElem? (i := 1) rfl))) rfl ⟨rfl, rfl⟩ (by decide +kernel) ⟨by decide, by decide⟩ (by decide) rfl rfl dX1_firstAt_22 rfl rfl (Nat.le_of_ble_eq_true rfl) ?_
          refine ⟨_, _, rfl, by omega, fun v6 ev6 => ?_⟩
          refine z_if_eq (pc := 25) (tgt := 30) dX1_firstAt_25 (by decide) ⟨by omega, by omega⟩ (fun c7 => ?_) (fun c7 => ?_)
          · refine z_iinc (pc := 30) (j := 0) (w := fun q => (3, AI q) :: [(0, AR 2), (1, AI h), (2, AI x)]) dX1_firstAt_30 rfl (by decide) (fun _ => rfl) (fun v8 ev8 => ?_)
            refine z_goto (pc := 33) (tgt := 2) dX1_firstAt_33 (by decide) ?_
            exact ih2 v8 (by omega) (no_step i1 (by omega) (by omega)) (by omega)
          · refine z_iload_n (pc := 28) dX1_firstAt_28 rfl 0 rfl ?_
            refine z_iret (pc := 29) rfl dX1_firstAt_29 ?_
            exact hQ k (by first | exact Or.inr ⟨rfl, fun z h0 h1 => i1 z h0 (by omega)⟩ | exact Or.inl ⟨by omega, by omega, by omega, i1⟩)
  exact J2 _ 0 (by omega) (no_0 rfl) (Nat.lt_succ_self _)

abbrev kX1_lastAt : Kd := (cX1_lastAt, .code yX1_lastAt cX1_lastAt 4 (some .int) :: wsL_law0, rmL 3, RX1, (some .int), 4)
theorem ct_X1_lastAt : Ct kX1_lastAt yX1_lastAt (fun a hi Q => ∃ h : Int, ∃ x : Int, a = [AR 2, AI h, AI x] ∧ ((0 ≤ hi 2 1 ∧ hi 2 1 ≤ 40) ∧ inR h ∧ inR x) ∧ ∀ v : Int, (Lst (fun z => nO (hi 2) z ≤ x ∧ al (hi 2) z h) (hi 2 1) v) → Q (AI v) hi) := by
  refine Ct.of (ws' := _) (by decide +kernel) rfl rfl ?_
  intro a hi Q hT
  obtain ⟨h, x, rfl, hpre, hQ⟩ := hT
  refine ⟨Nat.le_of_ble_eq_true rfl, ?_⟩
  show Z kX1_lastAt Q 0 [(0, AR 2), (1, AI h), (2, AI x)] [] hi
  refine z_aload_n (pc := 0) (x := 2) dX1_lastAt_0 rfl 0 rfl ?_
  refine z_callV (pc := 1) (kc := kX1_size) (n := 0) (pl := 1) (ci := 1) (C := RX1) (As := []) (stk := []) ct_X1_size (gdV rfl rfl (iw7 _ (List.mem_of_getElem? (i := 1) rfl)) (iw7 _ (List.mem_of_getElem? (i := 2) rfl)) (iw7 _ (List.mem_of_getElem? (i := 3) rfl)) (iw1 _ (List.mem_of_getElem? (i := 15) rfl)) (iw7 _ (List.mem_of_getElem? (i := 4) rfl))) rfl ⟨rfl, rfl⟩ (by decide +kernel) ⟨by decide, by decide⟩ (by decide) rfl rfl dX1_lastAt_1 rfl rfl (Nat.le_of_ble_eq_true rfl) ?_
  refine ⟨rfl, trivial, fun v1 ev1 => ?_⟩
  refine z_iconst (pc := 4) (v := 1) dX1_lastAt_4 rfl ?_
  refine z_isub (pc := 5) dX1_lastAt_5 (fun v2 ev2 => ?_)
  refine z_istore_n (pc := 6) (lv' := [(3, AI v2), (0, AR 2), (1, AI h), (2, AI x)]) dX1_lastAt_6 rfl (by decide) rfl ?_
  have J7 : ∀ (N : Nat) (k : Int), (-1 ≤ k ∧ k < hi 2 1) → (∀ z : Int, k < z → z < hi 2 1 → ¬ (nO (hi 2) z ≤ x ∧ al (hi 2) z h)) → ((k + 1).toNat) < N → Z kX1_lastAt Q 7 [(3, AI k), (0, AR 2), (1, AI h), (2, AI x)] [] hi := by
    intro N
    induction N with
    | zero => intro k _ _ _; exact absurd (by assumption) (Nat.not_lt_zero _)
    | succ N ih7 =>
      intro k i0 i1 hm7
      refine z_iload_n (pc := 7) dX1_lastAt_7 rfl 0 rfl ?_
      refine z_if_lt (pc := 8) (tgt := 37) dX1_lastAt_8 (by decide) ⟨by omega, by omega⟩ (fun c3 => ?_) (fun c3 => ?_)
      · refine z_iconst (pc := 37) (v := (-1)) dX1_lastAt_37 rfl ?_
        refine z_iret (pc := 38) rfl dX1_lastAt_38 ?_
        exact hQ (-1) (by first | exact Or.inr ⟨rfl, fun z h0 h1 => i1 z (by omega) h1⟩ | exact Or.inl ⟨by omega, by omega, by omega, i1⟩)
      · refine z_aload_n (pc := 11) (x := 2) dX1_lastAt_11 rfl 1 rfl ?_
        refine z_iload_n (pc := 12) dX1_lastAt_12 rfl 0 rfl ?_
        refine z_callV (pc := 13) (kc := kX1_numberOf) (n := 1) (pl := 1) (ci := 1) (C := RX1) (As := [AI k]) (stk := []) ct_X1_numberOf (gdV rfl rfl (iw7 _ (List.mem_of_getElem? (i := 5) rfl)) (iw7 _ (List.mem_of_getElem? (i := 6) rfl)) (iw7 _ (List.mem_of_getElem? (i := 7) rfl)) (iw1 _ (List.mem_of_getElem? (i := 15) rfl)) (iw7 _ (List.mem_of_getElem? (i := 8) rfl))) rfl ⟨rfl, rfl⟩ (by decide +kernel) ⟨by decide, by decide⟩ (by decide) rfl rfl dX1_lastAt_13 rfl rfl (Nat.le_of_ble_eq_true rfl) ?_
        refine ⟨_, rfl, by omega, fun v4 ev4 => ?_⟩
        refine z_iload_n (pc := 16) dX1_lastAt_16 rfl 3 rfl ?_
        refine z_icmp_gt (pc := 17) (tgt := 31) dX1_lastAt_17 (by decide) ⟨by omega, by omega⟩ ⟨by omega, by omega⟩ (fun c5 => ?_) (fun c5 => ?_)
        · refine z_iinc (pc := 31) (j := 0) (w := fun q => (3, AI q) :: [(0, AR 2), (1, AI h), (2, AI x)]) dX1_lastAt_31 rfl (by decide) (fun _ => rfl) (fun v6 ev6 => ?_)
          refine z_goto (pc := 34) (tgt := 7) dX1_lastAt_34 (by decide) ?_
          exact ih7 v6 (by omega) (nl_step i1 (by omega) (by omega)) (by omega)
        · refine z_aload_n (pc := 20) (x := 2) dX1_lastAt_20 rfl 1 rfl ?_
          refine z_iload_n (pc := 21) dX1_lastAt_21 rfl 0 rfl ?_
          refine z_iload_n (pc := 22) dX1_lastAt_22 rfl 2 rfl ?_
          refine z_callV (pc := 23) (kc := kX1_isAlive) (n := 2) (pl := 1) (ci := 1) (C := RX1) (As := [AI k, AI h]) (stk := []) ct_X1_isAlive (gdV rfl rfl (iw11 _ (List.mem_of_getElem? (i := 22) rfl)) (iw11 _ (List.mem_of_getElem? (i := 23) rfl)) (iw12 _ (List.mem_of_getElem? (i := 0) rfl)) (iw1 _ (List.mem_of_getElem? (i := 15) rfl)) (iw12 _ (List.mem_of_getElem? (i := 1) rfl))) rfl ⟨rfl, rfl⟩ (by decide +kernel) ⟨by decide, by decide⟩ (by decide) rfl rfl dX1_lastAt_23 rfl rfl (Nat.le_of_ble_eq_true rfl) ?_
          refine ⟨_, _, rfl, by omega, fun v7 ev7 => ?_⟩
          refine z_if_eq (pc := 26) (tgt := 31) dX1_lastAt_26 (by decide) ⟨by omega, by omega⟩ (fun c8 => ?_) (fun c8 => ?_)
          · refine z_iinc (pc := 31) (j := 0) (w := fun q => (3, AI q) :: [(0, AR 2), (1, AI h), (2, AI x)]) dX1_lastAt_31 rfl (by decide) (fun _ => rfl) (fun v9 ev9 => ?_)
            refine z_goto (pc := 34) (tgt := 7) dX1_lastAt_34 (by decide) ?_
            exact ih7 v9 (by omega) (nl_step i1 (by omega) (by omega)) (by omega)
          · refine z_iload_n (pc := 29) dX1_lastAt_29 rfl 0 rfl ?_
            refine z_iret (pc := 30) rfl dX1_lastAt_30 ?_
            exact hQ k (by first | exact Or.inr ⟨rfl, fun z h0 h1 => i1 z (by omega) h1⟩ | exact Or.inl ⟨by omega, by omega, by omega, i1⟩)
  exact J7 _ v2 (by omega) (fun z h0 h1 => by omega) (Nat.lt_succ_self _)

abbrev kX1_countAt : Kd := (cX1_countAt, .code yX1_countAt cX1_countAt 4 (some .int) :: wsL_law0, rmL 3, RX1, (some .int), 4)
theorem ct_X1_countAt : Ct kX1_countAt yX1_countAt (fun a hi Q => ∃ h : Int, a = [AR 2, AI h] ∧ ((0 ≤ hi 2 1 ∧ hi 2 1 ≤ 40) ∧ inR h) ∧ ∀ v : Int, (v = sm (fun z => if al (hi 2) z h then 1 else 0) (hi 2 1).toNat) → Q (AI v) hi) := by
  refine Ct.of (ws' := _) (by decide +kernel) rfl rfl ?_
  intro a hi Q hT
  obtain ⟨h, rfl, hpre, hQ⟩ := hT
  refine ⟨Nat.le_of_ble_eq_true rfl, ?_⟩
  show Z kX1_countAt Q 0 [(0, AR 2), (1, AI h)] [] hi
  refine z_iconst (pc := 0) (v := 0) dX1_countAt_0 rfl ?_
  refine z_istore_n (pc := 1) (lv' := [(2, AI 0), (0, AR 2), (1, AI h)]) dX1_countAt_1 rfl (by decide) rfl ?_
  refine z_iconst (pc := 2) (v := 0) dX1_countAt_2 rfl ?_
  refine z_istore_n (pc := 3) (lv' := [(3, AI 0), (2, AI 0), (0, AR 2), (1, AI h)]) dX1_countAt_3 rfl (by decide) rfl ?_
  have J4 : ∀ (N : Nat) (k acc : Int), (0 ≤ k ∧ k ≤ hi 2 1) → (acc = sm (fun z => if al (hi 2) z h then 1 else 0) k.toNat) → ((hi 2 1 - k).toNat) < N → Z kX1_countAt Q 4 [(3, AI k), (2, AI acc), (0, AR 2), (1, AI h)] [] hi := by
    intro N
    induction N with
    | zero => intro k acc _ _ _; exact absurd (by assumption) (Nat.not_lt_zero _)
    | succ N ih4 =>
      intro k acc i0 i1 hm4
      refine z_iload_n (pc := 4) dX1_countAt_4 rfl 0 rfl ?_
      refine z_aload_n (pc := 5) (x := 2) dX1_countAt_5 rfl 2 rfl ?_
      refine z_callV (pc := 6) (kc := kX1_size) (n := 0) (pl := 1) (ci := 1) (C := RX1) (As := []) (stk := [AI k]) ct_X1_size (gdV rfl rfl (iw7 _ (List.mem_of_getElem? (i := 1) rfl)) (iw7 _ (List.mem_of_getElem? (i := 2) rfl)) (iw7 _ (List.mem_of_getElem? (i := 3) rfl)) (iw1 _ (List.mem_of_getElem? (i := 15) rfl)) (iw7 _ (List.mem_of_getElem? (i := 4) rfl))) rfl ⟨rfl, rfl⟩ (by decide +kernel) ⟨by decide, by decide⟩ (by decide) rfl rfl dX1_countAt_6 rfl rfl (Nat.le_of_ble_eq_true rfl) ?_
      refine ⟨rfl, trivial, fun v1 ev1 => ?_⟩
      refine z_icmp_ge (pc := 9) (tgt := 30) dX1_countAt_9 (by decide) ⟨by omega, by omega⟩ ⟨by omega, by omega⟩ (fun c2 => ?_) (fun c2 => ?_)
      · refine z_iload_n (pc := 30) dX1_countAt_30 rfl 1 rfl ?_
        refine z_iret (pc := 31) rfl dX1_countAt_31 ?_
        exact hQ acc (by rw [i1, show k = hi 2 1 by omega])
      · refine z_aload_n (pc := 12) (x := 2) dX1_countAt_12 rfl 2 rfl ?_
        refine z_iload_n (pc := 13) dX1_countAt_13 rfl 0 rfl ?_
        refine z_iload_n (pc := 14) dX1_countAt_14 rfl 3 rfl ?_
        refine z_callV (pc := 15) (kc := kX1_isAlive) (n := 2) (pl := 1) (ci := 1) (C := RX1) (As := [AI k, AI h]) (stk := []) ct_X1_isAlive (gdV rfl rfl (iw11 _ (List.mem_of_getElem? (i := 22) rfl)) (iw11 _ (List.mem_of_getElem? (i := 23) rfl)) (iw12 _ (List.mem_of_getElem? (i := 0) rfl)) (iw1 _ (List.mem_of_getElem? (i := 15) rfl)) (iw12 _ (List.mem_of_getElem? (i := 1) rfl))) rfl ⟨rfl, rfl⟩ (by decide +kernel) ⟨by decide, by decide⟩ (by decide) rfl rfl dX1_countAt_15 rfl rfl (Nat.le_of_ble_eq_true rfl) ?_
        refine ⟨_, _, rfl, by omega, fun v3 ev3 => ?_⟩
        refine z_if_eq (pc := 18) (tgt := 24) dX1_countAt_18 (by decide) ⟨by omega, by omega⟩ (fun c4 => ?_) (fun c4 => ?_)
        · refine z_iinc (pc := 24) (j := 0) (w := fun q => (3, AI q) :: [(2, AI acc), (0, AR 2), (1, AI h)]) dX1_countAt_24 rfl (by decide) (fun _ => rfl) (fun v5 ev5 => ?_)
          refine z_goto (pc := 27) (tgt := 4) dX1_countAt_27 (by decide) ?_
          exact ih4 v5 acc (by omega) (sm_step (by omega) (by omega) i1 (by first | omega | (split <;> omega))) (by omega)
        · refine z_iinc (pc := 21) (j := 1) (w := fun q => (2, AI q) :: [(3, AI k), (0, AR 2), (1, AI h)]) dX1_countAt_21 rfl (by decide) (fun _ => rfl) (fun v6 ev6 => ?_)
          refine z_iinc (pc := 24) (j := 1) (w := fun q => (3, AI q) :: [(2, AI v6), (0, AR 2), (1, AI h)]) dX1_countAt_24 rfl (by decide) (fun _ => rfl) (fun v7 ev7 => ?_)
          refine z_goto (pc := 27) (tgt := 4) dX1_countAt_27 (by decide) ?_
          exact ih4 v7 v6 (by omega) (sm_step (by omega) (by omega) i1 (by first | omega | (split <;> omega))) (by omega)
  exact J4 _ 0 0 (by omega) (sm_0 rfl rfl) (Nat.lt_succ_self _)

abbrev kX1_worthsAt : Kd := (cX1_worthsAt, .code yX1_worthsAt cX1_worthsAt 6 (some .int) :: wsL_law0, rmL 3, RX1, (some .int), 6)
theorem ct_X1_worthsAt : Ct kX1_worthsAt yX1_worthsAt (fun a hi Q => ∃ h : Int, ∃ x : Int, ∃ y : Int, a = [AR 2, AI h, AI x, AI y] ∧ ((0 ≤ hi 2 1 ∧ hi 2 1 ≤ 40) ∧ inR h ∧ inR x ∧ inR y) ∧ ∀ v : Int, (v = sm (fun z => if al (hi 2) z h ∧ x ≤ nO (hi 2) z ∧ nO (hi 2) z ≤ y then wO (hi 2) z else 0) (hi 2 1).toNat) → Q (AI v) hi) := by
  refine Ct.of (ws' := _) (by decide +kernel) rfl rfl ?_
  intro a hi Q hT
  obtain ⟨h, x, y, rfl, hpre, hQ⟩ := hT
  refine ⟨Nat.le_of_ble_eq_true rfl, ?_⟩
  show Z kX1_worthsAt Q 0 [(0, AR 2), (1, AI h), (2, AI x), (3, AI y)] [] hi
  refine z_iconst (pc := 0) (v := 0) dX1_worthsAt_0 rfl ?_
  refine z_istore (pc := 1) (lv' := [(4, AI 0), (0, AR 2), (1, AI h), (2, AI x), (3, AI y)]) dX1_worthsAt_1 (by decide) rfl ?_
  refine z_iconst (pc := 3) (v := 0) dX1_worthsAt_3 rfl ?_
  refine z_istore (pc := 4) (lv' := [(5, AI 0), (4, AI 0), (0, AR 2), (1, AI h), (2, AI x), (3, AI y)]) dX1_worthsAt_4 (by decide) rfl ?_
  have J6 : ∀ (N : Nat) (k acc : Int), (0 ≤ k ∧ k ≤ hi 2 1) → (acc = sm (fun z => if al (hi 2) z h ∧ x ≤ nO (hi 2) z ∧ nO (hi 2) z ≤ y then wO (hi 2) z else 0) k.toNat) → ((hi 2 1 - k).toNat) < N → Z kX1_worthsAt Q 6 [(5, AI k), (4, AI acc), (0, AR 2), (1, AI h), (2, AI x), (3, AI y)] [] hi := by
    intro N
    induction N with
    | zero => intro k acc _ _ _; exact absurd (by assumption) (Nat.not_lt_zero _)
    | succ N ih6 =>
      intro k acc i0 i1 hm6
      refine z_iload (pc := 6) dX1_worthsAt_6 0 rfl ?_
      refine z_aload_n (pc := 8) (x := 2) dX1_worthsAt_8 rfl 2 rfl ?_
      refine z_callV (pc := 9) (kc := kX1_size) (n := 0) (pl := 1) (ci := 1) (C := RX1) (As := []) (stk := [AI k]) ct_X1_size (gdV rfl rfl (iw7 _ (List.mem_of_getElem? (i := 1) rfl)) (iw7 _ (List.mem_of_getElem? (i := 2) rfl)) (iw7 _ (List.mem_of_getElem? (i := 3) rfl)) (iw1 _ (List.mem_of_getElem? (i := 15) rfl)) (iw7 _ (List.mem_of_getElem? (i := 4) rfl))) rfl ⟨rfl, rfl⟩ (by decide +kernel) ⟨by decide, by decide⟩ (by decide) rfl rfl dX1_worthsAt_9 rfl rfl (Nat.le_of_ble_eq_true rfl) ?_
      refine ⟨rfl, trivial, fun v1 ev1 => ?_⟩
      refine z_icmp_ge (pc := 12) (tgt := 62) dX1_worthsAt_12 (by decide) ⟨by omega, by omega⟩ ⟨by omega, by omega⟩ (fun c2 => ?_) (fun c2 => ?_)
      · refine z_iload (pc := 62) dX1_worthsAt_62 1 rfl ?_
        refine z_iret (pc := 64) rfl dX1_worthsAt_64 ?_
        exact hQ acc (by rw [i1, show k = hi 2 1 by omega])
      · refine z_aload_n (pc := 15) (x := 2) dX1_worthsAt_15 rfl 2 rfl ?_
        refine z_iload (pc := 16) dX1_worthsAt_16 0 rfl ?_
        refine z_iload_n (pc := 18) dX1_worthsAt_18 rfl 3 rfl ?_
        refine z_callV (pc := 19) (kc := kX1_isAlive) (n := 2) (pl := 1) (ci := 1) (C := RX1) (As := [AI k, AI h]) (stk := []) ct_X1_isAlive (gdV rfl rfl (iw11 _ (List.mem_of_getElem? (i := 22) rfl)) (iw11 _ (List.mem_of_getElem? (i := 23) rfl)) (iw12 _ (List.mem_of_getElem? (i := 0) rfl)) (iw1 _ (List.mem_of_getElem? (i := 15) rfl)) (iw12 _ (List.mem_of_getElem? (i := 1) rfl))) rfl ⟨rfl, rfl⟩ (by decide +kernel) ⟨by decide, by decide⟩ (by decide) rfl rfl dX1_worthsAt_19 rfl rfl (Nat.le_of_ble_eq_true rfl) ?_
        refine ⟨_, _, rfl, by omega, fun v3 ev3 => ?_⟩
        refine z_if_eq (pc := 22) (tgt := 56) dX1_worthsAt_22 (by decide) ⟨by omega, by omega⟩ (fun c4 => ?_) (fun c4 => ?_)
        · refine z_iinc (pc := 56) (j := 0) (w := fun q => (5, AI q) :: [(4, AI acc), (0, AR 2), (1, AI h), (2, AI x), (3, AI y)]) dX1_worthsAt_56 rfl (by decide) (fun _ => rfl) (fun v5 ev5 => ?_)
          refine z_goto (pc := 59) (tgt := 6) dX1_worthsAt_59 (by decide) ?_
          exact ih6 v5 acc (by omega) (sm_step (by omega) (by omega) i1 (by first | omega | (split <;> omega))) (by omega)
        · refine z_aload_n (pc := 25) (x := 2) dX1_worthsAt_25 rfl 2 rfl ?_
          refine z_iload (pc := 26) dX1_worthsAt_26 0 rfl ?_
          refine z_callV (pc := 28) (kc := kX1_numberOf) (n := 1) (pl := 1) (ci := 1) (C := RX1) (As := [AI k]) (stk := []) ct_X1_numberOf (gdV rfl rfl (iw7 _ (List.mem_of_getElem? (i := 5) rfl)) (iw7 _ (List.mem_of_getElem? (i := 6) rfl)) (iw7 _ (List.mem_of_getElem? (i := 7) rfl)) (iw1 _ (List.mem_of_getElem? (i := 15) rfl)) (iw7 _ (List.mem_of_getElem? (i := 8) rfl))) rfl ⟨rfl, rfl⟩ (by decide +kernel) ⟨by decide, by decide⟩ (by decide) rfl rfl dX1_worthsAt_28 rfl rfl (Nat.le_of_ble_eq_true rfl) ?_
          refine ⟨_, rfl, by omega, fun v6 ev6 => ?_⟩
          refine z_iload_n (pc := 31) dX1_worthsAt_31 rfl 4 rfl ?_
          refine z_icmp_lt (pc := 32) (tgt := 56) dX1_worthsAt_32 (by decide) ⟨by omega, by omega⟩ ⟨by omega, by omega⟩ (fun c7 => ?_) (fun c7 => ?_)
          · refine z_iinc (pc := 56) (j := 0) (w := fun q => (5, AI q) :: [(4, AI acc), (0, AR 2), (1, AI h), (2, AI x), (3, AI y)]) dX1_worthsAt_56 rfl (by decide) (fun _ => rfl) (fun v8 ev8 => ?_)
            refine z_goto (pc := 59) (tgt := 6) dX1_worthsAt_59 (by decide) ?_
            exact ih6 v8 acc (by omega) (sm_step (by omega) (by omega) i1 (by first | omega | (split <;> omega))) (by omega)
          · refine z_aload_n (pc := 35) (x := 2) dX1_worthsAt_35 rfl 2 rfl ?_
            refine z_iload (pc := 36) dX1_worthsAt_36 0 rfl ?_
            refine z_callV (pc := 38) (kc := kX1_numberOf) (n := 1) (pl := 1) (ci := 1) (C := RX1) (As := [AI k]) (stk := []) ct_X1_numberOf (gdV rfl rfl (iw7 _ (List.mem_of_getElem? (i := 5) rfl)) (iw7 _ (List.mem_of_getElem? (i := 6) rfl)) (iw7 _ (List.mem_of_getElem? (i := 7) rfl)) (iw1 _ (List.mem_of_getElem? (i := 15) rfl)) (iw7 _ (List.mem_of_getElem? (i := 8) rfl))) rfl ⟨rfl, rfl⟩ (by decide +kernel) ⟨by decide, by decide⟩ (by decide) rfl rfl dX1_worthsAt_38 rfl rfl (Nat.le_of_ble_eq_true rfl) ?_
            refine ⟨_, rfl, by omega, fun v9 ev9 => ?_⟩
            refine z_iload_n (pc := 41) dX1_worthsAt_41 rfl 5 rfl ?_
            refine z_icmp_gt (pc := 42) (tgt := 56) dX1_worthsAt_42 (by decide) ⟨by omega, by omega⟩ ⟨by omega, by omega⟩ (fun c10 => ?_) (fun c10 => ?_)
            · refine z_iinc (pc := 56) (j := 0) (w := fun q => (5, AI q) :: [(4, AI acc), (0, AR 2), (1, AI h), (2, AI x), (3, AI y)]) dX1_worthsAt_56 rfl (by decide) (fun _ => rfl) (fun v11 ev11 => ?_)
              refine z_goto (pc := 59) (tgt := 6) dX1_worthsAt_59 (by decide) ?_
              exact ih6 v11 acc (by omega) (sm_step (by omega) (by omega) i1 (by first | omega | (split <;> omega))) (by omega)
            · refine z_iload (pc := 45) dX1_worthsAt_45 1 rfl ?_
              refine z_aload_n (pc := 47) (x := 2) dX1_worthsAt_47 rfl 2 rfl ?_
              refine z_iload (pc := 48) dX1_worthsAt_48 0 rfl ?_
              refine z_callV (pc := 50) (kc := kX1_worthOf) (n := 1) (pl := 1) (ci := 1) (C := RX1) (As := [AI k]) (stk := [AI acc]) ct_X1_worthOf (gdV rfl rfl (iw34 _ (List.mem_of_getElem? (i := 22) rfl)) (iw12 _ (List.mem_of_getElem? (i := 9) rfl)) (iw12 _ (List.mem_of_getElem? (i := 10) rfl)) (iw1 _ (List.mem_of_getElem? (i := 15) rfl)) (iw12 _ (List.mem_of_getElem? (i := 11) rfl))) rfl ⟨rfl, rfl⟩ (by decide +kernel) ⟨by decide, by decide⟩ (by decide) rfl rfl dX1_worthsAt_50 rfl rfl (Nat.le_of_ble_eq_true rfl) ?_
              refine ⟨_, rfl, by omega, fun v12 ev12 => ?_⟩
              refine z_iadd (pc := 53) dX1_worthsAt_53 (fun v13 ev13 => ?_)
              refine z_istore (pc := 54) (lv' := [(4, AI v13), (5, AI k), (0, AR 2), (1, AI h), (2, AI x), (3, AI y)]) dX1_worthsAt_54 (by decide) rfl ?_
              refine z_iinc (pc := 56) (j := 1) (w := fun q => (5, AI q) :: [(4, AI v13), (0, AR 2), (1, AI h), (2, AI x), (3, AI y)]) dX1_worthsAt_56 rfl (by decide) (fun _ => rfl) (fun v14 ev14 => ?_)
              refine z_goto (pc := 59) (tgt := 6) dX1_worthsAt_59 (by decide) ?_
              exact ih6 v14 v13 (by omega) (sm_step (by omega) (by omega) i1 (by first | omega | (split <;> omega))) (by omega)
  exact J6 _ 0 0 (by omega) (sm_0 rfl rfl) (Nat.lt_succ_self _)

abbrev kX1_countNumbers : Kd := (cX1_countNumbers, .code yX1_countNumbers cX1_countNumbers 3 (some .int) :: wsL_law0, rmL 2, RX1, (some .int), 3)
theorem ct_X1_countNumbers : Ct kX1_countNumbers yX1_countNumbers (fun a hi Q => a = [AR 2] ∧ ((0 ≤ hi 2 1 ∧ hi 2 1 ≤ 40)) ∧ ∀ v : Int, (v = sm (fun z => if z = 0 ∨ nO (hi 2) z ≠ nO (hi 2) (z - 1) then 1 else 0) (hi 2 1).toNat) → Q (AI v) hi) := by
  refine Ct.of (ws' := _) (by decide +kernel) rfl rfl ?_
  intro a hi Q hT
  obtain ⟨rfl, hpre, hQ⟩ := hT
  refine ⟨Nat.le_of_ble_eq_true rfl, ?_⟩
  show Z kX1_countNumbers Q 0 [(0, AR 2)] [] hi
  refine z_iconst (pc := 0) (v := 0) dX1_countNumbers_0 rfl ?_
  refine z_istore_n (pc := 1) (lv' := [(1, AI 0), (0, AR 2)]) dX1_countNumbers_1 rfl (by decide) rfl ?_
  refine z_iconst (pc := 2) (v := 0) dX1_countNumbers_2 rfl ?_
  refine z_istore_n (pc := 3) (lv' := [(2, AI 0), (1, AI 0), (0, AR 2)]) dX1_countNumbers_3 rfl (by decide) rfl ?_
  have J4 : ∀ (N : Nat) (k acc : Int), (0 ≤ k ∧ k ≤ hi 2 1) → (acc = sm (fun z => if z = 0 ∨ nO (hi 2) z ≠ nO (hi 2) (z - 1) then 1 else 0) k.toNat) → ((hi 2 1 - k).toNat) < N → Z kX1_countNumbers Q 4 [(2, AI k), (1, AI acc), (0, AR 2)] [] hi := by
    intro N
    induction N with
    | zero => intro k acc _ _ _; exact absurd (by assumption) (Nat.not_lt_zero _)
    | succ N ih4 =>
      intro k acc i0 i1 hm4
      refine z_iload_n (pc := 4) dX1_countNumbers_4 rfl 0 rfl ?_
      refine z_aload_n (pc := 5) (x := 2) dX1_countNumbers_5 rfl 2 rfl ?_
      refine z_callV (pc := 6) (kc := kX1_size) (n := 0) (pl := 1) (ci := 1) (C := RX1) (As := []) (stk := [AI k]) ct_X1_size (gdV rfl rfl (iw7 _ (List.mem_of_getElem? (i := 1) rfl)) (iw7 _ (List.mem_of_getElem? (i := 2) rfl)) (iw7 _ (List.mem_of_getElem? (i := 3) rfl)) (iw1 _ (List.mem_of_getElem? (i := 15) rfl)) (iw7 _ (List.mem_of_getElem? (i := 4) rfl))) rfl ⟨rfl, rfl⟩ (by decide +kernel) ⟨by decide, by decide⟩ (by decide) rfl rfl dX1_countNumbers_6 rfl rfl (Nat.le_of_ble_eq_true rfl) ?_
      refine ⟨rfl, trivial, fun v1 ev1 => ?_⟩
      refine z_icmp_ge (pc := 9) (tgt := 40) dX1_countNumbers_9 (by decide) ⟨by omega, by omega⟩ ⟨by omega, by omega⟩ (fun c2 => ?_) (fun c2 => ?_)
      · refine z_iload_n (pc := 40) dX1_countNumbers_40 rfl 1 rfl ?_
        refine z_iret (pc := 41) rfl dX1_countNumbers_41 ?_
        exact hQ acc (by rw [i1, show k = hi 2 1 by omega])
      · refine z_iload_n (pc := 12) dX1_countNumbers_12 rfl 0 rfl ?_
        refine z_if_eq (pc := 13) (tgt := 31) dX1_countNumbers_13 (by decide) ⟨by omega, by omega⟩ (fun c3 => ?_) (fun c3 => ?_)
        · refine z_iinc (pc := 31) (j := 1) (w := fun q => (1, AI q) :: [(2, AI k), (0, AR 2)]) dX1_countNumbers_31 rfl (by decide) (fun _ => rfl) (fun v4 ev4 => ?_)
          refine z_iinc (pc := 34) (j := 1) (w := fun q => (2, AI q) :: [(1, AI v4), (0, AR 2)]) dX1_countNumbers_34 rfl (by decide) (fun _ => rfl) (fun v5 ev5 => ?_)
          refine z_goto (pc := 37) (tgt := 4) dX1_countNumbers_37 (by decide) ?_
          exact ih4 v5 v4 (by omega) (sm_step (by omega) (by omega) i1 (by first | omega | (split <;> omega))) (by omega)
        · refine z_aload_n (pc := 16) (x := 2) dX1_countNumbers_16 rfl 2 rfl ?_
          refine z_iload_n (pc := 17) dX1_countNumbers_17 rfl 0 rfl ?_
          refine z_callV (pc := 18) (kc := kX1_numberOf) (n := 1) (pl := 1) (ci := 1) (C := RX1) (As := [AI k]) (stk := []) ct_X1_numberOf (gdV rfl rfl (iw7 _ (List.mem_of_getElem? (i := 5) rfl)) (iw7 _ (List.mem_of_getElem? (i := 6) rfl)) (iw7 _ (List.mem_of_getElem? (i := 7) rfl)) (iw1 _ (List.mem_of_getElem? (i := 15) rfl)) (iw7 _ (List.mem_of_getElem? (i := 8) rfl))) rfl ⟨rfl, rfl⟩ (by decide +kernel) ⟨by decide, by decide⟩ (by decide) rfl rfl dX1_countNumbers_18 rfl rfl (Nat.le_of_ble_eq_true rfl) ?_
          refine ⟨_, rfl, by omega, fun v6 ev6 => ?_⟩
          refine z_aload_n (pc := 21) (x := 2) dX1_countNumbers_21 rfl 2 rfl ?_
          refine z_iload_n (pc := 22) dX1_countNumbers_22 rfl 0 rfl ?_
          refine z_iconst (pc := 23) (v := 1) dX1_countNumbers_23 rfl ?_
          refine z_isub (pc := 24) dX1_countNumbers_24 (fun v7 ev7 => ?_)
          refine z_callV (pc := 25) (kc := kX1_numberOf) (n := 1) (pl := 1) (ci := 1) (C := RX1) (As := [AI v7]) (stk := [AI v6]) ct_X1_numberOf (gdV rfl rfl (iw7 _ (List.mem_of_getElem? (i := 5) rfl)) (iw7 _ (List.mem_of_getElem? (i := 6) rfl)) (iw7 _ (List.mem_of_getElem? (i := 7) rfl)) (iw1 _ (List.mem_of_getElem? (i := 15) rfl)) (iw7 _ (List.mem_of_getElem? (i := 8) rfl))) rfl ⟨rfl, rfl⟩ (by decide +kernel) ⟨by decide, by decide⟩ (by decide) rfl rfl dX1_countNumbers_25 rfl rfl (Nat.le_of_ble_eq_true rfl) ?_
          refine ⟨_, rfl, by omega, fun v8 ev8 => ?_⟩
          rw [show v7 = k - 1 by omega] at ev8
          refine z_icmp_eq (pc := 28) (tgt := 34) dX1_countNumbers_28 (by decide) ⟨by omega, by omega⟩ ⟨by omega, by omega⟩ (fun c9 => ?_) (fun c9 => ?_)
          · refine z_iinc (pc := 34) (j := 0) (w := fun q => (2, AI q) :: [(1, AI acc), (0, AR 2)]) dX1_countNumbers_34 rfl (by decide) (fun _ => rfl) (fun v10 ev10 => ?_)
            refine z_goto (pc := 37) (tgt := 4) dX1_countNumbers_37 (by decide) ?_
            exact ih4 v10 acc (by omega) (sm_step (by omega) (by omega) i1 (by first | omega | (split <;> omega))) (by omega)
          · refine z_iinc (pc := 31) (j := 1) (w := fun q => (1, AI q) :: [(2, AI k), (0, AR 2)]) dX1_countNumbers_31 rfl (by decide) (fun _ => rfl) (fun v11 ev11 => ?_)
            refine z_iinc (pc := 34) (j := 1) (w := fun q => (2, AI q) :: [(1, AI v11), (0, AR 2)]) dX1_countNumbers_34 rfl (by decide) (fun _ => rfl) (fun v12 ev12 => ?_)
            refine z_goto (pc := 37) (tgt := 4) dX1_countNumbers_37 (by decide) ?_
            exact ih4 v12 v11 (by omega) (sm_step (by omega) (by omega) i1 (by first | omega | (split <;> omega))) (by omega)
  exact J4 _ 0 0 (by omega) (sm_0 rfl rfl) (Nat.lt_succ_self _)
