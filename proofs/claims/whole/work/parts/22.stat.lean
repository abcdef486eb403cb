abbrev kX7_isNumber : Kd := (cX7_isNumber, .code yX7_isNumber cX7_isNumber 1 (some .boolean) :: wsL_law0, rmL 1, RX7, (some .boolean), 1)
theorem ct_X7_isNumber : Ct kX7_isNumber yX7_isNumber (fun a hi Q => ∃ x : Int, a = [AI x] ∧ (inR x) ∧ ∀ v : Int, ((v = 1 ∧ 0 ≤ x ∧ x ≤ 999) ∨ (v = 0 ∧ ¬ (0 ≤ x ∧ x ≤ 999))) → Q (AI v) hi) := by
  refine Ct.of (ws' := _) (by decide +kernel) rfl rfl ?_
  intro a hi Q hT
  obtain ⟨x, rfl, hpre, hQ⟩ := hT
  refine ⟨Nat.le_of_ble_eq_true rfl, ?_⟩
  show Z kX7_isNumber Q 0 [(0, AI x)] [] hi
  refine z_iload_n (pc := 0) dX7_isNumber_0 rfl 0 rfl ?_
  refine z_if_lt (pc := 1) (tgt := 15) dX7_isNumber_1 (by decide) ⟨by omega, by omega⟩ (fun c1 => ?_) (fun c1 => ?_)
  · refine z_iconst (pc := 15) (v := 0) dX7_isNumber_15 rfl ?_
    refine z_zret (pc := 16) rfl (by decide) dX7_isNumber_16 ?_
    exact hQ 0 (by omega)
  · refine z_iload_n (pc := 4) dX7_isNumber_4 rfl 0 rfl ?_
    refine z_sipush (pc := 5) (v := 999) dX7_isNumber_5 (by decide +kernel) ?_
    refine z_icmp_gt (pc := 8) (tgt := 15) dX7_isNumber_8 (by decide) ⟨by omega, by omega⟩ ⟨by decide, by decide⟩ (fun c2 => ?_) (fun c2 => ?_)
    · refine z_iconst (pc := 15) (v := 0) dX7_isNumber_15 rfl ?_
      refine z_zret (pc := 16) rfl (by decide) dX7_isNumber_16 ?_
      exact hQ 0 (by omega)
    · refine z_iconst (pc := 11) (v := 1) dX7_isNumber_11 rfl ?_
      refine z_goto (pc := 12) (tgt := 16) dX7_isNumber_12 (by decide) ?_
      refine z_zret (pc := 16) rfl (by decide) dX7_isNumber_16 ?_
      exact hQ 1 (by omega)

abbrev kX7_isHour : Kd := (cX7_isHour, .code yX7_isHour cX7_isHour 1 (some .boolean) :: wsL_law0, rmL 1, RX7, (some .boolean), 1)
theorem ct_X7_isHour : Ct kX7_isHour yX7_isHour (fun a hi Q => ∃ x : Int, a = [AI x] ∧ (inR x) ∧ ∀ v : Int, ((v = 1 ∧ 0 ≤ x ∧ x < 64) ∨ (v = 0 ∧ ¬ (0 ≤ x ∧ x < 64))) → Q (AI v) hi) := by
  refine Ct.of (ws' := _) (by decide +kernel) rfl rfl ?_
  intro a hi Q hT
  obtain ⟨x, rfl, hpre, hQ⟩ := hT
  refine ⟨Nat.le_of_ble_eq_true rfl, ?_⟩
  show Z kX7_isHour Q 0 [(0, AI x)] [] hi
  refine z_iload_n (pc := 0) dX7_isHour_0 rfl 0 rfl ?_
  refine z_if_lt (pc := 1) (tgt := 14) dX7_isHour_1 (by decide) ⟨by omega, by omega⟩ (fun c1 => ?_) (fun c1 => ?_)
  · refine z_iconst (pc := 14) (v := 0) dX7_isHour_14 rfl ?_
    refine z_zret (pc := 15) rfl (by decide) dX7_isHour_15 ?_
    exact hQ 0 (by omega)
  · refine z_iload_n (pc := 4) dX7_isHour_4 rfl 0 rfl ?_
    refine z_bipush (pc := 5) (v := 64) dX7_isHour_5 (by decide +kernel) ?_
    refine z_icmp_ge (pc := 7) (tgt := 14) dX7_isHour_7 (by decide) ⟨by omega, by omega⟩ ⟨by decide, by decide⟩ (fun c2 => ?_) (fun c2 => ?_)
    · refine z_iconst (pc := 14) (v := 0) dX7_isHour_14 rfl ?_
      refine z_zret (pc := 15) rfl (by decide) dX7_isHour_15 ?_
      exact hQ 0 (by omega)
    · refine z_iconst (pc := 10) (v := 1) dX7_isHour_10 rfl ?_
      refine z_goto (pc := 11) (tgt := 15) dX7_isHour_11 (by decide) ?_
      refine z_zret (pc := 15) rfl (by decide) dX7_isHour_15 ?_
      exact hQ 1 (by omega)

abbrev kX7_isWorth : Kd := (cX7_isWorth, .code yX7_isWorth cX7_isWorth 1 (some .boolean) :: wsL_law0, rmL 1, RX7, (some .boolean), 1)
theorem ct_X7_isWorth : Ct kX7_isWorth yX7_isWorth (fun a hi Q => ∃ x : Int, a = [AI x] ∧ (inR x) ∧ ∀ v : Int, ((v = 1 ∧ 0 ≤ x ∧ x ≤ 99) ∨ (v = 0 ∧ ¬ (0 ≤ x ∧ x ≤ 99))) → Q (AI v) hi) := by
  refine Ct.of (ws' := _) (by decide +kernel) rfl rfl ?_
  intro a hi Q hT
  obtain ⟨x, rfl, hpre, hQ⟩ := hT
  refine ⟨Nat.le_of_ble_eq_true rfl, ?_⟩
  show Z kX7_isWorth Q 0 [(0, AI x)] [] hi
  refine z_iload_n (pc := 0) dX7_isWorth_0 rfl 0 rfl ?_
  refine z_if_lt (pc := 1) (tgt := 14) dX7_isWorth_1 (by decide) ⟨by omega, by omega⟩ (fun c1 => ?_) (fun c1 => ?_)
  · refine z_iconst (pc := 14) (v := 0) dX7_isWorth_14 rfl ?_
    refine z_zret (pc := 15) rfl (by decide) dX7_isWorth_15 ?_
    exact hQ 0 (by omega)
  · refine z_iload_n (pc := 4) dX7_isWorth_4 rfl 0 rfl ?_
    refine z_bipush (pc := 5) (v := 99) dX7_isWorth_5 (by decide +kernel) ?_
    refine z_icmp_gt (pc := 7) (tgt := 14) dX7_isWorth_7 (by decide) ⟨by omega, by omega⟩ ⟨by decide, by decide⟩ (fun c2 => ?_) (fun c2 => ?_)
    · refine z_iconst (pc := 14) (v := 0) dX7_isWorth_14 rfl ?_
      refine z_zret (pc := 15) rfl (by decide) dX7_isWorth_15 ?_
      exact hQ 0 (by omega)
    · refine z_iconst (pc := 10) (v := 1) dX7_isWorth_10 rfl ?_
      refine z_goto (pc := 11) (tgt := 15) dX7_isWorth_11 (by decide) ?_
      refine z_zret (pc := 15) rfl (by decide) dX7_isWorth_15 ?_
      exact hQ 1 (by omega)

abbrev kX7_isPiece : Kd := (cX7_isPiece, .code yX7_isPiece cX7_isPiece 1 (some .boolean) :: wsL_law0, rmL 1, RX7, (some .boolean), 1)
theorem ct_X7_isPiece : Ct kX7_isPiece yX7_isPiece (fun a hi Q => ∃ x : Int, a = [AI x] ∧ (inR x) ∧ ∀ v : Int, ((v = 1 ∧ 1 ≤ x ∧ x ≤ 127) ∨ (v = 0 ∧ ¬ (1 ≤ x ∧ x ≤ 127))) → Q (AI v) hi) := by
  refine Ct.of (ws' := _) (by decide +kernel) rfl rfl ?_
  intro a hi Q hT
  obtain ⟨x, rfl, hpre, hQ⟩ := hT
  refine ⟨Nat.le_of_ble_eq_true rfl, ?_⟩
  show Z kX7_isPiece Q 0 [(0, AI x)] [] hi
  refine z_iload_n (pc := 0) dX7_isPiece_0 rfl 0 rfl ?_
  refine z_iconst (pc := 1) (v := 1) dX7_isPiece_1 rfl ?_
  refine z_icmp_lt (pc := 2) (tgt := 15) dX7_isPiece_2 (by decide) ⟨by omega, by omega⟩ ⟨by decide, by decide⟩ (fun c1 => ?_) (fun c1 => ?_)
  · refine z_iconst (pc := 15) (v := 0) dX7_isPiece_15 rfl ?_
    refine z_zret (pc := 16) rfl (by decide) dX7_isPiece_16 ?_
    exact hQ 0 (by omega)
  · refine z_iload_n (pc := 5) dX7_isPiece_5 rfl 0 rfl ?_
    refine z_bipush (pc := 6) (v := 127) dX7_isPiece_6 (by decide +kernel) ?_
    refine z_icmp_gt (pc := 8) (tgt := 15) dX7_isPiece_8 (by decide) ⟨by omega, by omega⟩ ⟨by decide, by decide⟩ (fun c2 => ?_) (fun c2 => ?_)
    · refine z_iconst (pc := 15) (v := 0) dX7_isPiece_15 rfl ?_
      refine z_zret (pc := 16) rfl (by decide) dX7_isPiece_16 ?_
      exact hQ 0 (by omega)
    · refine z_iconst (pc := 11) (v := 1) dX7_isPiece_11 rfl ?_
      refine z_goto (pc := 12) (tgt := 16) dX7_isPiece_12 (by decide) ?_
      refine z_zret (pc := 16) rfl (by decide) dX7_isPiece_16 ?_
      exact hQ 1 (by omega)

abbrev kX7_hoursFrom : Kd := (cX7_hoursFrom, .code yX7_hoursFrom cX7_hoursFrom 2 (some .long) :: wsL_law0, rmL 1, RX7, (some .long), 2)
theorem ct_X7_hoursFrom : Ct kX7_hoursFrom yX7_hoursFrom (fun a hi Q => ∃ b : Int, ∃ d : Int, a = [AI b, AI d] ∧ ((0 ≤ b ∧ b < 64) ∧ 0 ≤ d ∧ d ≤ 64) ∧ ∀ v : Int, (inL v ∧ ∀ h : Int, 0 ≤ h → h < 64 → (bit v h ↔ (b ≤ h ∧ h < d))) → Q (AL v) hi) := by
  refine Ct.of (ws' := _) (by decide +kernel) rfl rfl ?_
  intro a hi Q hT
  obtain ⟨b, d, rfl, hpre, hQ⟩ := hT
  refine ⟨Nat.le_of_ble_eq_true rfl, ?_⟩
  show Z kX7_hoursFrom Q 0 [(0, AI b), (1, AI d)] [] hi
  refine z_iload_n (pc := 0) dX7_hoursFrom_0 rfl 1 rfl ?_
  refine z_iload_n (pc := 1) dX7_hoursFrom_1 rfl 0 rfl ?_
  refine z_icmp_gt (pc := 2) (tgt := 9) dX7_hoursFrom_2 (by decide) ⟨by omega, by omega⟩ ⟨by omega, by omega⟩ (fun c1 => ?_) (fun c1 => ?_)
  · refine z_ldc2 (pc := 9) (v := (-1)) (x := (-1)) (List.mem_cons_of_mem _ (iw6 _ (List.mem_of_getElem? (i := 20) rfl))) (by decide +kernel) dX7_hoursFrom_9 ?_
    refine z_bipush (pc := 12) (v := 64) dX7_hoursFrom_12 (by decide +kernel) ?_
    refine z_iload_n (pc := 14) dX7_hoursFrom_14 rfl 1 rfl ?_
    refine z_iload_n (pc := 15) dX7_hoursFrom_15 rfl 0 rfl ?_
    refine z_isub (pc := 16) dX7_hoursFrom_16 (fun v2 ev2 => ?_)
    refine z_isub (pc := 17) dX7_hoursFrom_17 (fun v3 ev3 => ?_)
    refine z_lushr (pc := 18) dX7_hoursFrom_18 (fun v4 ev4 => ?_)
    refine z_iload_n (pc := 19) dX7_hoursFrom_19 rfl 0 rfl ?_
    refine z_lshl (pc := 20) dX7_hoursFrom_20 (fun v5 ev5 => ?_)
    refine z_lret (pc := 21) rfl dX7_hoursFrom_21 ?_
    exact hQ v5 (by first | exact ⟨⟨by decide, by decide⟩, fun h h0 h1 => ⟨fun q => absurd q bit_0, fun q => by omega⟩⟩ | (refine ⟨by rw [ev5]; exact toInt_inL _, fun h h0 h1 => hours_bits (by omega) (by omega) (by omega) (by assumption) (by omega) (by assumption) h h0 h1⟩))
  · refine z_lconst (pc := 5) (v := 0) dX7_hoursFrom_5 (by decide +kernel) ?_
    refine z_goto (pc := 6) (tgt := 21) dX7_hoursFrom_6 (by decide) ?_
    refine z_lret (pc := 21) rfl dX7_hoursFrom_21 ?_
    exact hQ 0 (by first | exact ⟨⟨by decide, by decide⟩, fun h h0 h1 => ⟨fun q => absurd q bit_0, fun q => by omega⟩⟩ | (refine ⟨by rw [e0]; exact toInt_inL _, fun h h0 h1 => hours_bits (by omega) (by omega) (by omega) (by assumption) (by omega) (by assumption) h h0 h1⟩))

abbrev kX7_isWithin : Kd := (cX7_isWithin, .code yX7_isWithin cX7_isWithin 6 (some .boolean) :: wsL_law0, rmL 1, RX7, (some .boolean), 6)
theorem ct_X7_isWithin : Ct kX7_isWithin yX7_isWithin (fun a hi Q => ∃ p : Int, ∃ b : Int, ∃ d : Int, a = [AI p, AI b, AI d] ∧ ((1 ≤ p ∧ p ≤ 127) ∧ inR b ∧ inR d) ∧ ∀ v : Int, ((v = 1 ∧ inP p b d) ∨ (v = 0 ∧ ¬ inP p b d)) → Q (AI v) hi) := by
  refine Ct.of (ws' := _) (by decide +kernel) rfl rfl ?_
  intro a hi Q hT
  obtain ⟨p, b, d, rfl, hpre, hQ⟩ := hT
  refine ⟨Nat.le_of_ble_eq_true rfl, ?_⟩
  show Z kX7_isWithin Q 0 [(0, AI p), (1, AI b), (2, AI d)] [] hi
  refine z_iload_n (pc := 0) dX7_isWithin_0 rfl 0 rfl ?_
  refine z_istore_n (pc := 1) (lv' := [(3, AI p), (0, AI p), (1, AI b), (2, AI d)]) dX7_isWithin_1 rfl (by decide) rfl ?_
  refine z_iload_n (pc := 2) dX7_isWithin_2 rfl 1 rfl ?_
  refine z_istore (pc := 3) (lv' := [(4, AI p), (3, AI p), (0, AI p), (1, AI b), (2, AI d)]) dX7_isWithin_3 (by decide) rfl ?_
  refine z_iconst (pc := 5) (v := 0) dX7_isWithin_5 rfl ?_
  refine z_istore (pc := 6) (lv' := [(5, AI 0), (4, AI p), (3, AI p), (0, AI p), (1, AI b), (2, AI d)]) dX7_isWithin_6 (by decide) rfl ?_
  have J8 : ∀ (N : Nat) (a c j : Int), (0 ≤ j ∧ j ≤ 6) → (loopW (6 - j).toNat (a, c) = loopW 6 (p, p)) → (1 ≤ a ∧ a ≤ 127 ∧ 0 ≤ c ∧ ((j = 0 ∧ c ≤ 127) ∨ (j = 1 ∧ c ≤ 255) ∨ (j = 2 ∧ c ≤ 511) ∨ (j = 3 ∧ c ≤ 1023) ∨ (j = 4 ∧ c ≤ 2047) ∨ (j = 5 ∧ c ≤ 4095) ∨ (j = 6 ∧ c ≤ 8191))) → ((6 - j).toNat) < N → Z kX7_isWithin Q 8 [(5, AI j), (4, AI c), (3, AI a), (0, AI p), (1, AI b), (2, AI d)] [] hi := by
    intro N
    induction N with
    | zero => intro a c j _ _ _ _; exact absurd (by assumption) (Nat.not_lt_zero _)
    | succ N ih8 =>
      intro a c j i0 i1 i2 hm8
      refine z_iload (pc := 8) dX7_isWithin_8 0 rfl ?_
      refine z_bipush (pc := 10) (v := 6) dX7_isWithin_10 (by decide +kernel) ?_
      refine z_icmp_ge (pc := 12) (tgt := 39) dX7_isWithin_12 (by decide) ⟨by omega, by omega⟩ ⟨by decide, by decide⟩ (fun c1 => ?_) (fun c1 => ?_)
      · refine z_iload_n (pc := 39) dX7_isWithin_39 rfl 2 rfl ?_
        refine z_bipush (pc := 40) (v := 64) dX7_isWithin_40 (by decide +kernel) ?_
        refine z_isub (pc := 42) dX7_isWithin_42 (fun v2 ev2 => ?_)
        refine z_iload_n (pc := 43) dX7_isWithin_43 rfl 4 rfl ?_
        refine z_icmp_lt (pc := 44) (tgt := 60) dX7_isWithin_44 (by decide) ⟨by omega, by omega⟩ ⟨by omega, by omega⟩ (fun c3 => ?_) (fun c3 => ?_)
        · refine z_iconst (pc := 60) (v := 0) dX7_isWithin_60 rfl ?_
          refine z_zret (pc := 61) rfl (by decide) dX7_isWithin_61 ?_
          exact hQ 0 (by have q1 := fH_eH ((loopW_out (by omega)).symm.trans i1); omega)
        · refine z_iload (pc := 47) dX7_isWithin_47 1 rfl ?_
          refine z_bipush (pc := 49) (v := 64) dX7_isWithin_49 (by decide +kernel) ?_
          refine z_isub (pc := 51) dX7_isWithin_51 (fun v4 ev4 => ?_)
          refine z_iload_n (pc := 52) dX7_isWithin_52 rfl 5 rfl ?_
          refine z_icmp_ge (pc := 53) (tgt := 60) dX7_isWithin_53 (by decide) ⟨by omega, by omega⟩ ⟨by omega, by omega⟩ (fun c5 => ?_) (fun c5 => ?_)
          · refine z_iconst (pc := 60) (v := 0) dX7_isWithin_60 rfl ?_
            refine z_zret (pc := 61) rfl (by decide) dX7_isWithin_61 ?_
            exact hQ 0 (by have q1 := fH_eH ((loopW_out (by omega)).symm.trans i1); omega)
          · refine z_iconst (pc := 56) (v := 1) dX7_isWithin_56 rfl ?_
            refine z_goto (pc := 57) (tgt := 61) dX7_isWithin_57 (by decide) ?_
            refine z_zret (pc := 61) rfl (by decide) dX7_isWithin_61 ?_
            exact hQ 1 (by have q1 := fH_eH ((loopW_out (by omega)).symm.trans i1); omega)
      · refine z_iload_n (pc := 15) dX7_isWithin_15 rfl 2 rfl ?_
        refine z_bipush (pc := 16) (v := 64) dX7_isWithin_16 (by decide +kernel) ?_
        refine z_icmp_ge (pc := 18) (tgt := 39) dX7_isWithin_18 (by decide) ⟨by omega, by omega⟩ ⟨by decide, by decide⟩ (fun c6 => ?_) (fun c6 => ?_)
        · refine z_iload_n (pc := 39) dX7_isWithin_39 rfl 2 rfl ?_
          refine z_bipush (pc := 40) (v := 64) dX7_isWithin_40 (by decide +kernel) ?_
          refine z_isub (pc := 42) dX7_isWithin_42 (fun v7 ev7 => ?_)
          refine z_iload_n (pc := 43) dX7_isWithin_43 rfl 4 rfl ?_
          refine z_icmp_lt (pc := 44) (tgt := 60) dX7_isWithin_44 (by decide) ⟨by omega, by omega⟩ ⟨by omega, by omega⟩ (fun c8 => ?_) (fun c8 => ?_)
          · refine z_iconst (pc := 60) (v := 0) dX7_isWithin_60 rfl ?_
            refine z_zret (pc := 61) rfl (by decide) dX7_isWithin_61 ?_
            exact hQ 0 (by have q1 := fH_eH ((loopW_out (by omega)).symm.trans i1); omega)
          · refine z_iload (pc := 47) dX7_isWithin_47 1 rfl ?_
            refine z_bipush (pc := 49) (v := 64) dX7_isWithin_49 (by decide +kernel) ?_
            refine z_isub (pc := 51) dX7_isWithin_51 (fun v9 ev9 => ?_)
            refine z_iload_n (pc := 52) dX7_isWithin_52 rfl 5 rfl ?_
            refine z_icmp_ge (pc := 53) (tgt := 60) dX7_isWithin_53 (by decide) ⟨by omega, by omega⟩ ⟨by omega, by omega⟩ (fun c10 => ?_) (fun c10 => ?_)
            · refine z_iconst (pc := 60) (v := 0) dX7_isWithin_60 rfl ?_
              refine z_zret (pc := 61) rfl (by decide) dX7_isWithin_61 ?_
              exact hQ 0 (by have q1 := fH_eH ((loopW_out (by omega)).symm.trans i1); omega)
            · refine z_iconst (pc := 56) (v := 1) dX7_isWithin_56 rfl ?_
              refine z_goto (pc := 57) (tgt := 61) dX7_isWithin_57 (by decide) ?_
              refine z_zret (pc := 61) rfl (by decide) dX7_isWithin_61 ?_
              exact hQ 1 (by have q1 := fH_eH ((loopW_out (by omega)).symm.trans i1); omega)
        · refine z_iconst (pc := 21) (v := 2) dX7_isWithin_21 rfl ?_
          refine z_iload_n (pc := 22) dX7_isWithin_22 rfl 2 rfl ?_
          refine z_imul (pc := 23) dX7_isWithin_23 (fun v11 ev11 => ?_)
          refine z_istore_n (pc := 24) (lv' := [(3, AI v11), (5, AI j), (4, AI c), (0, AI p), (1, AI b), (2, AI d)]) dX7_isWithin_24 rfl (by decide) rfl ?_
          refine z_iconst (pc := 25) (v := 2) dX7_isWithin_25 rfl ?_
          refine z_iload (pc := 26) dX7_isWithin_26 2 rfl ?_
          refine z_imul (pc := 28) dX7_isWithin_28 (fun v12 ev12 => ?_)
          refine z_iconst (pc := 29) (v := 1) dX7_isWithin_29 rfl ?_
          refine z_iadd (pc := 30) dX7_isWithin_30 (fun v13 ev13 => ?_)
          refine z_istore (pc := 31) (lv' := [(4, AI v13), (3, AI v11), (5, AI j), (0, AI p), (1, AI b), (2, AI d)]) dX7_isWithin_31 (by decide) rfl ?_
          refine z_iinc (pc := 33) (j := 2) (w := fun q => (5, AI q) :: [(4, AI v13), (3, AI v11), (0, AI p), (1, AI b), (2, AI d)]) dX7_isWithin_33 rfl (by decide) (fun _ => rfl) (fun v14 ev14 => ?_)
          refine z_goto (pc := 36) (tgt := 8) dX7_isWithin_36 (by decide) ?_
          exact ih8 v11 v13 v14 (by omega) ((loopW_in (by omega) (by omega) (by omega) (by omega)).symm.trans i1) (by omega) (by omega)
  exact J8 _ p p 0 (by omega) (rfl) (by omega) (Nat.lt_succ_self _)

abbrev kX7_pieceAround : Kd := (cX7_pieceAround, .code yX7_pieceAround cX7_pieceAround 5 (some .int) :: wsL_law0, rmL 2, RX7, (some .int), 5)
theorem ct_X7_pieceAround : Ct kX7_pieceAround yX7_pieceAround (fun a hi Q => ∃ h : Int, ∃ b : Int, ∃ d : Int, a = [AI h, AI b, AI d] ∧ ((0 ≤ h ∧ h < 64) ∧ inR b ∧ inR d) ∧ ∀ v : Int, (Top h b d v ∧ 1 ≤ v ∧ v ≤ 127) → Q (AI v) hi) := by
  refine Ct.of (ws' := _) (by decide +kernel) rfl rfl ?_
  intro a hi Q hT
  obtain ⟨h, b, d, rfl, hpre, hQ⟩ := hT
  refine ⟨Nat.le_of_ble_eq_true rfl, ?_⟩
  show Z kX7_pieceAround Q 0 [(0, AI h), (1, AI b), (2, AI d)] [] hi
  refine z_bipush (pc := 0) (v := 64) dX7_pieceAround_0 (by decide +kernel) ?_
  refine z_iload_n (pc := 2) dX7_pieceAround_2 rfl 0 rfl ?_
  refine z_iadd (pc := 3) dX7_pieceAround_3 (fun v1 ev1 => ?_)
  refine z_istore_n (pc := 4) (lv' := [(3, AI v1), (0, AI h), (1, AI b), (2, AI d)]) dX7_pieceAround_4 rfl (by decide) rfl ?_
  refine z_iconst (pc := 5) (v := 0) dX7_pieceAround_5 rfl ?_
  refine z_istore (pc := 6) (lv' := [(4, AI 0), (3, AI v1), (0, AI h), (1, AI b), (2, AI d)]) dX7_pieceAround_6 (by decide) rfl ?_
  have J8 : ∀ (N : Nat) (p j : Int), (0 ≤ j ∧ j ≤ 6) → (p = cl h j.toNat ∧ ∀ i : Nat, i < j.toNat → inP (cl h (i + 1)) b d) → ((6 - j).toNat) < N → Z kX7_pieceAround Q 8 [(4, AI j), (3, AI p), (0, AI h), (1, AI b), (2, AI d)] [] hi := by
    intro N
    induction N with
    | zero => intro p j _ _ _; exact absurd (by assumption) (Nat.not_lt_zero _)
    | succ N ih8 =>
      intro p j i0 i1 hm8
      have i2 := top_bd hpre.1 i0 i1.1
      refine z_iload (pc := 8) dX7_pieceAround_8 0 rfl ?_
      refine z_bipush (pc := 10) (v := 6) dX7_pieceAround_10 (by decide +kernel) ?_
      refine z_icmp_ge (pc := 12) (tgt := 36) dX7_pieceAround_12 (by decide) ⟨by omega, by omega⟩ ⟨by decide, by decide⟩ (fun c2 => ?_) (fun c2 => ?_)
      · refine z_iload_n (pc := 36) dX7_pieceAround_36 rfl 1 rfl ?_
        refine z_iret (pc := 37) rfl dX7_pieceAround_37 ?_
        exact hQ p (⟨top_end i0 i1 (by omega), by omega⟩)
      · refine z_iload_n (pc := 15) dX7_pieceAround_15 rfl 1 rfl ?_
        refine z_iconst (pc := 16) (v := 2) dX7_pieceAround_16 rfl ?_
        refine z_idiv (pc := 17) dX7_pieceAround_17 ⟨by omega, by omega⟩ ⟨by decide, by decide⟩ (by omega) (fun v3 ev3 => ?_)
        refine z_iload_n (pc := 18) dX7_pieceAround_18 rfl 3 rfl ?_
        refine z_iload_n (pc := 19) dX7_pieceAround_19 rfl 4 rfl ?_
        refine z_callS (pc := 20) (kc := kX7_isWithin) (n := 3) (As := [AI v3, AI b, AI d]) (stk := []) ct_X7_isWithin (gdS rfl rfl (iw50 _ (List.mem_of_getElem? (i := 13) rfl)) (iw50 _ (List.mem_of_getElem? (i := 14) rfl)) (iw1 _ (List.mem_of_getElem? (i := 2) rfl)) (iw50 _ (List.mem_of_getElem? (i := 15) rfl))) rfl ⟨rfl, rfl⟩ (by decide +kernel) ⟨by decide, by decide⟩ dX7_pieceAround_20 rfl rfl (Nat.le_of_ble_eq_true rfl) ?_
        refine ⟨_, _, _, rfl, by omega, fun v4 ev4 => ?_⟩
        have w20 := ev4
        rw [show v3 = p / 2 by omega] at w20
        refine z_if_eq (pc := 23) (tgt := 36) dX7_pieceAround_23 (by decide) ⟨by omega, by omega⟩ (fun c5 => ?_) (fun c5 => ?_)
        · refine z_iload_n (pc := 36) dX7_pieceAround_36 rfl 1 rfl ?_
          refine z_iret (pc := 37) rfl dX7_pieceAround_37 ?_
          exact hQ p (⟨top_end i0 i1 (by omega), by omega⟩)
        · refine z_iload_n (pc := 26) dX7_pieceAround_26 rfl 1 rfl ?_
          refine z_iconst (pc := 27) (v := 2) dX7_pieceAround_27 rfl ?_
          refine z_idiv (pc := 28) dX7_pieceAround_28 ⟨by omega, by omega⟩ ⟨by decide, by decide⟩ (by omega) (fun v6 ev6 => ?_)
          refine z_istore_n (pc := 29) (lv' := [(3, AI v6), (4, AI j), (0, AI h), (1, AI b), (2, AI d)]) dX7_pieceAround_29 rfl (by decide) rfl ?_
          refine z_iinc (pc := 30) (j := 1) (w := fun q => (4, AI q) :: [(3, AI v6), (0, AI h), (1, AI b), (2, AI d)]) dX7_pieceAround_30 rfl (by decide) (fun _ => rfl) (fun v7 ev7 => ?_)
          refine z_goto (pc := 33) (tgt := 8) dX7_pieceAround_33 (by decide) ?_
          exact ih8 v6 v7 (by omega) (top_step i0.1 (by omega) i1 (by omega) (by omega)) (by omega)
  exact J8 _ v1 0 (by omega) (⟨by unfold cl; simp; omega, fun i hq => absurd hq (Nat.not_lt_zero _)⟩) (Nat.lt_succ_self _)

abbrev kX7_piecesOf : Kd := (cX7_piecesOf, .code yX7_piecesOf cX7_piecesOf 6 (some .int) :: wsL_law0, rmL 1, RX7, (some .int), 6)
theorem ct_X7_piecesOf : Ct kX7_piecesOf yX7_piecesOf (fun a hi Q => ∃ b : Int, ∃ d : Int, a = [AI b, AI d] ∧ ((0 ≤ b ∧ b ≤ 64) ∧ 0 ≤ d ∧ d ≤ 64) ∧ ∀ v : Int, (v = pcs b d ∧ 0 ≤ v ∧ v ≤ 14) → Q (AI v) hi) := by
  refine Ct.of (ws' := _) (by decide +kernel) rfl rfl ?_
  intro a hi Q hT
  obtain ⟨b, d, rfl, hpre, hQ⟩ := hT
  refine ⟨Nat.le_of_ble_eq_true rfl, ?_⟩
  show Z kX7_piecesOf Q 0 [(0, AI b), (1, AI d)] [] hi
  refine z_bipush (pc := 0) (v := 64) dX7_piecesOf_0 (by decide +kernel) ?_
  refine z_iload_n (pc := 2) dX7_piecesOf_2 rfl 0 rfl ?_
  refine z_iadd (pc := 3) dX7_piecesOf_3 (fun v1 ev1 => ?_)
  refine z_istore_n (pc := 4) (lv' := [(2, AI v1), (0, AI b), (1, AI d)]) dX7_piecesOf_4 rfl (by decide) rfl ?_
  refine z_bipush (pc := 5) (v := 64) dX7_piecesOf_5 (by decide +kernel) ?_
  refine z_iload_n (pc := 7) dX7_piecesOf_7 rfl 2 rfl ?_
  refine z_iadd (pc := 8) dX7_piecesOf_8 (fun v2 ev2 => ?_)
  refine z_istore_n (pc := 9) (lv' := [(3, AI v2), (2, AI v1), (0, AI b), (1, AI d)]) dX7_piecesOf_9 rfl (by decide) rfl ?_
  refine z_iconst (pc := 10) (v := 0) dX7_piecesOf_10 rfl ?_
  refine z_istore (pc := 11) (lv' := [(4, AI 0), (3, AI v2), (2, AI v1), (0, AI b), (1, AI d)]) dX7_piecesOf_11 (by decide) rfl ?_
  refine z_iconst (pc := 13) (v := 0) dX7_piecesOf_13 rfl ?_
  refine z_istore (pc := 14) (lv' := [(5, AI 0), (4, AI 0), (3, AI v2), (2, AI v1), (0, AI b), (1, AI d)]) dX7_piecesOf_14 (by decide) rfl ?_
  have J16 : ∀ (N : Nat) (a e c j : Int), (0 ≤ j ∧ j ≤ 7) → (pcL (7 - j).toNat a e c = pcs b d) → (0 ≤ a ∧ a ≤ 128 ∧ 0 ≤ e ∧ e ≤ 128 ∧ 0 ≤ c ∧ c ≤ 2 * j) → ((7 - j).toNat) < N → Z kX7_piecesOf Q 16 [(5, AI j), (4, AI c), (3, AI e), (2, AI a), (0, AI b), (1, AI d)] [] hi := by
    intro N
    induction N with
    | zero => intro a e c j _ _ _ _; exact absurd (by assumption) (Nat.not_lt_zero _)
    | succ N ih16 =>
      intro a e c j i0 i1 i2 hm16
      refine z_iload (pc := 16) dX7_piecesOf_16 0 rfl ?_
      refine z_bipush (pc := 18) (v := 6) dX7_piecesOf_18 (by decide +kernel) ?_
      refine z_icmp_gt (pc := 20) (tgt := 68) dX7_piecesOf_20 (by decide) ⟨by omega, by omega⟩ ⟨by decide, by decide⟩ (fun c3 => ?_) (fun c3 => ?_)
      · refine z_iload (pc := 68) dX7_piecesOf_68 1 rfl ?_
        refine z_iret (pc := 70) rfl dX7_piecesOf_70 ?_
        exact hQ c (by rw [← i1, pcL_out (by omega)]; omega)
      · refine z_iload_n (pc := 23) dX7_piecesOf_23 rfl 3 rfl ?_
        refine z_iload_n (pc := 24) dX7_piecesOf_24 rfl 2 rfl ?_
        refine z_icmp_ge (pc := 25) (tgt := 68) dX7_piecesOf_25 (by decide) ⟨by omega, by omega⟩ ⟨by omega, by omega⟩ (fun c4 => ?_) (fun c4 => ?_)
        · refine z_iload (pc := 68) dX7_piecesOf_68 1 rfl ?_
          refine z_iret (pc := 70) rfl dX7_piecesOf_70 ?_
          exact hQ c (by rw [← i1, pcL_out (by omega)]; omega)
        · refine z_iload_n (pc := 28) dX7_piecesOf_28 rfl 3 rfl ?_
          refine z_iconst (pc := 29) (v := 2) dX7_piecesOf_29 rfl ?_
          refine z_irem (pc := 30) dX7_piecesOf_30 ⟨by omega, by omega⟩ ⟨by decide, by decide⟩ (by omega) (fun v5 ev5 => ?_)
          refine z_iconst (pc := 31) (v := 1) dX7_piecesOf_31 rfl ?_
          refine z_icmp_ne (pc := 32) (tgt := 41) dX7_piecesOf_32 (by decide) ⟨by omega, by omega⟩ ⟨by decide, by decide⟩ (fun c6 => ?_) (fun c6 => ?_)
          · refine z_iload_n (pc := 41) dX7_piecesOf_41 rfl 2 rfl ?_
            refine z_iconst (pc := 42) (v := 2) dX7_piecesOf_42 rfl ?_
            refine z_irem (pc := 43) dX7_piecesOf_43 ⟨by omega, by omega⟩ ⟨by decide, by decide⟩ (by omega) (fun v7 ev7 => ?_)
            refine z_iconst (pc := 44) (v := 1) dX7_piecesOf_44 rfl ?_
            refine z_icmp_ne (pc := 45) (tgt := 54) dX7_piecesOf_45 (by decide) ⟨by omega, by omega⟩ ⟨by decide, by decide⟩ (fun c8 => ?_) (fun c8 => ?_)
            · refine z_iload_n (pc := 54) dX7_piecesOf_54 rfl 3 rfl ?_
              refine z_iconst (pc := 55) (v := 2) dX7_piecesOf_55 rfl ?_
              refine z_idiv (pc := 56) dX7_piecesOf_56 ⟨by omega, by omega⟩ ⟨by decide, by decide⟩ (by omega) (fun v9 ev9 => ?_)
              refine z_istore_n (pc := 57) (lv' := [(2, AI v9), (5, AI j), (4, AI c), (3, AI e), (0, AI b), (1, AI d)]) dX7_piecesOf_57 rfl (by decide) rfl ?_
              refine z_iload_n (pc := 58) dX7_piecesOf_58 rfl 3 rfl ?_
              refine z_iconst (pc := 59) (v := 2) dX7_piecesOf_59 rfl ?_
              refine z_idiv (pc := 60) dX7_piecesOf_60 ⟨by omega, by omega⟩ ⟨by decide, by decide⟩ (by omega) (fun v10 ev10 => ?_)
              refine z_istore_n (pc := 61) (lv' := [(3, AI v10), (2, AI v9), (5, AI j), (4, AI c), (0, AI b), (1, AI d)]) dX7_piecesOf_61 rfl (by decide) rfl ?_
              refine z_iinc (pc := 62) (j := 2) (w := fun q => (5, AI q) :: [(3, AI v10), (2, AI v9), (4, AI c), (0, AI b), (1, AI d)]) dX7_piecesOf_62 rfl (by decide) (fun _ => rfl) (fun v11 ev11 => ?_)
              refine z_goto (pc := 65) (tgt := 16) dX7_piecesOf_65 (by decide) ?_
              refine z_sub (lv' := [(5, AI v11), (4, AI c), (3, AI v10), (2, AI v9), (0, AI b), (1, AI d)]) [0, 3, 1, 2, 4, 5] rfl ?_
              exact ih16 v9 v10 c v11 (by omega) ((pcL_in (by omega) (by omega) (by split <;> omega) (by split <;> omega) (by (repeat split) <;> omega)).symm.trans i1) (by omega) (by omega)
            · refine z_iinc (pc := 48) (j := 1) (w := fun q => (4, AI q) :: [(5, AI j), (3, AI e), (2, AI a), (0, AI b), (1, AI d)]) dX7_piecesOf_48 rfl (by decide) (fun _ => rfl) (fun v12 ev12 => ?_)
              refine z_iinc (pc := 51) (j := 2) (w := fun q => (3, AI q) :: [(4, AI v12), (5, AI j), (2, AI a), (0, AI b), (1, AI d)]) dX7_piecesOf_51 rfl (by decide) (fun _ => rfl) (fun v13 ev13 => ?_)
              refine z_iload_n (pc := 54) dX7_piecesOf_54 rfl 3 rfl ?_
              refine z_iconst (pc := 55) (v := 2) dX7_piecesOf_55 rfl ?_
              refine z_idiv (pc := 56) dX7_piecesOf_56 ⟨by omega, by omega⟩ ⟨by decide, by decide⟩ (by omega) (fun v14 ev14 => ?_)
              refine z_istore_n (pc := 57) (lv' := [(2, AI v14), (3, AI v13), (4, AI v12), (5, AI j), (0, AI b), (1, AI d)]) dX7_piecesOf_57 rfl (by decide) rfl ?_
              refine z_iload_n (pc := 58) dX7_piecesOf_58 rfl 1 rfl ?_
              refine z_iconst (pc := 59) (v := 2) dX7_piecesOf_59 rfl ?_
              refine z_idiv (pc := 60) dX7_piecesOf_60 ⟨by omega, by omega⟩ ⟨by decide, by decide⟩ (by omega) (fun v15 ev15 => ?_)
              refine z_istore_n (pc := 61) (lv' := [(3, AI v15), (2, AI v14), (4, AI v12), (5, AI j), (0, AI b), (1, AI d)]) dX7_piecesOf_61 rfl (by decide) rfl ?_
              refine z_iinc (pc := 62) (j := 3) (w := fun q => (5, AI q) :: [(3, AI v15), (2, AI v14), (4, AI v12), (0, AI b), (1, AI d)]) dX7_piecesOf_62 rfl (by decide) (fun _ => rfl) (fun v16 ev16 => ?_)
              refine z_goto (pc := 65) (tgt := 16) dX7_piecesOf_65 (by decide) ?_
              refine z_sub (lv' := [(5, AI v16), (4, AI v12), (3, AI v15), (2, AI v14), (0, AI b), (1, AI d)]) [0, 3, 1, 2, 4, 5] rfl ?_
              exact ih16 v14 v15 v12 v16 (by omega) ((pcL_in (by omega) (by omega) (by split <;> omega) (by split <;> omega) (by (repeat split) <;> omega)).symm.trans i1) (by omega) (by omega)
          · refine z_iinc (pc := 35) (j := 1) (w := fun q => (4, AI q) :: [(5, AI j), (3, AI e), (2, AI a), (0, AI b), (1, AI d)]) dX7_piecesOf_35 rfl (by decide) (fun _ => rfl) (fun v17 ev17 => ?_)
            refine z_iinc (pc := 38) (j := 3) (w := fun q => (2, AI q) :: [(4, AI v17), (5, AI j), (3, AI e), (0, AI b), (1, AI d)]) dX7_piecesOf_38 rfl (by decide) (fun _ => rfl) (fun v18 ev18 => ?_)
            refine z_iload_n (pc := 41) dX7_piecesOf_41 rfl 3 rfl ?_
            refine z_iconst (pc := 42) (v := 2) dX7_piecesOf_42 rfl ?_
            refine z_irem (pc := 43) dX7_piecesOf_43 ⟨by omega, by omega⟩ ⟨by decide, by decide⟩ (by omega) (fun v19 ev19 => ?_)
            refine z_iconst (pc := 44) (v := 1) dX7_piecesOf_44 rfl ?_
            refine z_icmp_ne (pc := 45) (tgt := 54) dX7_piecesOf_45 (by decide) ⟨by omega, by omega⟩ ⟨by decide, by decide⟩ (fun c20 => ?_) (fun c20 => ?_)
            · refine z_iload_n (pc := 54) dX7_piecesOf_54 rfl 0 rfl ?_
              refine z_iconst (pc := 55) (v := 2) dX7_piecesOf_55 rfl ?_
              refine z_idiv (pc := 56) dX7_piecesOf_56 ⟨by omega, by omega⟩ ⟨by decide, by decide⟩ (by omega) (fun v21 ev21 => ?_)
              refine z_istore_n (pc := 57) (lv' := [(2, AI v21), (4, AI v17), (5, AI j), (3, AI e), (0, AI b), (1, AI d)]) dX7_piecesOf_57 rfl (by decide) rfl ?_
              refine z_iload_n (pc := 58) dX7_piecesOf_58 rfl 3 rfl ?_
              refine z_iconst (pc := 59) (v := 2) dX7_piecesOf_59 rfl ?_
              refine z_idiv (pc := 60) dX7_piecesOf_60 ⟨by omega, by omega⟩ ⟨by decide, by decide⟩ (by omega) (fun v22 ev22 => ?_)
              refine z_istore_n (pc := 61) (lv' := [(3, AI v22), (2, AI v21), (4, AI v17), (5, AI j), (0, AI b), (1, AI d)]) dX7_piecesOf_61 rfl (by decide) rfl ?_
              refine z_iinc (pc := 62) (j := 3) (w := fun q => (5, AI q) :: [(3, AI v22), (2, AI v21), (4, AI v17), (0, AI b), (1, AI d)]) dX7_piecesOf_62 rfl (by decide) (fun _ => rfl) (fun v23 ev23 => ?_)
              refine z_goto (pc := 65) (tgt := 16) dX7_piecesOf_65 (by decide) ?_
              refine z_sub (lv' := [(5, AI v23), (4, AI v17), (3, AI v22), (2, AI v21), (0, AI b), (1, AI d)]) [0, 3, 1, 2, 4, 5] rfl ?_
              exact ih16 v21 v22 v17 v23 (by omega) ((pcL_in (by omega) (by omega) (by split <;> omega) (by split <;> omega) (by (repeat split) <;> omega)).symm.trans i1) (by omega) (by omega)
            · refine z_iinc (pc := 48) (j := 1) (w := fun q => (4, AI q) :: [(2, AI v18), (5, AI j), (3, AI e), (0, AI b), (1, AI d)]) dX7_piecesOf_48 rfl (by decide) (fun _ => rfl) (fun v24 ev24 => ?_)
              refine z_iinc (pc := 51) (j := 3) (w := fun q => (3, AI q) :: [(4, AI v24), (2, AI v18), (5, AI j), (0, AI b), (1, AI d)]) dX7_piecesOf_51 rfl (by decide) (fun _ => rfl) (fun v25 ev25 => ?_)
              refine z_iload_n (pc := 54) dX7_piecesOf_54 rfl 2 rfl ?_
              refine z_iconst (pc := 55) (v := 2) dX7_piecesOf_55 rfl ?_
              refine z_idiv (pc := 56) dX7_piecesOf_56 ⟨by omega, by omega⟩ ⟨by decide, by decide⟩ (by omega) (fun v26 ev26 => ?_)
              refine z_istore_n (pc := 57) (lv' := [(2, AI v26), (3, AI v25), (4, AI v24), (5, AI j), (0, AI b), (1, AI d)]) dX7_piecesOf_57 rfl (by decide) rfl ?_
              refine z_iload_n (pc := 58) dX7_piecesOf_58 rfl 1 rfl ?_
              refine z_iconst (pc := 59) (v := 2) dX7_piecesOf_59 rfl ?_
              refine z_idiv (pc := 60) dX7_piecesOf_60 ⟨by omega, by omega⟩ ⟨by decide, by decide⟩ (by omega) (fun v27 ev27 => ?_)
              refine z_istore_n (pc := 61) (lv' := [(3, AI v27), (2, AI v26), (4, AI v24), (5, AI j), (0, AI b), (1, AI d)]) dX7_piecesOf_61 rfl (by decide) rfl ?_
              refine z_iinc (pc := 62) (j := 3) (w := fun q => (5, AI q) :: [(3, AI v27), (2, AI v26), (4, AI v24), (0, AI b), (1, AI d)]) dX7_piecesOf_62 rfl (by decide) (fun _ => rfl) (fun v28 ev28 => ?_)
              refine z_goto (pc := 65) (tgt := 16) dX7_piecesOf_65 (by decide) ?_
              refine z_sub (lv' := [(5, AI v28), (4, AI v24), (3, AI v27), (2, AI v26), (0, AI b), (1, AI d)]) [0, 3, 1, 2, 4, 5] rfl ?_
              exact ih16 v26 v27 v24 v28 (by omega) ((pcL_in (by omega) (by omega) (by split <;> omega) (by split <;> omega) (by (repeat split) <;> omega)).symm.trans i1) (by omega) (by omega)
  exact J16 _ v1 v2 0 0 (by omega) (by rw [show v1 = 64 + b by omega, show v2 = 64 + d by omega]; rfl) (by omega) (Nat.lt_succ_self _)

abbrev kX1_isCoveredBy : Kd := (cX1_isCoveredBy, .code yX1_isCoveredBy cX1_isCoveredBy 5 (some .boolean) :: wsL_law0, rmL 2, RX1, (some .boolean), 5)
theorem ct_X1_isCoveredBy : Ct kX1_isCoveredBy yX1_isCoveredBy (fun a hi Q => ∃ k : Int, ∃ p : Int, a = [AR 2, AI k, AI p] ∧ ((0 ≤ k ∧ k < 40) ∧ 1 ≤ p ∧ p ≤ 127) ∧ ∀ v : Int, ((v = 1 ∧ ofP p (bO (hi 2) k) (dO (hi 2) k)) ∨ (v = 0 ∧ ¬ ofP p (bO (hi 2) k) (dO (hi 2) k))) → Q (AI v) hi) := by
  refine Ct.of (ws' := _) (by decide +kernel) rfl rfl ?_
  intro a hi Q hT
  obtain ⟨k, p, rfl, hpre, hQ⟩ := hT
  refine ⟨Nat.le_of_ble_eq_true rfl, ?_⟩
  show Z kX1_isCoveredBy Q 0 [(0, AR 2), (1, AI k), (2, AI p)] [] hi
  refine z_aload_n (pc := 0) (x := 2) dX1_isCoveredBy_0 rfl 0 rfl ?_
  refine z_iload_n (pc := 1) dX1_isCoveredBy_1 rfl 1 rfl ?_
  refine z_callV (pc := 2) (kc := kX1_birthOf) (n := 1) (pl := 1) (ci := 1) (C := RX1) (As := [AI k]) (stk := []) ct_X1_birthOf (gdV rfl rfl (iw7 _ (List.mem_of_getElem? (i := 9) rfl)) (iw7 _ (List.mem_of_getElem? (i := 10) rfl)) (iw7 _ (List.mem_of_getElem? (i := 11) rfl)) (iw1 _ (List.mem_of_getElem? (i := 15) rfl)) (iw7 _ (List.mem_of_getElem? (i := 12) rfl))) rfl ⟨rfl, rfl⟩ (by decide +kernel) ⟨by decide, by decide⟩ (by decide) rfl rfl dX1_isCoveredBy_2 rfl rfl (Nat.le_of_ble_eq_true rfl) ?_
  refine ⟨_, rfl, by omega, fun v1 ev1 => ?_⟩
  refine z_istore_n (pc := 5) (lv' := [(3, AI v1), (0, AR 2), (1, AI k), (2, AI p)]) dX1_isCoveredBy_5 rfl (by decide) rfl ?_
  refine z_aload_n (pc := 6) (x := 2) dX1_isCoveredBy_6 rfl 1 rfl ?_
  refine z_iload_n (pc := 7) dX1_isCoveredBy_7 rfl 2 rfl ?_
  refine z_callV (pc := 8) (kc := kX1_deathOf) (n := 1) (pl := 1) (ci := 1) (C := RX1) (As := [AI k]) (stk := []) ct_X1_deathOf (gdV rfl rfl (iw7 _ (List.mem_of_getElem? (i := 13) rfl)) (iw7 _ (List.mem_of_getElem? (i := 14) rfl)) (iw7 _ (List.mem_of_getElem? (i := 15) rfl)) (iw1 _ (List.mem_of_getElem? (i := 15) rfl)) (iw7 _ (List.mem_of_getElem? (i := 16) rfl))) rfl ⟨rfl, rfl⟩ (by decide +kernel) ⟨by decide, by decide⟩ (by decide) rfl rfl dX1_isCoveredBy_8 rfl rfl (Nat.le_of_ble_eq_true rfl) ?_
  refine ⟨_, rfl, by omega, fun v2 ev2 => ?_⟩
  refine z_istore (pc := 11) (lv' := [(4, AI v2), (3, AI v1), (0, AR 2), (1, AI k), (2, AI p)]) dX1_isCoveredBy_11 (by decide) rfl ?_
  refine z_iload_n (pc := 13) dX1_isCoveredBy_13 rfl 4 rfl ?_
  refine z_iload_n (pc := 14) dX1_isCoveredBy_14 rfl 1 rfl ?_
  refine z_iload (pc := 15) dX1_isCoveredBy_15 0 rfl ?_
  refine z_callSN (pc := 17) (kc := kX7_isWithin) (n := 3) (As := [AI p, AI v1, AI v2]) (stk := []) ct_X7_isWithin (List.mem_of_getElem? (i := 1) rfl) (gdN rfl rfl (iw50 _ (List.mem_of_getElem? (i := 15) rfl))) (List.mem_cons_of_mem _ (iw50 _ (List.mem_of_getElem? (i := 14) rfl))) (List.mem_cons_of_mem _ (iw1 _ (List.mem_of_getElem? (i := 2) rfl))) rfl ⟨rfl, rfl⟩ (by decide +kernel) ⟨by decide, by decide⟩ dX1_isCoveredBy_17 rfl rfl (Nat.le_of_ble_eq_true rfl) ?_
  refine ⟨_, _, _, rfl, by omega, fun v3 ev3 => ?_⟩
  refine z_if_eq (pc := 20) (tgt := 44) dX1_isCoveredBy_20 (by decide) ⟨by omega, by omega⟩ (fun c4 => ?_) (fun c4 => ?_)
  · refine z_iconst (pc := 44) (v := 0) dX1_isCoveredBy_44 rfl ?_
    refine z_zret (pc := 45) rfl (by decide) dX1_isCoveredBy_45 ?_
    exact hQ 0 (by omega)
  · refine z_iload_n (pc := 23) dX1_isCoveredBy_23 rfl 4 rfl ?_
    refine z_iconst (pc := 24) (v := 1) dX1_isCoveredBy_24 rfl ?_
    refine z_icmp_eq (pc := 25) (tgt := 40) dX1_isCoveredBy_25 (by decide) ⟨by omega, by omega⟩ ⟨by decide, by decide⟩ (fun c5 => ?_) (fun c5 => ?_)
    · refine z_iconst (pc := 40) (v := 1) dX1_isCoveredBy_40 rfl ?_
      refine z_goto (pc := 41) (tgt := 45) dX1_isCoveredBy_41 (by decide) ?_
      refine z_zret (pc := 45) rfl (by decide) dX1_isCoveredBy_45 ?_
      exact hQ 1 (by omega)
    · refine z_iload_n (pc := 28) dX1_isCoveredBy_28 rfl 4 rfl ?_
      refine z_iconst (pc := 29) (v := 2) dX1_isCoveredBy_29 rfl ?_
      refine z_idiv (pc := 30) dX1_isCoveredBy_30 ⟨by omega, by omega⟩ ⟨by decide, by decide⟩ (by omega) (fun v6 ev6 => ?_)
      refine z_iload_n (pc := 31) dX1_isCoveredBy_31 rfl 1 rfl ?_
      refine z_iload (pc := 32) dX1_isCoveredBy_32 0 rfl ?_
      refine z_callSN (pc := 34) (kc := kX7_isWithin) (n := 3) (As := [AI v6, AI v1, AI v2]) (stk := []) ct_X7_isWithin (List.mem_of_getElem? (i := 1) rfl) (gdN rfl rfl (iw50 _ (List.mem_of_getElem? (i := 15) rfl))) (List.mem_cons_of_mem _ (iw50 _ (List.mem_of_getElem? (i := 14) rfl))) (List.mem_cons_of_mem _ (iw1 _ (List.mem_of_getElem? (i := 2) rfl))) rfl ⟨rfl, rfl⟩ (by decide +kernel) ⟨by decide, by decide⟩ dX1_isCoveredBy_34 rfl rfl (Nat.le_of_ble_eq_true rfl) ?_
      refine ⟨_, _, _, rfl, by omega, fun v7 ev7 => ?_⟩
      rw [show v6 = p / 2 by omega] at ev7
      refine z_if_ne (pc := 37) (tgt := 44) dX1_isCoveredBy_37 (by decide) ⟨by omega, by omega⟩ (fun c8 => ?_) (fun c8 => ?_)
      · refine z_iconst (pc := 44) (v := 0) dX1_isCoveredBy_44 rfl ?_
        refine z_zret (pc := 45) rfl (by decide) dX1_isCoveredBy_45 ?_
        exact hQ 0 (by omega)
      · refine z_iconst (pc := 40) (v := 1) dX1_isCoveredBy_40 rfl ?_
        refine z_goto (pc := 41) (tgt := 45) dX1_isCoveredBy_41 (by decide) ?_
        refine z_zret (pc := 45) rfl (by decide) dX1_isCoveredBy_45 ?_
        exact hQ 1 (by omega)

abbrev kX1_countPieces : Kd := (cX1_countPieces, .code yX1_countPieces cX1_countPieces 3 (some .int) :: wsL_law0, rmL 2, RX1, (some .int), 3)
theorem ct_X1_countPieces : Ct kX1_countPieces yX1_countPieces (fun a hi Q => a = [AR 2] ∧ (RI (hi 2) (hi 2 1)) ∧ ∀ v : Int, (v = sm (fun z => pcs (bO (hi 2) z) (dO (hi 2) z)) (hi 2 1).toNat) → Q (AI v) hi) := by
  refine Ct.of (ws' := _) (by decide +kernel) rfl rfl ?_
  intro a hi Q hT
  obtain ⟨rfl, hpre, hQ⟩ := hT
  refine ⟨Nat.le_of_ble_eq_true rfl, ?_⟩
  show Z kX1_countPieces Q 0 [(0, AR 2)] [] hi
  refine z_iconst (pc := 0) (v := 0) dX1_countPieces_0 rfl ?_
  refine z_istore_n (pc := 1) (lv' := [(1, AI 0), (0, AR 2)]) dX1_countPieces_1 rfl (by decide) rfl ?_
  refine z_iconst (pc := 2) (v := 0) dX1_countPieces_2 rfl ?_
  refine z_istore_n (pc := 3) (lv' := [(2, AI 0), (1, AI 0), (0, AR 2)]) dX1_countPieces_3 rfl (by decide) rfl ?_
  have h0 := hpre.1
  have J4 : ∀ (N : Nat) (k acc : Int), (0 ≤ k ∧ k ≤ hi 2 1) → (acc = sm (fun z => pcs (bO (hi 2) z) (dO (hi 2) z)) k.toNat) → ((hi 2 1 - k).toNat) < N → Z kX1_countPieces Q 4 [(2, AI k), (1, AI acc), (0, AR 2)] [] hi := by
    intro N
    induction N with
    | zero => intro k acc _ _ _; exact absurd (by assumption) (Nat.not_lt_zero _)
    | succ N ih4 =>
      intro k acc i0 i1 hm4
      refine z_iload_n (pc := 4) dX1_countPieces_4 rfl 0 rfl ?_
      refine z_aload_n (pc := 5) (x := 2) dX1_countPieces_5 rfl 2 rfl ?_
      refine z_callV (pc := 6) (kc := kX1_size) (n := 0) (pl := 1) (ci := 1) (C := RX1) (As := []) (stk := [AI k]) ct_X1_size (gdV rfl rfl (iw7 _ (List.mem_of_getElem? (i := 1) rfl)) (iw7 _ (List.mem_of_getElem? (i := 2) rfl)) (iw7 _ (List.mem_of_getElem? (i := 3) rfl)) (iw1 _ (List.mem_of_getElem? (i := 15) rfl)) (iw7 _ (List.mem_of_getElem? (i := 4) rfl))) rfl ⟨rfl, rfl⟩ (by decide +kernel) ⟨by decide, by decide⟩ (by decide) rfl rfl dX1_countPieces_6 rfl rfl (Nat.le_of_ble_eq_true rfl) ?_
      refine ⟨rfl, trivial, fun v1 ev1 => ?_⟩
      refine z_icmp_ge (pc := 9) (tgt := 34) dX1_countPieces_9 (by decide) ⟨by omega, by omega⟩ ⟨by omega, by omega⟩ (fun c2 => ?_) (fun c2 => ?_)
      · refine z_iload_n (pc := 34) dX1_countPieces_34 rfl 1 rfl ?_
        refine z_iret (pc := 35) rfl dX1_countPieces_35 ?_
        exact hQ acc (by rw [i1, show k = hi 2 1 by omega])
      · refine z_iload_n (pc := 12) dX1_countPieces_12 rfl 1 rfl ?_
        refine z_aload_n (pc := 13) (x := 2) dX1_countPieces_13 rfl 2 rfl ?_
        refine z_iload_n (pc := 14) dX1_countPieces_14 rfl 0 rfl ?_
        refine z_callV (pc := 15) (kc := kX1_birthOf) (n := 1) (pl := 1) (ci := 1) (C := RX1) (As := [AI k]) (stk := [AI acc]) ct_X1_birthOf (gdV rfl rfl (iw7 _ (List.mem_of_getElem? (i := 9) rfl)) (iw7 _ (List.mem_of_getElem? (i := 10) rfl)) (iw7 _ (List.mem_of_getElem? (i := 11) rfl)) (iw1 _ (List.mem_of_getElem? (i := 15) rfl)) (iw7 _ (List.mem_of_getElem? (i := 12) rfl))) rfl ⟨rfl, rfl⟩ (by decide +kernel) ⟨by decide, by decide⟩ (by decide) rfl rfl dX1_countPieces_15 rfl rfl (Nat.le_of_ble_eq_true rfl) ?_
        refine ⟨_, rfl, by omega, fun v3 ev3 => ?_⟩
        have qk := hpre.2.1 k (by omega) (by omega)
        refine z_aload_n (pc := 18) (x := 2) dX1_countPieces_18 rfl 2 rfl ?_
        refine z_iload_n (pc := 19) dX1_countPieces_19 rfl 0 rfl ?_
        refine z_callV (pc := 20) (kc := kX1_deathOf) (n := 1) (pl := 1) (ci := 1) (C := RX1) (As := [AI k]) (stk := [AI v3, AI acc]) ct_X1_deathOf (gdV rfl rfl (iw7 _ (List.mem_of_getElem? (i := 13) rfl)) (iw7 _ (List.mem_of_getElem? (i := 14) rfl)) (iw7 _ (List.mem_of_getElem? (i := 15) rfl)) (iw1 _ (List.mem_of_getElem? (i := 15) rfl)) (iw7 _ (List.mem_of_getElem? (i := 16) rfl))) rfl ⟨rfl, rfl⟩ (by decide +kernel) ⟨by decide, by decide⟩ (by decide) rfl rfl dX1_countPieces_20 rfl rfl (Nat.le_of_ble_eq_true rfl) ?_
        refine ⟨_, rfl, by omega, fun v4 ev4 => ?_⟩
        refine z_callSN (pc := 23) (kc := kX7_piecesOf) (n := 2) (As := [AI v3, AI v4]) (stk := [AI acc]) ct_X7_piecesOf (List.mem_of_getElem? (i := 2) rfl) (gdN rfl rfl (iw35 _ (List.mem_of_getElem? (i := 13) rfl))) (List.mem_cons_of_mem _ (iw35 _ (List.mem_of_getElem? (i := 12) rfl))) (List.mem_cons_of_mem _ (iw1 _ (List.mem_of_getElem? (i := 2) rfl))) rfl ⟨rfl, rfl⟩ (by decide +kernel) ⟨by decide, by decide⟩ dX1_countPieces_23 rfl rfl (Nat.le_of_ble_eq_true rfl) ?_
        refine ⟨_, _, rfl, by omega, fun v5 ev5 => ?_⟩
        rw [show v3 = bO (hi 2) k by omega, show v4 = dO (hi 2) k by omega] at ev5
        refine z_iadd (pc := 26) dX1_countPieces_26 (fun v6 ev6 => ?_)
        refine z_istore_n (pc := 27) (lv' := [(1, AI v6), (2, AI k), (0, AR 2)]) dX1_countPieces_27 rfl (by decide) rfl ?_
        refine z_iinc (pc := 28) (j := 1) (w := fun q => (2, AI q) :: [(1, AI v6), (0, AR 2)]) dX1_countPieces_28 rfl (by decide) (fun _ => rfl) (fun v7 ev7 => ?_)
        refine z_goto (pc := 31) (tgt := 4) dX1_countPieces_31 (by decide) ?_
        exact ih4 v7 v6 (by omega) (sm_step (by omega) (by omega) i1 (by omega)) (by omega)
  exact J4 _ 0 0 (by omega) (sm_0 rfl rfl) (Nat.lt_succ_self _)

abbrev kX1_hoursOf : Kd := (cX1_hoursOf, .code yX1_hoursOf cX1_hoursOf 6 (some .long) :: wsL_law0, rmL 2, RX1, (some .long), 6)
theorem ct_X1_hoursOf : Ct kX1_hoursOf yX1_hoursOf (fun a hi Q => ∃ x : Int, ∃ o : Int, a = [AR 2, AI x, AI o] ∧ (RI (hi 2) (hi 2 1) ∧ inR x ∧ inR o) ∧ ∀ v : Int, (inL v ∧ ∀ h : Int, 0 ≤ h → h < 64 → (bit v h ↔ Hrs (hi 2) (hi 2 1) x o h)) → Q (AL v) hi) := by
  refine Ct.of (ws' := _) (by decide +kernel) rfl rfl ?_
  intro a hi Q hT
  obtain ⟨x, o, rfl, hpre, hQ⟩ := hT
  refine ⟨Nat.le_of_ble_eq_true rfl, ?_⟩
  show Z kX1_hoursOf Q 0 [(0, AR 2), (1, AI x), (2, AI o)] [] hi
  refine z_lconst (pc := 0) (v := 0) dX1_hoursOf_0 (by decide +kernel) ?_
  refine z_lstore_n (pc := 1) (lv' := [(3, AL 0), (0, AR 2), (1, AI x), (2, AI o)]) dX1_hoursOf_1 rfl (by decide) rfl ?_
  refine z_iconst (pc := 2) (v := 0) dX1_hoursOf_2 rfl ?_
  refine z_istore (pc := 3) (lv' := [(5, AI 0), (3, AL 0), (0, AR 2), (1, AI x), (2, AI o)]) dX1_hoursOf_3 (by decide) rfl ?_
  have h0 := hpre.1.1
  have J5 : ∀ (N : Nat) (acc k : Int), (0 ≤ k ∧ k ≤ hi 2 1) → (∀ h : Int, 0 ≤ h → h < 64 → (bit acc h ↔ Hrs (hi 2) k x o h)) → (inL acc) → ((hi 2 1 - k).toNat) < N → Z kX1_hoursOf Q 5 [(5, AI k), (3, AL acc), (0, AR 2), (1, AI x), (2, AI o)] [] hi := by
    intro N
    induction N with
    | zero => intro acc k _ _ _ _; exact absurd (by assumption) (Nat.not_lt_zero _)
    | succ N ih5 =>
      intro acc k i0 i1 i2 hm5
      refine z_iload (pc := 5) dX1_hoursOf_5 0 rfl ?_
      refine z_aload_n (pc := 7) (x := 2) dX1_hoursOf_7 rfl 2 rfl ?_
      refine z_callV (pc := 8) (kc := kX1_size) (n := 0) (pl := 1) (ci := 1) (C := RX1) (As := []) (stk := [AI k]) ct_X1_size (gdV rfl rfl (iw7 _ (List.mem_of_getElem? (i := 1) rfl)) (iw7 _ (List.mem_of_getElem? (i := 2) rfl)) (iw7 _ (List.mem_of_getElem? (i := 3) rfl)) (iw1 _ (List.mem_of_getElem? (i := 15) rfl)) (iw7 _ (List.mem_of_getElem? (i := 4) rfl))) rfl ⟨rfl, rfl⟩ (by decide +kernel) ⟨by decide, by decide⟩ (by decide) rfl rfl dX1_hoursOf_8 rfl rfl (Nat.le_of_ble_eq_true rfl) ?_
      refine ⟨rfl, trivial, fun v1 ev1 => ?_⟩
      refine z_icmp_ge (pc := 11) (tgt := 54) dX1_hoursOf_11 (by decide) ⟨by omega, by omega⟩ ⟨by omega, by omega⟩ (fun c2 => ?_) (fun c2 => ?_)
      · refine z_lload_n (pc := 54) dX1_hoursOf_54 rfl 1 rfl ?_
        refine z_lret (pc := 55) rfl dX1_hoursOf_55 ?_
        exact hQ acc (⟨i2, fun h h1 h2 => by rw [i1 h h1 h2, show k = hi 2 1 by omega]⟩)
      · refine z_iload (pc := 14) dX1_hoursOf_14 0 rfl ?_
        refine z_iload_n (pc := 16) dX1_hoursOf_16 rfl 4 rfl ?_
        refine z_icmp_eq (pc := 17) (tgt := 48) dX1_hoursOf_17 (by decide) ⟨by omega, by omega⟩ ⟨by omega, by omega⟩ (fun c3 => ?_) (fun c3 => ?_)
        · refine z_iinc (pc := 48) (j := 0) (w := fun q => (5, AI q) :: [(3, AL acc), (0, AR 2), (1, AI x), (2, AI o)]) dX1_hoursOf_48 rfl (by decide) (fun _ => rfl) (fun v4 ev4 => ?_)
          refine z_goto (pc := 51) (tgt := 5) dX1_hoursOf_51 (by decide) ?_
          exact ih5 acc v4 (by omega) (by first | exact Hrs_skip (by omega) i1 (by omega) | exact Hrs_step (by omega) i0.1 i1 (by omega) (by omega) wb.2 (by assumption)) (by first | assumption | exact or_inL (by assumption)) (by omega)
        · refine z_aload_n (pc := 20) (x := 2) dX1_hoursOf_20 rfl 2 rfl ?_
          refine z_iload (pc := 21) dX1_hoursOf_21 0 rfl ?_
          refine z_callV (pc := 23) (kc := kX1_numberOf) (n := 1) (pl := 1) (ci := 1) (C := RX1) (As := [AI k]) (stk := []) ct_X1_numberOf (gdV rfl rfl (iw7 _ (List.mem_of_getElem? (i := 5) rfl)) (iw7 _ (List.mem_of_getElem? (i := 6) rfl)) (iw7 _ (List.mem_of_getElem? (i := 7) rfl)) (iw1 _ (List.mem_of_getElem? (i := 15) rfl)) (iw7 _ (List.mem_of_getElem? (i := 8) rfl))) rfl ⟨rfl, rfl⟩ (by decide +kernel) ⟨by decide, by decide⟩ (by decide) rfl rfl dX1_hoursOf_23 rfl rfl (Nat.le_of_ble_eq_true rfl) ?_
          refine ⟨_, rfl, by omega, fun v5 ev5 => ?_⟩
          have qk := hpre.1.2.1 k (by omega) (by omega)
          refine z_iload_n (pc := 26) dX1_hoursOf_26 rfl 3 rfl ?_
          refine z_icmp_ne (pc := 27) (tgt := 48) dX1_hoursOf_27 (by decide) ⟨by omega, by omega⟩ ⟨by omega, by omega⟩ (fun c6 => ?_) (fun c6 => ?_)
          · refine z_iinc (pc := 48) (j := 0) (w := fun q => (5, AI q) :: [(3, AL acc), (0, AR 2), (1, AI x), (2, AI o)]) dX1_hoursOf_48 rfl (by decide) (fun _ => rfl) (fun v7 ev7 => ?_)
            refine z_goto (pc := 51) (tgt := 5) dX1_hoursOf_51 (by decide) ?_
            exact ih5 acc v7 (by omega) (by first | exact Hrs_skip (by omega) i1 (by omega) | exact Hrs_step (by omega) i0.1 i1 (by omega) (by omega) wb.2 (by assumption)) (by first | assumption | exact or_inL (by assumption)) (by omega)
          · refine z_lload_n (pc := 30) dX1_hoursOf_30 rfl 1 rfl ?_
            refine z_aload_n (pc := 31) (x := 2) dX1_hoursOf_31 rfl 2 rfl ?_
            refine z_iload (pc := 32) dX1_hoursOf_32 0 rfl ?_
            refine z_callV (pc := 34) (kc := kX1_birthOf) (n := 1) (pl := 1) (ci := 1) (C := RX1) (As := [AI k]) (stk := [AL acc]) ct_X1_birthOf (gdV rfl rfl (iw7 _ (List.mem_of_getElem? (i := 9) rfl)) (iw7 _ (List.mem_of_getElem? (i := 10) rfl)) (iw7 _ (List.mem_of_getElem? (i := 11) rfl)) (iw1 _ (List.mem_of_getElem? (i := 15) rfl)) (iw7 _ (List.mem_of_getElem? (i := 12) rfl))) rfl ⟨rfl, rfl⟩ (by decide +kernel) ⟨by decide, by decide⟩ (by decide) rfl rfl dX1_hoursOf_34 rfl rfl (Nat.le_of_ble_eq_true rfl) ?_
            refine ⟨_, rfl, by omega, fun v8 ev8 => ?_⟩
            refine z_aload_n (pc := 37) (x := 2) dX1_hoursOf_37 rfl 2 rfl ?_
            refine z_iload (pc := 38) dX1_hoursOf_38 0 rfl ?_
            refine z_callV (pc := 40) (kc := kX1_deathOf) (n := 1) (pl := 1) (ci := 1) (C := RX1) (As := [AI k]) (stk := [AI v8, AL acc]) ct_X1_deathOf (gdV rfl rfl (iw7 _ (List.mem_of_getElem? (i := 13) rfl)) (iw7 _ (List.mem_of_getElem? (i := 14) rfl)) (iw7 _ (List.mem_of_getElem? (i := 15) rfl)) (iw1 _ (List.mem_of_getElem? (i := 15) rfl)) (iw7 _ (List.mem_of_getElem? (i := 16) rfl))) rfl ⟨rfl, rfl⟩ (by decide +kernel) ⟨by decide, by decide⟩ (by decide) rfl rfl dX1_hoursOf_40 rfl rfl (Nat.le_of_ble_eq_true rfl) ?_
            refine ⟨_, rfl, by omega, fun v9 ev9 => ?_⟩
            refine z_callSN (pc := 43) (kc := kX7_hoursFrom) (n := 2) (As := [AI v8, AI v9]) (stk := [AL acc]) ct_X7_hoursFrom (List.mem_of_getElem? (i := 3) rfl) (gdN rfl rfl (iw6 _ (List.mem_of_getElem? (i := 19) rfl))) (List.mem_cons_of_mem _ (iw6 _ (List.mem_of_getElem? (i := 18) rfl))) (List.mem_cons_of_mem _ (iw1 _ (List.mem_of_getElem? (i := 2) rfl))) rfl ⟨rfl, rfl⟩ (by decide +kernel) ⟨by decide, by decide⟩ dX1_hoursOf_43 rfl rfl (Nat.le_of_ble_eq_true rfl) ?_
            refine ⟨_, _, rfl, by omega, fun v10 ev10 => ?_⟩
            have wb := ev10
            rw [show v8 = bO (hi 2) k by omega, show v9 = dO (hi 2) k by omega] at wb
            refine z_lor (pc := 46) dX1_hoursOf_46 (fun v11 ev11 => ?_)
            refine z_lstore_n (pc := 47) (lv' := [(3, AL v11), (5, AI k), (0, AR 2), (1, AI x), (2, AI o)]) dX1_hoursOf_47 rfl (by decide) rfl ?_
            refine z_iinc (pc := 48) (j := 1) (w := fun q => (5, AI q) :: [(3, AL v11), (0, AR 2), (1, AI x), (2, AI o)]) dX1_hoursOf_48 rfl (by decide) (fun _ => rfl) (fun v12 ev12 => ?_)
            refine z_goto (pc := 51) (tgt := 5) dX1_hoursOf_51 (by decide) ?_
            exact ih5 v11 v12 (by omega) (by first | exact Hrs_skip (by omega) i1 (by omega) | exact Hrs_step (by omega) i0.1 i1 (by omega) (by omega) wb.2 (by assumption)) (by first | assumption | exact or_inL (by assumption)) (by omega)
  exact J5 _ 0 0 (by omega) (Hrs_0 rfl rfl) (⟨by decide, by decide⟩) (Nat.lt_succ_self _)
