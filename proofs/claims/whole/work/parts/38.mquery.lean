abbrev kX8_cover : Kd := (cX8_cover, .code yX8_cover cX8_cover 5 (some .int) :: wsL_law0, rmL 5, RX8, (some .int), 5)
theorem ct_X8_cover : Ct kX8_cover yX8_cover (fun a hi Q => ∃ x : Int, ∃ h : Int, a = [AR 40, AI x, AI h] ∧ (RI (hi 40) (hi 40 0) ∧ inR x ∧ inR h) ∧ ∀ (v : Int) (h2 : HI), (Fr [39] hi h2 ∧ (h2 = Z0 hi ∧ ((v = -1 ∧ ¬ ((0 ≤ x ∧ x ≤ 999) ∧ (0 ≤ h ∧ h < 64))) ∨ (((0 ≤ x ∧ x ≤ 999) ∧ (0 ≤ h ∧ h < 64)) ∧ ∃ k : Int, Fst (fun z => nO (hi 40) z = x ∧ al (hi 40) z h) (hi 40 0) k ∧ ((k < 0 ∧ v = -2) ∨ (0 ≤ k ∧ Top h (bO (hi 40) k) (dO (hi 40) k) v)))))) → Q (AI v) h2) := by
  refine Ct.of (ws' := _) (by decide +kernel) rfl rfl ?_
  intro a hi Q hT
  obtain ⟨x, h, rfl, hpre, hQ⟩ := hT
  refine ⟨Nat.le_of_ble_eq_true rfl, ?_⟩
  show Z kX8_cover Q 0 [(0, AR 40), (1, AI x), (2, AI h)] [] hi
  refine z_aload_n (pc := 0) (x := 40) dX8_cover_0 rfl 0 rfl ?_
  refine z_iconst (pc := 1) (v := 0) dX8_cover_1 rfl ?_
  refine z_putI (pc := 2) (pl := 39) (f := 0) (ci := 7) (C := RX8) (T := TX8) (N := 33) hu_X8 tyX8_ok nmX8 (by decide) rfl rfl (by decide) rfl (List.mem_cons_of_mem _ (iw8 _ (List.mem_of_getElem? (i := 22) rfl))) rfl rfl (ty := .int) (by decide +kernel) rfl rfl ⟨by decide, by decide⟩ dX8_cover_2 (fun h1 eh1 => ?_)
  have frh1 : Fr [39] hi h1 := (Fr.put (Fr.rf) eh1 (by decide))
  have z1 : h1 = Z0 hi := eh1
  have n0 := hpre.1.1
  have e40 : h1 40 = hi 40 := by rw [z1]; rfl
  refine z_iload_n (pc := 5) dX8_cover_5 rfl 1 rfl ?_
  refine z_callS (pc := 6) (kc := kX8_isNumber) (n := 1) (As := [AI x]) (stk := []) ct_X8_isNumber (gdS rfl rfl (iw9 _ (List.mem_of_getElem? (i := 5) rfl)) (iw9 _ (List.mem_of_getElem? (i := 6) rfl)) (iw1 _ (List.mem_of_getElem? (i := 5) rfl)) (iw9 _ (List.mem_of_getElem? (i := 7) rfl))) rfl ⟨rfl, rfl⟩ (by decide +kernel) ⟨by decide, by decide⟩ dX8_cover_6 rfl rfl (Nat.le_of_ble_eq_true rfl) ?_
  refine ⟨_, rfl, by omega, fun v2 ev2 => ?_⟩
  refine z_if_eq (pc := 9) (tgt := 19) dX8_cover_9 (by decide) ⟨by omega, by omega⟩ (fun c3 => ?_) (fun c3 => ?_)
  · refine z_iconst (pc := 19) (v := (-1)) dX8_cover_19 rfl ?_
    refine z_iret (pc := 20) rfl dX8_cover_20 ?_
    exact hQ (-1) h1 ⟨frh1, ⟨z1, by first | exact Or.inl ⟨rfl, by omega⟩ | exact Or.inr ⟨by omega, _, wf, Or.inl ⟨by omega, rfl⟩⟩ | exact Or.inr ⟨by omega, _, wf, Or.inr ⟨by omega, cli_out (by omega) i1 (bT w49 (by omega))⟩⟩⟩⟩
  · refine z_iload_n (pc := 12) dX8_cover_12 rfl 2 rfl ?_
    refine z_callS (pc := 13) (kc := kX8_isHour) (n := 1) (As := [AI h]) (stk := []) ct_X8_isHour (gdS rfl rfl (iw9 _ (List.mem_of_getElem? (i := 12) rfl)) (iw9 _ (List.mem_of_getElem? (i := 13) rfl)) (iw1 _ (List.mem_of_getElem? (i := 5) rfl)) (iw9 _ (List.mem_of_getElem? (i := 14) rfl))) rfl ⟨rfl, rfl⟩ (by decide +kernel) ⟨by decide, by decide⟩ dX8_cover_13 rfl rfl (Nat.le_of_ble_eq_true rfl) ?_
    refine ⟨_, rfl, by omega, fun v4 ev4 => ?_⟩
    refine z_if_ne (pc := 16) (tgt := 21) dX8_cover_16 (by decide) ⟨by omega, by omega⟩ (fun c5 => ?_) (fun c5 => ?_)
    · refine z_aload_n (pc := 21) (x := 40) dX8_cover_21 rfl 0 rfl ?_
      refine z_getR (pc := 22) (pl := 39) (f := 1) (ci := 7) (C := RX8) (T := TX8) (N := 33) hu_X8 (by decide) rfl rfl (by decide) rfl (List.mem_cons_of_mem _ (iw5 _ (List.mem_of_getElem? (i := 5) rfl))) rfl dX8_cover_22 ?_
      refine z_iload_n (pc := 25) dX8_cover_25 rfl 1 rfl ?_
      refine z_iload_n (pc := 26) dX8_cover_26 rfl 2 rfl ?_
      refine z_callS (pc := 27) (kc := kX8_lifeAt) (n := 3) (As := [AR 41, AI x, AI h]) (stk := []) ct_X8_lifeAt_40 (gdS rfl rfl (iw10 _ (List.mem_of_getElem? (i := 7) rfl)) (iw10 _ (List.mem_of_getElem? (i := 8) rfl)) (iw1 _ (List.mem_of_getElem? (i := 5) rfl)) (iw10 _ (List.mem_of_getElem? (i := 9) rfl))) rfl ⟨rfl, rfl⟩ (by decide +kernel) ⟨by decide, by decide⟩ dX8_cover_27 rfl rfl (Nat.le_of_ble_eq_true rfl) ?_
      refine ⟨_, _, rfl, by (try rw [(by rw [eh1]; rfl : h1 40 = hi 40)]); exact ⟨by omega, ⟨by omega, by omega⟩, ⟨by omega, by omega⟩⟩, fun v6 ev6 => ?_⟩
      try rw [(by rw [eh1]; rfl : h1 40 = hi 40)] at ev6
      have wf := ev6
      have gf := Fst.rng wf n0
      refine z_istore_n (pc := 30) (lv' := [(3, AI v6), (0, AR 40), (1, AI x), (2, AI h)]) dX8_cover_30 rfl (by decide) rfl ?_
      refine z_iload_n (pc := 31) dX8_cover_31 rfl 0 rfl ?_
      refine z_iconst (pc := 32) (v := (-1)) dX8_cover_32 rfl ?_
      refine z_icmp_ne (pc := 33) (tgt := 39) dX8_cover_33 (by decide) ⟨by omega, by omega⟩ ⟨by decide, by decide⟩ (fun c7 => ?_) (fun c7 => ?_)
      · refine z_bipush (pc := 39) (v := 64) dX8_cover_39 (by decide +kernel) ?_
        refine z_iload_n (pc := 41) dX8_cover_41 rfl 3 rfl ?_
        refine z_iadd (pc := 42) dX8_cover_42 (fun v8 ev8 => ?_)
        refine z_istore (pc := 43) (lv' := [(4, AI v8), (3, AI v6), (0, AR 40), (1, AI x), (2, AI h)]) dX8_cover_43 (by decide) rfl ?_
        have J45 : ∀ (N : Nat) (p : Int), (ClI h (bO (hi 40) v6) (dO (hi 40) v6) p) → (p.toNat) < N → Z kX8_cover Q 45 [(4, AI p), (3, AI v6), (0, AR 40), (1, AI x), (2, AI h)] [] h1 := by
          intro N
          induction N with
          | zero => intro p _ _; exact absurd (by assumption) (Nat.not_lt_zero _)
          | succ N ih45 =>
            intro p i1 hm45
            have bp := cli_bd (by omega) i1
            refine z_aload_n (pc := 45) (x := 40) dX8_cover_45 rfl 2 rfl ?_
            refine z_iload (pc := 46) dX8_cover_46 0 rfl ?_
            refine z_iload_n (pc := 48) dX8_cover_48 rfl 1 rfl ?_
            refine z_callV (pc := 49) (kc := kX8_isOf) (n := 2) (pl := 39) (ci := 7) (C := RX8) (As := [AI p, AI v6]) (stk := []) ct_X8_isOf (gdV rfl rfl (iw40 _ (List.mem_of_getElem? (i := 2) rfl)) (iw40 _ (List.mem_of_getElem? (i := 3) rfl)) (iw40 _ (List.mem_of_getElem? (i := 4) rfl)) (iw1 _ (List.mem_of_getElem? (i := 5) rfl)) (iw40 _ (List.mem_of_getElem? (i := 5) rfl))) rfl ⟨rfl, rfl⟩ (by decide +kernel) ⟨by decide, by decide⟩ (by decide) rfl rfl dX8_cover_49 rfl rfl (Nat.le_of_ble_eq_true rfl) ?_
            refine ⟨_, _, rfl, by rw [e40]; exact ⟨hpre.1, bp, by omega, (Fst.pos wf (by omega)).1⟩, fun v9 ev9 => ?_⟩
            try rw [(by rw [eh1]; rfl : h1 40 = hi 40)] at ev9
            have w49 := ev9
            refine z_if_ne (pc := 52) (tgt := 64) dX8_cover_52 (by decide) ⟨by omega, by omega⟩ (fun c10 => ?_) (fun c10 => ?_)
            · refine z_iload (pc := 64) dX8_cover_64 0 rfl ?_
              refine z_iret (pc := 66) rfl dX8_cover_66 ?_
              exact hQ p h1 ⟨frh1, ⟨z1, by first | exact Or.inl ⟨rfl, by omega⟩ | exact Or.inr ⟨by omega, _, wf, Or.inl ⟨by omega, rfl⟩⟩ | exact Or.inr ⟨by omega, _, wf, Or.inr ⟨by omega, cli_out (by omega) i1 (bT w49 (by omega))⟩⟩⟩⟩
            · refine z_iload (pc := 55) dX8_cover_55 0 rfl ?_
              refine z_iconst (pc := 57) (v := 2) dX8_cover_57 rfl ?_
              refine z_idiv (pc := 58) dX8_cover_58 ⟨by omega, by omega⟩ ⟨by decide, by decide⟩ (by omega) (fun v11 ev11 => ?_)
              refine z_istore (pc := 59) (lv' := [(4, AI v11), (3, AI v6), (0, AR 40), (1, AI x), (2, AI h)]) dX8_cover_59 (by decide) rfl ?_
              refine z_goto (pc := 61) (tgt := 45) dX8_cover_61 (by decide) ?_
              exact ih45 v11 ((cli_step (by omega) i1 (bF w49 (by omega)) (by omega)).1) (by have := (cli_step (by omega) i1 (bF w49 (by omega)) (show _ = p / 2 by assumption)).2; omega)
        exact J45 _ v8 (cli_0 (by omega) (by omega) (Fst.pos wf (by omega)).2.2) (Nat.lt_succ_self _)
      · refine z_bipush (pc := 36) (v := (-2)) dX8_cover_36 (by decide +kernel) ?_
        refine z_iret (pc := 38) rfl dX8_cover_38 ?_
        exact hQ (-2) h1 ⟨frh1, ⟨z1, by first | exact Or.inl ⟨rfl, by omega⟩ | exact Or.inr ⟨by omega, _, wf, Or.inl ⟨by omega, rfl⟩⟩ | exact Or.inr ⟨by omega, _, wf, Or.inr ⟨by omega, cli_out (by omega) i1 (bT w49 (by omega))⟩⟩⟩⟩
    · refine z_iconst (pc := 19) (v := (-1)) dX8_cover_19 rfl ?_
      refine z_iret (pc := 20) rfl dX8_cover_20 ?_
      exact hQ (-1) h1 ⟨frh1, ⟨z1, by first | exact Or.inl ⟨rfl, by omega⟩ | exact Or.inr ⟨by omega, _, wf, Or.inl ⟨by omega, rfl⟩⟩ | exact Or.inr ⟨by omega, _, wf, Or.inr ⟨by omega, cli_out (by omega) i1 (bT w49 (by omega))⟩⟩⟩⟩

abbrev kX8_count : Kd := (cX8_count, .code yX8_count cX8_count 4 (some .int) :: wsL_law0, rmL 6, RX8, (some .int), 4)
theorem ct_X8_count : Ct kX8_count yX8_count (fun a hi Q => ∃ y : Int, a = [AR 40, AI y] ∧ (RI (hi 40) (hi 40 0) ∧ inR y) ∧ ∀ (v : Int) (h2 : HI), (Fr [39] hi h2 ∧ (h2 = Z0 hi ∧ ((y = 0 ∧ v = hi 40 0) ∨ (y = 1 ∧ v = sm (fun z => if z = 0 ∨ nO (hi 40) z ≠ nO (hi 40) (z - 1) then 1 else 0) (hi 40 0).toNat) ∨ (y = 2 ∧ v = hi 40 1) ∨ (y = 3 ∧ v = hi 39 6) ∨ (y = 4 ∧ v = hi 39 8) ∨ (y = 5 ∧ v = sm (fun z => pcs (bO (hi 40) z) (dO (hi 40) z)) (hi 40 0).toNat) ∨ ((y < 0 ∨ 5 < y) ∧ v = -1)))) → Q (AI v) h2) := by
  refine Ct.of (ws' := _) (by decide +kernel) rfl rfl ?_
  intro a hi Q hT
  obtain ⟨y, rfl, hpre, hQ⟩ := hT
  refine ⟨Nat.le_of_ble_eq_true rfl, ?_⟩
  show Z kX8_count Q 0 [(0, AR 40), (1, AI y)] [] hi
  refine z_aload_n (pc := 0) (x := 40) dX8_count_0 rfl 0 rfl ?_
  refine z_iconst (pc := 1) (v := 0) dX8_count_1 rfl ?_
  refine z_putI (pc := 2) (pl := 39) (f := 0) (ci := 7) (C := RX8) (T := TX8) (N := 33) hu_X8 tyX8_ok nmX8 (by decide) rfl rfl (by decide) rfl (List.mem_cons_of_mem _ (iw8 _ (List.mem_of_getElem? (i := 22) rfl))) rfl rfl (ty := .int) (by decide +kernel) rfl rfl ⟨by decide, by decide⟩ dX8_count_2 (fun h1 eh1 => ?_)
  have frh1 : Fr [39] hi h1 := (Fr.put (Fr.rf) eh1 (by decide))
  have z1 : h1 = Z0 hi := eh1
  have n0 := hpre.1.1
  have e40 : h1 40 = hi 40 := by rw [z1]; rfl
  refine z_iconst (pc := 5) (v := 0) dX8_count_5 rfl ?_
  refine z_istore_n (pc := 6) (lv' := [(2, AI 0), (0, AR 40), (1, AI y)]) dX8_count_6 rfl (by decide) rfl ?_
  refine z_iload_n (pc := 7) dX8_count_7 rfl 2 rfl ?_
  refine z_tsw (pc := 8)  (x := y) (dtgt := 149) (tg := [48, 55, 104, 111, 116, 121]) dX8_count_8 ⟨by omega, by omega⟩ rfl (by decide) ?_ ?_
  · intro c2
    refine z_iconst (pc := 149) (v := (-1)) dX8_count_149 rfl ?_
    refine z_iret (pc := 150) rfl dX8_count_150 ?_
    exact hQ (-1) h1 ⟨frh1, ⟨z1, by first | omega | exact Or.inr (Or.inl ⟨by omega, by rw [i1, show k = hi 40 0 by omega]⟩) | exact Or.inr (Or.inr (Or.inr (Or.inr (Or.inr (Or.inl ⟨by omega, by rw [i1, show k = hi 40 0 by omega]⟩)))))⟩⟩
  · refine ⟨fun c2 => ?_, fun c2 => ?_, fun c2 => ?_, fun c2 => ?_, fun c2 => ?_, fun c2 => ?_, trivial⟩
    · refine z_aload_n (pc := 48) (x := 40) dX8_count_48 rfl 1 rfl ?_
      refine z_getR (pc := 49) (pl := 39) (f := 1) (ci := 7) (C := RX8) (T := TX8) (N := 33) hu_X8 (by decide) rfl rfl (by decide) rfl (List.mem_cons_of_mem _ (iw5 _ (List.mem_of_getElem? (i := 5) rfl))) rfl dX8_count_49 ?_
      refine z_iconst (pc := 52) (v := 0) dX8_count_52 rfl ?_
      refine z_iald (pc := 53) (pl := 40) (by decide) rfl (by decide) (by decide) (by decide) (by decide) dX8_count_53 (fun v3 ev3 rv3 => ?_)
      rw [(by rw [eh1]; rfl : h1 40 = hi 40)] at ev3
      replace ev3 : v3 = hi 40 0 := ev3
      refine z_iret (pc := 54) rfl dX8_count_54 ?_
      exact hQ v3 h1 ⟨frh1, ⟨z1, by first | omega | exact Or.inr (Or.inl ⟨by omega, by rw [i1, show k = hi 40 0 by omega]⟩) | exact Or.inr (Or.inr (Or.inr (Or.inr (Or.inr (Or.inl ⟨by omega, by rw [i1, show k = hi 40 0 by omega]⟩)))))⟩⟩
    · refine z_iconst (pc := 55) (v := 0) dX8_count_55 rfl ?_
      refine z_istore_n (pc := 56) (lv' := [(3, AI 0), (2, AI 0), (0, AR 40), (1, AI y)]) dX8_count_56 rfl (by decide) rfl ?_
      have J57 : ∀ (N : Nat) (k acc : Int), (0 ≤ k ∧ k ≤ hi 40 0) → (acc = sm (fun z => if z = 0 ∨ nO (hi 40) z ≠ nO (hi 40) (z - 1) then 1 else 0) k.toNat) → ((hi 40 0 - k).toNat) < N → Z kX8_count Q 57 [(3, AI k), (2, AI acc), (0, AR 40), (1, AI y)] [] h1 := by
        intro N
        induction N with
        | zero => intro k acc _ _ _; exact absurd (by assumption) (Nat.not_lt_zero _)
        | succ N ih57 =>
          intro k acc i0 i1 hm57
          refine z_iload_n (pc := 57) dX8_count_57 rfl 0 rfl ?_
          refine z_aload_n (pc := 58) (x := 40) dX8_count_58 rfl 2 rfl ?_
          refine z_getR (pc := 59) (pl := 39) (f := 1) (ci := 7) (C := RX8) (T := TX8) (N := 33) hu_X8 (by decide) rfl rfl (by decide) rfl (List.mem_cons_of_mem _ (iw5 _ (List.mem_of_getElem? (i := 5) rfl))) rfl dX8_count_59 ?_
          refine z_iconst (pc := 62) (v := 0) dX8_count_62 rfl ?_
          refine z_iald (pc := 63) (pl := 40) (by decide) rfl (by decide) (by decide) (by decide) (by decide) dX8_count_63 (fun v4 ev4 rv4 => ?_)
          rw [(by rw [eh1]; rfl : h1 40 = hi 40)] at ev4
          replace ev4 : v4 = hi 40 0 := ev4
          refine z_icmp_ge (pc := 64) (tgt := 102) dX8_count_64 (by decide) ⟨by omega, by omega⟩ ⟨by omega, by omega⟩ (fun c5 => ?_) (fun c5 => ?_)
          · refine z_iload_n (pc := 102) dX8_count_102 rfl 1 rfl ?_
            refine z_iret (pc := 103) rfl dX8_count_103 ?_
            exact hQ acc h1 ⟨frh1, ⟨z1, by first | omega | exact Or.inr (Or.inl ⟨by omega, by rw [i1, show k = hi 40 0 by omega]⟩) | exact Or.inr (Or.inr (Or.inr (Or.inr (Or.inr (Or.inl ⟨by omega, by rw [i1, show k = hi 40 0 by omega]⟩)))))⟩⟩
          · refine z_iload_n (pc := 67) dX8_count_67 rfl 1 rfl ?_
            refine z_iload_n (pc := 68) dX8_count_68 rfl 0 rfl ?_
            refine z_if_eq (pc := 69) (tgt := 89) dX8_count_69 (by decide) ⟨by omega, by omega⟩ (fun c6 => ?_) (fun c6 => ?_)
            · refine z_iconst (pc := 89) (v := 1) dX8_count_89 rfl ?_
              refine z_goto (pc := 90) (tgt := 94) dX8_count_90 (by decide) ?_
              refine z_iadd (pc := 94) dX8_count_94 (fun v7 ev7 => ?_)
              refine z_istore_n (pc := 95) (lv' := [(2, AI v7), (3, AI k), (0, AR 40), (1, AI y)]) dX8_count_95 rfl (by decide) rfl ?_
              refine z_iinc (pc := 96) (j := 1) (w := fun q => (3, AI q) :: [(2, AI v7), (0, AR 40), (1, AI y)]) dX8_count_96 rfl (by decide) (fun _ => rfl) (fun v8 ev8 => ?_)
              refine z_goto (pc := 99) (tgt := 57) dX8_count_99 (by decide) ?_
              exact ih57 v8 v7 (by omega) (sm_step (by omega) (by omega) i1 (by first | omega | (split <;> omega))) (by omega)
            · refine z_aload_n (pc := 72) (x := 40) dX8_count_72 rfl 2 rfl ?_
              refine z_iload_n (pc := 73) dX8_count_73 rfl 0 rfl ?_
              refine z_iconst (pc := 74) (v := 0) dX8_count_74 rfl ?_
              refine z_callV (pc := 75) (kc := kX8_its) (n := 2) (pl := 39) (ci := 7) (C := RX8) (As := [AI k, AI 0]) (stk := [AI acc]) ct_X8_its (gdV rfl rfl (iw13 _ (List.mem_of_getElem? (i := 0) rfl)) (iw13 _ (List.mem_of_getElem? (i := 1) rfl)) (iw13 _ (List.mem_of_getElem? (i := 2) rfl)) (iw1 _ (List.mem_of_getElem? (i := 5) rfl)) (iw13 _ (List.mem_of_getElem? (i := 3) rfl))) rfl ⟨rfl, rfl⟩ (by decide +kernel) ⟨by decide, by decide⟩ (by decide) rfl rfl dX8_count_75 rfl rfl (Nat.le_of_ble_eq_true rfl) ?_
              refine ⟨_, _, rfl, by omega, fun v9 ev9 => ?_⟩
              try rw [(by rw [eh1]; rfl : h1 40 = hi 40)] at ev9
              replace ev9 : v9 = nO (hi 40) k ∧ inR v9 := ev9
              refine z_aload_n (pc := 78) (x := 40) dX8_count_78 rfl 2 rfl ?_
              refine z_iload_n (pc := 79) dX8_count_79 rfl 0 rfl ?_
              refine z_iconst (pc := 80) (v := 1) dX8_count_80 rfl ?_
              refine z_isub (pc := 81) dX8_count_81 (fun v10 ev10 => ?_)
              refine z_iconst (pc := 82) (v := 0) dX8_count_82 rfl ?_
              refine z_callV (pc := 83) (kc := kX8_its) (n := 2) (pl := 39) (ci := 7) (C := RX8) (As := [AI v10, AI 0]) (stk := [AI v9, AI acc]) ct_X8_its (gdV rfl rfl (iw13 _ (List.mem_of_getElem? (i := 0) rfl)) (iw13 _ (List.mem_of_getElem? (i := 1) rfl)) (iw13 _ (List.mem_of_getElem? (i := 2) rfl)) (iw1 _ (List.mem_of_getElem? (i := 5) rfl)) (iw13 _ (List.mem_of_getElem? (i := 3) rfl))) rfl ⟨rfl, rfl⟩ (by decide +kernel) ⟨by decide, by decide⟩ (by decide) rfl rfl dX8_count_83 rfl rfl (Nat.le_of_ble_eq_true rfl) ?_
              refine ⟨_, _, rfl, by omega, fun v11 ev11 => ?_⟩
              try rw [(by rw [eh1]; rfl : h1 40 = hi 40)] at ev11
              replace ev11 : v11 = nO (hi 40) v10 ∧ inR v11 := ev11
              rw [show v10 = k - 1 by omega] at ev11
              refine z_icmp_eq (pc := 86) (tgt := 93) dX8_count_86 (by decide) ⟨by omega, by omega⟩ ⟨by omega, by omega⟩ (fun c12 => ?_) (fun c12 => ?_)
              · refine z_iconst (pc := 93) (v := 0) dX8_count_93 rfl ?_
                refine z_iadd (pc := 94) dX8_count_94 (fun v13 ev13 => ?_)
                refine z_istore_n (pc := 95) (lv' := [(2, AI v13), (3, AI k), (0, AR 40), (1, AI y)]) dX8_count_95 rfl (by decide) rfl ?_
                refine z_iinc (pc := 96) (j := 1) (w := fun q => (3, AI q) :: [(2, AI v13), (0, AR 40), (1, AI y)]) dX8_count_96 rfl (by decide) (fun _ => rfl) (fun v14 ev14 => ?_)
                refine z_goto (pc := 99) (tgt := 57) dX8_count_99 (by decide) ?_
                exact ih57 v14 v13 (by omega) (sm_step (by omega) (by omega) i1 (by first | omega | (split <;> omega))) (by omega)
              · refine z_iconst (pc := 89) (v := 1) dX8_count_89 rfl ?_
                refine z_goto (pc := 90) (tgt := 94) dX8_count_90 (by decide) ?_
                refine z_iadd (pc := 94) dX8_count_94 (fun v15 ev15 => ?_)
                refine z_istore_n (pc := 95) (lv' := [(2, AI v15), (3, AI k), (0, AR 40), (1, AI y)]) dX8_count_95 rfl (by decide) rfl ?_
                refine z_iinc (pc := 96) (j := 1) (w := fun q => (3, AI q) :: [(2, AI v15), (0, AR 40), (1, AI y)]) dX8_count_96 rfl (by decide) (fun _ => rfl) (fun v16 ev16 => ?_)
                refine z_goto (pc := 99) (tgt := 57) dX8_count_99 (by decide) ?_
                exact ih57 v16 v15 (by omega) (sm_step (by omega) (by omega) i1 (by first | omega | (split <;> omega))) (by omega)
      exact J57 _ 0 0 (by omega) (sm_0 rfl rfl) (Nat.lt_succ_self _)
    · refine z_aload_n (pc := 104) (x := 40) dX8_count_104 rfl 1 rfl ?_
      refine z_getR (pc := 105) (pl := 39) (f := 1) (ci := 7) (C := RX8) (T := TX8) (N := 33) hu_X8 (by decide) rfl rfl (by decide) rfl (List.mem_cons_of_mem _ (iw5 _ (List.mem_of_getElem? (i := 5) rfl))) rfl dX8_count_105 ?_
      refine z_iconst (pc := 108) (v := 1) dX8_count_108 rfl ?_
      refine z_iald (pc := 109) (pl := 40) (by decide) rfl (by decide) (by decide) (by decide) (by decide) dX8_count_109 (fun v17 ev17 rv17 => ?_)
      rw [(by rw [eh1]; rfl : h1 40 = hi 40)] at ev17
      replace ev17 : v17 = hi 40 1 := ev17
      refine z_iret (pc := 110) rfl dX8_count_110 ?_
      exact hQ v17 h1 ⟨frh1, ⟨z1, by first | omega | exact Or.inr (Or.inl ⟨by omega, by rw [i1, show k = hi 40 0 by omega]⟩) | exact Or.inr (Or.inr (Or.inr (Or.inr (Or.inr (Or.inl ⟨by omega, by rw [i1, show k = hi 40 0 by omega]⟩)))))⟩⟩
    · refine z_aload_n (pc := 111) (x := 40) dX8_count_111 rfl 1 rfl ?_
      refine z_getI (pc := 112) (pl := 39) (f := 6) (ci := 7) (C := RX8) (T := TX8) (N := 33) hu_X8 (by decide) rfl rfl (by decide) rfl (List.mem_cons_of_mem _ (iw11 _ (List.mem_of_getElem? (i := 8) rfl))) rfl (by decide) dX8_count_112 (fun v18 ev18 rv18 => ?_)
      rw [(by rw [eh1]; rfl : h1 39 6 = hi 39 6)] at ev18
      refine z_iret (pc := 115) rfl dX8_count_115 ?_
      exact hQ v18 h1 ⟨frh1, ⟨z1, by first | omega | exact Or.inr (Or.inl ⟨by omega, by rw [i1, show k = hi 40 0 by omega]⟩) | exact Or.inr (Or.inr (Or.inr (Or.inr (Or.inr (Or.inl ⟨by omega, by rw [i1, show k = hi 40 0 by omega]⟩)))))⟩⟩
    · refine z_aload_n (pc := 116) (x := 40) dX8_count_116 rfl 1 rfl ?_
      refine z_getI (pc := 117) (pl := 39) (f := 8) (ci := 7) (C := RX8) (T := TX8) (N := 33) hu_X8 (by decide) rfl rfl (by decide) rfl (List.mem_cons_of_mem _ (iw17 _ (List.mem_of_getElem? (i := 20) rfl))) rfl (by decide) dX8_count_117 (fun v19 ev19 rv19 => ?_)
      rw [(by rw [eh1]; rfl : h1 39 8 = hi 39 8)] at ev19
      refine z_iret (pc := 120) rfl dX8_count_120 ?_
      exact hQ v19 h1 ⟨frh1, ⟨z1, by first | omega | exact Or.inr (Or.inl ⟨by omega, by rw [i1, show k = hi 40 0 by omega]⟩) | exact Or.inr (Or.inr (Or.inr (Or.inr (Or.inr (Or.inl ⟨by omega, by rw [i1, show k = hi 40 0 by omega]⟩)))))⟩⟩
    · refine z_iconst (pc := 121) (v := 0) dX8_count_121 rfl ?_
      refine z_istore_n (pc := 122) (lv' := [(3, AI 0), (2, AI 0), (0, AR 40), (1, AI y)]) dX8_count_122 rfl (by decide) rfl ?_
      have J123 : ∀ (N : Nat) (k acc : Int), (0 ≤ k ∧ k ≤ hi 40 0) → (acc = sm (fun z => pcs (bO (hi 40) z) (dO (hi 40) z)) k.toNat) → ((hi 40 0 - k).toNat) < N → Z kX8_count Q 123 [(3, AI k), (2, AI acc), (0, AR 40), (1, AI y)] [] h1 := by
        intro N
        induction N with
        | zero => intro k acc _ _ _; exact absurd (by assumption) (Nat.not_lt_zero _)
        | succ N ih123 =>
          intro k acc i0 i1 hm123
          refine z_iload_n (pc := 123) dX8_count_123 rfl 0 rfl ?_
          refine z_aload_n (pc := 124) (x := 40) dX8_count_124 rfl 2 rfl ?_
          refine z_getR (pc := 125) (pl := 39) (f := 1) (ci := 7) (C := RX8) (T := TX8) (N := 33) hu_X8 (by decide) rfl rfl (by decide) rfl (List.mem_cons_of_mem _ (iw5 _ (List.mem_of_getElem? (i := 5) rfl))) rfl dX8_count_125 ?_
          refine z_iconst (pc := 128) (v := 0) dX8_count_128 rfl ?_
          refine z_iald (pc := 129) (pl := 40) (by decide) rfl (by decide) (by decide) (by decide) (by decide) dX8_count_129 (fun v20 ev20 rv20 => ?_)
          rw [(by rw [eh1]; rfl : h1 40 = hi 40)] at ev20
          replace ev20 : v20 = hi 40 0 := ev20
          refine z_icmp_ge (pc := 130) (tgt := 147) dX8_count_130 (by decide) ⟨by omega, by omega⟩ ⟨by omega, by omega⟩ (fun c21 => ?_) (fun c21 => ?_)
          · refine z_iload_n (pc := 147) dX8_count_147 rfl 1 rfl ?_
            refine z_iret (pc := 148) rfl dX8_count_148 ?_
            exact hQ acc h1 ⟨frh1, ⟨z1, by first | omega | exact Or.inr (Or.inl ⟨by omega, by rw [i1, show k = hi 40 0 by omega]⟩) | exact Or.inr (Or.inr (Or.inr (Or.inr (Or.inr (Or.inl ⟨by omega, by rw [i1, show k = hi 40 0 by omega]⟩)))))⟩⟩
          · refine z_iload_n (pc := 133) dX8_count_133 rfl 1 rfl ?_
            refine z_aload_n (pc := 134) (x := 40) dX8_count_134 rfl 2 rfl ?_
            refine z_iload_n (pc := 135) dX8_count_135 rfl 0 rfl ?_
            refine z_callV (pc := 136) (kc := kX8_piecesOf) (n := 1) (pl := 39) (ci := 7) (C := RX8) (As := [AI k]) (stk := [AI acc]) ct_X8_piecesOf (gdV rfl rfl (iw39 _ (List.mem_of_getElem? (i := 22) rfl)) (iw39 _ (List.mem_of_getElem? (i := 23) rfl)) (iw40 _ (List.mem_of_getElem? (i := 0) rfl)) (iw1 _ (List.mem_of_getElem? (i := 5) rfl)) (iw40 _ (List.mem_of_getElem? (i := 1) rfl))) rfl ⟨rfl, rfl⟩ (by decide +kernel) ⟨by decide, by decide⟩ (by decide) rfl rfl dX8_count_136 rfl rfl (Nat.le_of_ble_eq_true rfl) ?_
            refine ⟨_, rfl, by rw [e40]; exact ⟨hpre.1, by omega, by omega⟩, fun v22 ev22 => ?_⟩
            try rw [(by rw [eh1]; rfl : h1 40 = hi 40)] at ev22
            refine z_iadd (pc := 139) dX8_count_139 (fun v23 ev23 => ?_)
            refine z_istore_n (pc := 140) (lv' := [(2, AI v23), (3, AI k), (0, AR 40), (1, AI y)]) dX8_count_140 rfl (by decide) rfl ?_
            refine z_iinc (pc := 141) (j := 1) (w := fun q => (3, AI q) :: [(2, AI v23), (0, AR 40), (1, AI y)]) dX8_count_141 rfl (by decide) (fun _ => rfl) (fun v24 ev24 => ?_)
            refine z_goto (pc := 144) (tgt := 123) dX8_count_144 (by decide) ?_
            exact ih123 v24 v23 (by omega) (sm_step (by omega) (by omega) i1 (by omega)) (by omega)
      exact J123 _ 0 0 (by omega) (sm_0 rfl rfl) (Nat.lt_succ_self _)

abbrev kX8_life : Kd := (cX8_life, .code yX8_life cX8_life 3 (some .int) :: wsL_law0, rmL 6, RX8, (some .int), 3)
theorem ct_X8_life : Ct kX8_life yX8_life (fun a hi Q => ∃ k : Int, ∃ y : Int, a = [AR 40, AI k, AI y] ∧ (RI (hi 40) (hi 40 0) ∧ inR k ∧ inR y) ∧ ∀ (v : Int) (h2 : HI), (Fr [39] hi h2 ∧ ((((k < 0 ∨ hi 40 0 ≤ k) ∨ y < 0 ∨ 4 < y) ∧ v = 0 ∧ h2 = hput hi 39 (updI (hi 39) 0 1)) ∨ (((0 ≤ k ∧ k < hi 40 0) ∧ 0 ≤ y ∧ y ≤ 4) ∧ h2 = Z0 hi ∧ ((y = 4 ∧ v = pcs (bO (hi 40) k) (dO (hi 40) k)) ∨ (y < 4 ∧ v = eO (hi 40) k y))))) → Q (AI v) h2) := by
  refine Ct.of (ws' := _) (by decide +kernel) rfl rfl ?_
  intro a hi Q hT
  obtain ⟨k, y, rfl, hpre, hQ⟩ := hT
  refine ⟨Nat.le_of_ble_eq_true rfl, ?_⟩
  show Z kX8_life Q 0 [(0, AR 40), (1, AI k), (2, AI y)] [] hi
  refine z_aload_n (pc := 0) (x := 40) dX8_life_0 rfl 0 rfl ?_
  refine z_iload_n (pc := 1) dX8_life_1 rfl 1 rfl ?_
  refine z_if_lt (pc := 2) (tgt := 27) dX8_life_2 (by decide) ⟨by omega, by omega⟩ (fun c1 => ?_) (fun c1 => ?_)
  · refine z_iconst (pc := 27) (v := 1) dX8_life_27 rfl ?_
    refine z_goto (pc := 28) (tgt := 32) dX8_life_28 (by decide) ?_
    refine z_putI (pc := 32) (pl := 39) (f := 0) (ci := 7) (C := RX8) (T := TX8) (N := 33) hu_X8 tyX8_ok nmX8 (by decide) rfl rfl (by decide) rfl (List.mem_cons_of_mem _ (iw8 _ (List.mem_of_getElem? (i := 22) rfl))) rfl rfl (ty := .int) (by decide +kernel) rfl rfl ⟨by decide, by decide⟩ dX8_life_32 (fun h2 eh2 => ?_)
    have frh2 : Fr [39] hi h2 := (Fr.put (Fr.rf) eh2 (by decide))
    have wz := eh2
    have n0 := hpre.1.1
    have e40 : h2 40 = hi 40 := by rw [wz]; rfl
    refine z_aload_n (pc := 35) (x := 40) dX8_life_35 rfl 0 rfl ?_
    refine z_getI (pc := 36) (pl := 39) (f := 0) (ci := 7) (C := RX8) (T := TX8) (N := 33) hu_X8 (by decide) rfl rfl (by decide) rfl (List.mem_cons_of_mem _ (iw8 _ (List.mem_of_getElem? (i := 22) rfl))) rfl (by decide) dX8_life_36 (fun v3 ev3 rv3 => ?_)
    rw [(by rw [eh2]; rfl : h2 39 0 = 1)] at ev3
    refine z_iconst (pc := 39) (v := 1) dX8_life_39 rfl ?_
    refine z_icmp_ne (pc := 40) (tgt := 47) dX8_life_40 (by decide) ⟨by omega, by omega⟩ ⟨by decide, by decide⟩ (fun c4 => ?_) (fun c4 => ?_)
    · refine z_iload_n (pc := 47) dX8_life_47 rfl 2 rfl ?_
      refine z_iconst (pc := 48) (v := 4) dX8_life_48 rfl ?_
      refine z_icmp_ne (pc := 49) (tgt := 60) dX8_life_49 (by decide) ⟨by omega, by omega⟩ ⟨by decide, by decide⟩ (fun c5 => ?_) (fun c5 => ?_)
      · refine z_aload_n (pc := 60) (x := 40) dX8_life_60 rfl 0 rfl ?_
        refine z_iload_n (pc := 61) dX8_life_61 rfl 1 rfl ?_
        refine z_iload_n (pc := 62) dX8_life_62 rfl 2 rfl ?_
        refine z_callV (pc := 63) (kc := kX8_its) (n := 2) (pl := 39) (ci := 7) (C := RX8) (As := [AI k, AI y]) (stk := []) ct_X8_its (gdV rfl rfl (iw13 _ (List.mem_of_getElem? (i := 0) rfl)) (iw13 _ (List.mem_of_getElem? (i := 1) rfl)) (iw13 _ (List.mem_of_getElem? (i := 2) rfl)) (iw1 _ (List.mem_of_getElem? (i := 5) rfl)) (iw13 _ (List.mem_of_getElem? (i := 3) rfl))) rfl ⟨rfl, rfl⟩ (by decide +kernel) ⟨by decide, by decide⟩ (by decide) rfl rfl dX8_life_63 rfl rfl (Nat.le_of_ble_eq_true rfl) ?_
        refine ⟨_, _, rfl, by omega, fun v6 ev6 => ?_⟩
        try rw [(by rw [eh2]; rfl : h2 40 = hi 40)] at ev6
        refine z_iret (pc := 66) rfl dX8_life_66 ?_
        exact hQ v6 h2 ⟨frh2, by first | exact Or.inl ⟨by omega, rfl, wz⟩ | exact Or.inr ⟨by omega, wz, by omega⟩ | (exfalso; omega)⟩
      · refine z_aload_n (pc := 52) (x := 40) dX8_life_52 rfl 0 rfl ?_
        refine z_iload_n (pc := 53) dX8_life_53 rfl 1 rfl ?_
        refine z_callV (pc := 54) (kc := kX8_piecesOf) (n := 1) (pl := 39) (ci := 7) (C := RX8) (As := [AI k]) (stk := []) ct_X8_piecesOf (gdV rfl rfl (iw39 _ (List.mem_of_getElem? (i := 22) rfl)) (iw39 _ (List.mem_of_getElem? (i := 23) rfl)) (iw40 _ (List.mem_of_getElem? (i := 0) rfl)) (iw1 _ (List.mem_of_getElem? (i := 5) rfl)) (iw40 _ (List.mem_of_getElem? (i := 1) rfl))) rfl ⟨rfl, rfl⟩ (by decide +kernel) ⟨by decide, by decide⟩ (by decide) rfl rfl dX8_life_54 rfl rfl (Nat.le_of_ble_eq_true rfl) ?_
        refine ⟨_, rfl, by rw [e40]; exact ⟨hpre.1, by omega⟩, fun v7 ev7 => ?_⟩
        try rw [(by rw [eh2]; rfl : h2 40 = hi 40)] at ev7
        refine z_goto (pc := 57) (tgt := 66) dX8_life_57 (by decide) ?_
        refine z_iret (pc := 66) rfl dX8_life_66 ?_
        exact hQ v7 h2 ⟨frh2, by first | exact Or.inl ⟨by omega, rfl, wz⟩ | exact Or.inr ⟨by omega, wz, by omega⟩ | (exfalso; omega)⟩
    · refine z_iconst (pc := 43) (v := 0) dX8_life_43 rfl ?_
      refine z_goto (pc := 44) (tgt := 66) dX8_life_44 (by decide) ?_
      refine z_iret (pc := 66) rfl dX8_life_66 ?_
      exact hQ 0 h2 ⟨frh2, by first | exact Or.inl ⟨by omega, rfl, wz⟩ | exact Or.inr ⟨by omega, wz, by omega⟩ | (exfalso; omega)⟩
  · refine z_iload_n (pc := 5) dX8_life_5 rfl 1 rfl ?_
    refine z_aload_n (pc := 6) (x := 40) dX8_life_6 rfl 0 rfl ?_
    refine z_getR (pc := 7) (pl := 39) (f := 1) (ci := 7) (C := RX8) (T := TX8) (N := 33) hu_X8 (by decide) rfl rfl (by decide) rfl (List.mem_cons_of_mem _ (iw5 _ (List.mem_of_getElem? (i := 5) rfl))) rfl dX8_life_7 ?_
    refine z_iconst (pc := 10) (v := 0) dX8_life_10 rfl ?_
    refine z_iald (pc := 11) (pl := 40) (by decide) rfl (by decide) (by decide) (by decide) (by decide) dX8_life_11 (fun v8 ev8 rv8 => ?_)
    replace ev8 : v8 = hi 40 0 := ev8
    refine z_icmp_ge (pc := 12) (tgt := 27) dX8_life_12 (by decide) ⟨by omega, by omega⟩ ⟨by omega, by omega⟩ (fun c9 => ?_) (fun c9 => ?_)
    · refine z_iconst (pc := 27) (v := 1) dX8_life_27 rfl ?_
      refine z_goto (pc := 28) (tgt := 32) dX8_life_28 (by decide) ?_
      refine z_putI (pc := 32) (pl := 39) (f := 0) (ci := 7) (C := RX8) (T := TX8) (N := 33) hu_X8 tyX8_ok nmX8 (by decide) rfl rfl (by decide) rfl (List.mem_cons_of_mem _ (iw8 _ (List.mem_of_getElem? (i := 22) rfl))) rfl rfl (ty := .int) (by decide +kernel) rfl rfl ⟨by decide, by decide⟩ dX8_life_32 (fun h10 eh10 => ?_)
      have frh10 : Fr [39] hi h10 := (Fr.put (Fr.rf) eh10 (by decide))
      have wz := eh10
      have n0 := hpre.1.1
      have e40 : h10 40 = hi 40 := by rw [wz]; rfl
      refine z_aload_n (pc := 35) (x := 40) dX8_life_35 rfl 0 rfl ?_
      refine z_getI (pc := 36) (pl := 39) (f := 0) (ci := 7) (C := RX8) (T := TX8) (N := 33) hu_X8 (by decide) rfl rfl (by decide) rfl (List.mem_cons_of_mem _ (iw8 _ (List.mem_of_getElem? (i := 22) rfl))) rfl (by decide) dX8_life_36 (fun v11 ev11 rv11 => ?_)
      rw [(by rw [eh10]; rfl : h10 39 0 = 1)] at ev11
      refine z_iconst (pc := 39) (v := 1) dX8_life_39 rfl ?_
      refine z_icmp_ne (pc := 40) (tgt := 47) dX8_life_40 (by decide) ⟨by omega, by omega⟩ ⟨by decide, by decide⟩ (fun c12 => ?_) (fun c12 => ?_)
      · refine z_iload_n (pc := 47) dX8_life_47 rfl 2 rfl ?_
        refine z_iconst (pc := 48) (v := 4) dX8_life_48 rfl ?_
        refine z_icmp_ne (pc := 49) (tgt := 60) dX8_life_49 (by decide) ⟨by omega, by omega⟩ ⟨by decide, by decide⟩ (fun c13 => ?_) (fun c13 => ?_)
        · refine z_aload_n (pc := 60) (x := 40) dX8_life_60 rfl 0 rfl ?_
          refine z_iload_n (pc := 61) dX8_life_61 rfl 1 rfl ?_
          refine z_iload_n (pc := 62) dX8_life_62 rfl 2 rfl ?_
          refine z_callV (pc := 63) (kc := kX8_its) (n := 2) (pl := 39) (ci := 7) (C := RX8) (As := [AI k, AI y]) (stk := []) ct_X8_its (gdV rfl rfl (iw13 _ (List.mem_of_getElem? (i := 0) rfl)) (iw13 _ (List.mem_of_getElem? (i := 1) rfl)) (iw13 _ (List.mem_of_getElem? (i := 2) rfl)) (iw1 _ (List.mem_of_getElem? (i := 5) rfl)) (iw13 _ (List.mem_of_getElem? (i := 3) rfl))) rfl ⟨rfl, rfl⟩ (by decide +kernel) ⟨by decide, by decide⟩ (by decide) rfl rfl dX8_life_63 rfl rfl (Nat.le_of_ble_eq_true rfl) ?_
          refine ⟨_, _, rfl, by omega, fun v14 ev14 => ?_⟩
          try rw [(by rw [eh10]; rfl : h10 40 = hi 40)] at ev14
          refine z_iret (pc := 66) rfl dX8_life_66 ?_
          exact hQ v14 h10 ⟨frh10, by first | exact Or.inl ⟨by omega, rfl, wz⟩ | exact Or.inr ⟨by omega, wz, by omega⟩ | (exfalso; omega)⟩
        · refine z_aload_n (pc := 52) (x := 40) dX8_life_52 rfl 0 rfl ?_
          refine z_iload_n (pc := 53) dX8_life_53 rfl 1 rfl ?_
          refine z_callV (pc := 54) (kc := kX8_piecesOf) (n := 1) (pl := 39) (ci := 7) (C := RX8) (As := [AI k]) (stk := []) ct_X8_piecesOf (gdV rfl rfl (iw39 _ (List.mem_of_getElem? (i := 22) rfl)) (iw39 _ (List.mem_of_getElem? (i := 23) rfl)) (iw40 _ (List.mem_of_getElem? (i := 0) rfl)) (iw1 _ (List.mem_of_getElem? (i := 5) rfl)) (iw40 _ (List.mem_of_getElem? (i := 1) rfl))) rfl ⟨rfl, rfl⟩ (by decide +kernel) ⟨by decide, by decide⟩ (by decide) rfl rfl dX8_life_54 rfl rfl (Nat.le_of_ble_eq_true rfl) ?_
          refine ⟨_, rfl, by rw [e40]; exact ⟨hpre.1, by omega⟩, fun v15 ev15 => ?_⟩
          try rw [(by rw [eh10]; rfl : h10 40 = hi 40)] at ev15
          refine z_goto (pc := 57) (tgt := 66) dX8_life_57 (by decide) ?_
          refine z_iret (pc := 66) rfl dX8_life_66 ?_
          exact hQ v15 h10 ⟨frh10, by first | exact Or.inl ⟨by omega, rfl, wz⟩ | exact Or.inr ⟨by omega, wz, by omega⟩ | (exfalso; omega)⟩
      · refine z_iconst (pc := 43) (v := 0) dX8_life_43 rfl ?_
        refine z_goto (pc := 44) (tgt := 66) dX8_life_44 (by decide) ?_
        refine z_iret (pc := 66) rfl dX8_life_66 ?_
        exact hQ 0 h10 ⟨frh10, by first | exact Or.inl ⟨by omega, rfl, wz⟩ | exact Or.inr ⟨by omega, wz, by omega⟩ | (exfalso; omega)⟩
    · refine z_iload_n (pc := 15) dX8_life_15 rfl 2 rfl ?_
      refine z_i2l (pc := 16) dX8_life_16 ⟨by omega, by omega⟩ ?_
      refine z_lconst (pc := 17) (v := 0) dX8_life_17 (by decide +kernel) ?_
      refine z_ldc2 (pc := 18) (v := 4) (x := 4) (List.mem_cons_of_mem _ (iw44 _ (List.mem_of_getElem? (i := 5) rfl))) (by decide +kernel) dX8_life_18 ?_
      refine z_callS (pc := 21) (kc := kX8_within) (n := 3) (As := [AL y, AL 0, AL 4]) (stk := [AR 40]) ct_X8_within (gdS rfl rfl (iw9 _ (List.mem_of_getElem? (i := 9) rfl)) (iw9 _ (List.mem_of_getElem? (i := 10) rfl)) (iw1 _ (List.mem_of_getElem? (i := 5) rfl)) (iw9 _ (List.mem_of_getElem? (i := 11) rfl))) rfl ⟨rfl, rfl⟩ (by decide +kernel) ⟨by decide, by decide⟩ dX8_life_21 rfl rfl (Nat.le_of_ble_eq_true rfl) ?_
      refine ⟨_, _, _, rfl, ⟨⟨by omega, by omega⟩, ⟨by omega, by omega⟩, ⟨by omega, by omega⟩⟩, fun v16 ev16 => ?_⟩
      refine z_if_ne (pc := 24) (tgt := 31) dX8_life_24 (by decide) ⟨by omega, by omega⟩ (fun c17 => ?_) (fun c17 => ?_)
      · refine z_iconst (pc := 31) (v := 0) dX8_life_31 rfl ?_
        refine z_putI (pc := 32) (pl := 39) (f := 0) (ci := 7) (C := RX8) (T := TX8) (N := 33) hu_X8 tyX8_ok nmX8 (by decide) rfl rfl (by decide) rfl (List.mem_cons_of_mem _ (iw8 _ (List.mem_of_getElem? (i := 22) rfl))) rfl rfl (ty := .int) (by decide +kernel) rfl rfl ⟨by decide, by decide⟩ dX8_life_32 (fun h18 eh18 => ?_)
        have frh18 : Fr [39] hi h18 := (Fr.put (Fr.rf) eh18 (by decide))
        have wz := eh18
        have n0 := hpre.1.1
        have e40 : h18 40 = hi 40 := by rw [wz]; rfl
        refine z_aload_n (pc := 35) (x := 40) dX8_life_35 rfl 0 rfl ?_
        refine z_getI (pc := 36) (pl := 39) (f := 0) (ci := 7) (C := RX8) (T := TX8) (N := 33) hu_X8 (by decide) rfl rfl (by decide) rfl (List.mem_cons_of_mem _ (iw8 _ (List.mem_of_getElem? (i := 22) rfl))) rfl (by decide) dX8_life_36 (fun v19 ev19 rv19 => ?_)
        rw [(by rw [eh18]; rfl : h18 39 0 = 0)] at ev19
        refine z_iconst (pc := 39) (v := 1) dX8_life_39 rfl ?_
        refine z_icmp_ne (pc := 40) (tgt := 47) dX8_life_40 (by decide) ⟨by omega, by omega⟩ ⟨by decide, by decide⟩ (fun c20 => ?_) (fun c20 => ?_)
        · refine z_iload_n (pc := 47) dX8_life_47 rfl 2 rfl ?_
          refine z_iconst (pc := 48) (v := 4) dX8_life_48 rfl ?_
          refine z_icmp_ne (pc := 49) (tgt := 60) dX8_life_49 (by decide) ⟨by omega, by omega⟩ ⟨by decide, by decide⟩ (fun c21 => ?_) (fun c21 => ?_)
          · refine z_aload_n (pc := 60) (x := 40) dX8_life_60 rfl 0 rfl ?_
            refine z_iload_n (pc := 61) dX8_life_61 rfl 1 rfl ?_
            refine z_iload_n (pc := 62) dX8_life_62 rfl 2 rfl ?_
            refine z_callV (pc := 63) (kc := kX8_its) (n := 2) (pl := 39) (ci := 7) (C := RX8) (As := [AI k, AI y]) (stk := []) ct_X8_its (gdV rfl rfl (iw13 _ (List.mem_of_getElem? (i := 0) rfl)) (iw13 _ (List.mem_of_getElem? (i := 1) rfl)) (iw13 _ (List.mem_of_getElem? (i := 2) rfl)) (iw1 _ (List.mem_of_getElem? (i := 5) rfl)) (iw13 _ (List.mem_of_getElem? (i := 3) rfl))) rfl ⟨rfl, rfl⟩ (by decide +kernel) ⟨by decide, by decide⟩ (by decide) rfl rfl dX8_life_63 rfl rfl (Nat.le_of_ble_eq_true rfl) ?_
            refine ⟨_, _, rfl, by omega, fun v22 ev22 => ?_⟩
            try rw [(by rw [eh18]; rfl : h18 40 = hi 40)] at ev22
            refine z_iret (pc := 66) rfl dX8_life_66 ?_
            exact hQ v22 h18 ⟨frh18, by first | exact Or.inl ⟨by omega, rfl, wz⟩ | exact Or.inr ⟨by omega, wz, by omega⟩ | (exfalso; omega)⟩
          · refine z_aload_n (pc := 52) (x := 40) dX8_life_52 rfl 0 rfl ?_
            refine z_iload_n (pc := 53) dX8_life_53 rfl 1 rfl ?_
            refine z_callV (pc := 54) (kc := kX8_piecesOf) (n := 1) (pl := 39) (ci := 7) (C := RX8) (As := [AI k]) (stk := []) ct_X8_piecesOf (gdV rfl rfl (iw39 _ (List.mem_of_getElem? (i := 22) rfl)) (iw39 _ (List.mem_of_getElem? (i := 23) rfl)) (iw40 _ (List.mem_of_getElem? (i := 0) rfl)) (iw1 _ (List.mem_of_getElem? (i := 5) rfl)) (iw40 _ (List.mem_of_getElem? (i := 1) rfl))) rfl ⟨rfl, rfl⟩ (by decide +kernel) ⟨by decide, by decide⟩ (by decide) rfl rfl dX8_life_54 rfl rfl (Nat.le_of_ble_eq_true rfl) ?_
            refine ⟨_, rfl, by rw [e40]; exact ⟨hpre.1, by omega⟩, fun v23 ev23 => ?_⟩
            try rw [(by rw [eh18]; rfl : h18 40 = hi 40)] at ev23
            refine z_goto (pc := 57) (tgt := 66) dX8_life_57 (by decide) ?_
            refine z_iret (pc := 66) rfl dX8_life_66 ?_
            exact hQ v23 h18 ⟨frh18, by first | exact Or.inl ⟨by omega, rfl, wz⟩ | exact Or.inr ⟨by omega, wz, by omega⟩ | (exfalso; omega)⟩
        · refine z_iconst (pc := 43) (v := 0) dX8_life_43 rfl ?_
          refine z_goto (pc := 44) (tgt := 66) dX8_life_44 (by decide) ?_
          refine z_iret (pc := 66) rfl dX8_life_66 ?_
          exact hQ 0 h18 ⟨frh18, by first | exact Or.inl ⟨by omega, rfl, wz⟩ | exact Or.inr ⟨by omega, wz, by omega⟩ | (exfalso; omega)⟩
      · refine z_iconst (pc := 27) (v := 1) dX8_life_27 rfl ?_
        refine z_goto (pc := 28) (tgt := 32) dX8_life_28 (by decide) ?_
        refine z_putI (pc := 32) (pl := 39) (f := 0) (ci := 7) (C := RX8) (T := TX8) (N := 33) hu_X8 tyX8_ok nmX8 (by decide) rfl rfl (by decide) rfl (List.mem_cons_of_mem _ (iw8 _ (List.mem_of_getElem? (i := 22) rfl))) rfl rfl (ty := .int) (by decide +kernel) rfl rfl ⟨by decide, by decide⟩ dX8_life_32 (fun h24 eh24 => ?_)
        have frh24 : Fr [39] hi h24 := (Fr.put (Fr.rf) eh24 (by decide))
        have wz := eh24
        have n0 := hpre.1.1
        have e40 : h24 40 = hi 40 := by rw [wz]; rfl
        refine z_aload_n (pc := 35) (x := 40) dX8_life_35 rfl 0 rfl ?_
        refine z_getI (pc := 36) (pl := 39) (f := 0) (ci := 7) (C := RX8) (T := TX8) (N := 33) hu_X8 (by decide) rfl rfl (by decide) rfl (List.mem_cons_of_mem _ (iw8 _ (List.mem_of_getElem? (i := 22) rfl))) rfl (by decide) dX8_life_36 (fun v25 ev25 rv25 => ?_)
        rw [(by rw [eh24]; rfl : h24 39 0 = 1)] at ev25
        refine z_iconst (pc := 39) (v := 1) dX8_life_39 rfl ?_
        refine z_icmp_ne (pc := 40) (tgt := 47) dX8_life_40 (by decide) ⟨by omega, by omega⟩ ⟨by decide, by decide⟩ (fun c26 => ?_) (fun c26 => ?_)
        · refine z_iload_n (pc := 47) dX8_life_47 rfl 2 rfl ?_
          refine z_iconst (pc := 48) (v := 4) dX8_life_48 rfl ?_
          refine z_icmp_ne (pc := 49) (tgt := 60) dX8_life_49 (by decide) ⟨by omega, by omega⟩ ⟨by decide, by decide⟩ (fun c27 => ?_) (fun c27 => ?_)
          · refine z_aload_n (pc := 60) (x := 40) dX8_life_60 rfl 0 rfl ?_
            refine z_iload_n (pc := 61) dX8_life_61 rfl 1 rfl ?_
            refine z_iload_n (pc := 62) dX8_life_62 rfl 2 rfl ?_
            refine z_callV (pc := 63) (kc := kX8_its) (n := 2) (pl := 39) (ci := 7) (C := RX8) (As := [AI k, AI y]) (stk := []) ct_X8_its (gdV rfl rfl (iw13 _ (List.mem_of_getElem? (i := 0) rfl)) (iw13 _ (List.mem_of_getElem? (i := 1) rfl)) (iw13 _ (List.mem_of_getElem? (i := 2) rfl)) (iw1 _ (List.mem_of_getElem? (i := 5) rfl)) (iw13 _ (List.mem_of_getElem? (i := 3) rfl))) rfl ⟨rfl, rfl⟩ (by decide +kernel) ⟨by decide, by decide⟩ (by decide) rfl rfl dX8_life_63 rfl rfl (Nat.le_of_ble_eq_true rfl) ?_
            refine ⟨_, _, rfl, by omega, fun v28 ev28 => ?_⟩
            try rw [(by rw [eh24]; rfl : h24 40 = hi 40)] at ev28
            refine z_iret (pc := 66) rfl dX8_life_66 ?_
            exact hQ v28 h24 ⟨frh24, by first | exact Or.inl ⟨by omega, rfl, wz⟩ | exact Or.inr ⟨by omega, wz, by omega⟩ | (exfalso; omega)⟩
          · refine z_aload_n (pc := 52) (x := 40) dX8_life_52 rfl 0 rfl ?_
            refine z_iload_n (pc := 53) dX8_life_53 rfl 1 rfl ?_
            refine z_callV (pc := 54) (kc := kX8_piecesOf) (n := 1) (pl := 39) (ci := 7) (C := RX8) (As := [AI k]) (stk := []) ct_X8_piecesOf (gdV rfl rfl (iw39 _ (List.mem_of_getElem? (i := 22) rfl)) (iw39 _ (List.mem_of_getElem? (i := 23) rfl)) (iw40 _ (List.mem_of_getElem? (i := 0) rfl)) (iw1 _ (List.mem_of_getElem? (i := 5) rfl)) (iw40 _ (List.mem_of_getElem? (i := 1) rfl))) rfl ⟨rfl, rfl⟩ (by decide +kernel) ⟨by decide, by decide⟩ (by decide) rfl rfl dX8_life_54 rfl rfl (Nat.le_of_ble_eq_true rfl) ?_
            refine ⟨_, rfl, by rw [e40]; exact ⟨hpre.1, by omega⟩, fun v29 ev29 => ?_⟩
            try rw [(by rw [eh24]; rfl : h24 40 = hi 40)] at ev29
            refine z_goto (pc := 57) (tgt := 66) dX8_life_57 (by decide) ?_
            refine z_iret (pc := 66) rfl dX8_life_66 ?_
            exact hQ v29 h24 ⟨frh24, by first | exact Or.inl ⟨by omega, rfl, wz⟩ | exact Or.inr ⟨by omega, wz, by omega⟩ | (exfalso; omega)⟩
        · refine z_iconst (pc := 43) (v := 0) dX8_life_43 rfl ?_
          refine z_goto (pc := 44) (tgt := 66) dX8_life_44 (by decide) ?_
          refine z_iret (pc := 66) rfl dX8_life_66 ?_
          exact hQ 0 h24 ⟨frh24, by first | exact Or.inl ⟨by omega, rfl, wz⟩ | exact Or.inr ⟨by omega, wz, by omega⟩ | (exfalso; omega)⟩

abbrev kX8_ran : Kd := (cX8_ran, .code yX8_ran cX8_ran 2 (some .int) :: wsL_law0, rmL 2, RX8, (some .int), 2)
theorem ct_X8_ran : Ct kX8_ran yX8_ran (fun a hi Q => ∃ y : Int, a = [AR 40, AI y] ∧ (inR y) ∧ ∀ (v : Int) (h2 : HI), (Fr [39] hi h2 ∧ (h2 = Z0 hi ∧ ((hi 39 21 = 0 ∧ v = -1) ∨ (hi 39 21 ≠ 0 ∧ ((0 ≤ y ∧ y ≤ 3 ∧ v = hi 48 y.toNat) ∨ ((y < 0 ∨ 3 < y) ∧ v = -1)))))) → Q (AI v) h2) := by
  refine Ct.of (ws' := _) (by decide +kernel) rfl rfl ?_
  intro a hi Q hT
  obtain ⟨y, rfl, hpre, hQ⟩ := hT
  refine ⟨Nat.le_of_ble_eq_true rfl, ?_⟩
  show Z kX8_ran Q 0 [(0, AR 40), (1, AI y)] [] hi
  refine z_aload_n (pc := 0) (x := 40) dX8_ran_0 rfl 0 rfl ?_
  refine z_iconst (pc := 1) (v := 0) dX8_ran_1 rfl ?_
  refine z_putI (pc := 2) (pl := 39) (f := 0) (ci := 7) (C := RX8) (T := TX8) (N := 33) hu_X8 tyX8_ok nmX8 (by decide) rfl rfl (by decide) rfl (List.mem_cons_of_mem _ (iw8 _ (List.mem_of_getElem? (i := 22) rfl))) rfl rfl (ty := .int) (by decide +kernel) rfl rfl ⟨by decide, by decide⟩ dX8_ran_2 (fun h1 eh1 => ?_)
  have frh1 : Fr [39] hi h1 := (Fr.put (Fr.rf) eh1 (by decide))
  have z1 : h1 = Z0 hi := eh1
  refine z_aload_n (pc := 5) (x := 40) dX8_ran_5 rfl 0 rfl ?_
  refine z_getI (pc := 6) (pl := 39) (f := 21) (ci := 7) (C := RX8) (T := TX8) (N := 33) hu_X8 (by decide) rfl rfl (by decide) rfl (List.mem_cons_of_mem _ (iw27 _ (List.mem_of_getElem? (i := 4) rfl))) rfl (by decide) dX8_ran_6 (fun v2 ev2 rv2 => ?_)
  rw [(by rw [eh1]; rfl : h1 39 21 = hi 39 21)] at ev2
  refine z_if_eq (pc := 9) (tgt := 33) dX8_ran_9 (by decide) ⟨by omega, by omega⟩ (fun c3 => ?_) (fun c3 => ?_)
  · refine z_iconst (pc := 33) (v := (-1)) dX8_ran_33 rfl ?_
    refine z_iret (pc := 34) rfl dX8_ran_34 ?_
    exact hQ (-1) h1 ⟨frh1, ⟨z1, by omega⟩⟩
  · refine z_iload_n (pc := 12) dX8_ran_12 rfl 1 rfl ?_
    refine z_i2l (pc := 13) dX8_ran_13 ⟨by omega, by omega⟩ ?_
    refine z_lconst (pc := 14) (v := 0) dX8_ran_14 (by decide +kernel) ?_
    refine z_ldc2 (pc := 15) (v := 3) (x := 3) (List.mem_cons_of_mem _ (iw31 _ (List.mem_of_getElem? (i := 7) rfl))) (by decide +kernel) dX8_ran_15 ?_
    refine z_callS (pc := 18) (kc := kX8_within) (n := 3) (As := [AL y, AL 0, AL 3]) (stk := []) ct_X8_within (gdS rfl rfl (iw9 _ (List.mem_of_getElem? (i := 9) rfl)) (iw9 _ (List.mem_of_getElem? (i := 10) rfl)) (iw1 _ (List.mem_of_getElem? (i := 5) rfl)) (iw9 _ (List.mem_of_getElem? (i := 11) rfl))) rfl ⟨rfl, rfl⟩ (by decide +kernel) ⟨by decide, by decide⟩ dX8_ran_18 rfl rfl (Nat.le_of_ble_eq_true rfl) ?_
    refine ⟨_, _, _, rfl, ⟨⟨by omega, by omega⟩, ⟨by omega, by omega⟩, ⟨by omega, by omega⟩⟩, fun v4 ev4 => ?_⟩
    refine z_if_eq (pc := 21) (tgt := 33) dX8_ran_21 (by decide) ⟨by omega, by omega⟩ (fun c5 => ?_) (fun c5 => ?_)
    · refine z_iconst (pc := 33) (v := (-1)) dX8_ran_33 rfl ?_
      refine z_iret (pc := 34) rfl dX8_ran_34 ?_
      exact hQ (-1) h1 ⟨frh1, ⟨z1, by omega⟩⟩
    · refine z_aload_n (pc := 24) (x := 40) dX8_ran_24 rfl 0 rfl ?_
      refine z_getR (pc := 25) (pl := 39) (f := 22) (ci := 7) (C := RX8) (T := TX8) (N := 33) hu_X8 (by decide) rfl rfl (by decide) rfl (List.mem_cons_of_mem _ (iw5 _ (List.mem_of_getElem? (i := 14) rfl))) rfl dX8_ran_25 ?_
      refine z_iload_n (pc := 28) dX8_ran_28 rfl 1 rfl ?_
      refine z_iald (pc := 29) (pl := 48) (by decide) rfl (by decide) (by decide) (by omega) (by omega) dX8_ran_29 (fun v6 ev6 rv6 => ?_)
      rw [(by rw [eh1]; rfl : h1 48 = hi 48)] at ev6
      refine z_goto (pc := 30) (tgt := 34) dX8_ran_30 (by decide) ?_
      refine z_iret (pc := 34) rfl dX8_ran_34 ?_
      exact hQ v6 h1 ⟨frh1, ⟨z1, by omega⟩⟩
