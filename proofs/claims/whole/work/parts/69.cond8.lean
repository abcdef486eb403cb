abbrev kX8_condition : Kd := (cX8_condition, .code yX8_condition cX8_condition 3 (some .boolean) :: wsL_law0, rmL 6, RX8, (some .boolean), 3)
theorem ct_X8_condition : Ct kX8_condition yX8_condition (fun a hi Q => ∃ S : Nat → Int, ∃ P : Nat → Int, ∃ V : Nat → Int, ∃ st : Nat → Int, ∃ m : Nat, ∃ c : Nat, a = [AR 40] ∧ (TM hi S P V st m c ∧ hi 39 15 = -1 ∧ (hi 39 28 = 0 ∨ hi 39 28 = 1)) ∧ ∀ (v : Int) (h2 : HI), (Fr [39, 49, 50] hi h2 ∧ FF 39 [10, 11, 12, 13, 14, 15, 16, 24, 26, 27] hi h2 ∧ ((v = 1 ∧ ∃ g, res (hi 39 28) S P V (0, c, [], []) = .inr g ∧ CM h2 [g] ∧ QG (hi 39 28) g ∧ h2 39 24 ≤ 600 ∧ h2 39 15 = -1) ∨ (v = 0 ∧ ∃ k p, res (hi 39 28) S P V (0, c, [], []) = .inl (k, p) ∧ FLK h2 k p))) → Q (AI v) h2) := by
  refine Ct.of (ws' := _) (by decide +kernel) rfl rfl ?_
  intro a hi Q hT
  obtain ⟨S, P, V, st, m, c, rfl, hpre, hQ⟩ := hT
  refine ⟨Nat.le_of_ble_eq_true rfl, ?_⟩
  show Z kX8_condition Q 0 [(0, AR 40)] [] hi
  have t0 := hpre.1
  obtain ⟨f15, ho⟩ := hpre.2
  refine z_aload_n (pc := 0) (x := 40) dX8_condition_0 rfl 0 rfl ?_
  refine z_iconst (pc := 1) (v := 0) dX8_condition_1 rfl ?_
  refine z_putI (pc := 2) (pl := 39) (f := 26) (ci := 7) (C := RX8) (T := TX8) (N := 33) hu_X8 tyX8_ok nmX8 (by decide) rfl rfl (by decide) rfl (List.mem_cons_of_mem _ (iw36 _ (List.mem_of_getElem? (i := 3) rfl))) rfl rfl (ty := .int) (by decide +kernel) rfl rfl ⟨by decide, by decide⟩ dX8_condition_2 (fun h1 eh1 => ?_)
  have frh1 : Fr [39, 49, 50] hi h1 := (Fr.put (Fr.rf) eh1 (by decide))
  have ff39h1 : FF 39 [10, 11, 12, 13, 14, 15, 16, 24, 26, 27] hi h1 := FF.put (FF.rf) eh1 (by decide)
  have th1 : TM h1 S P V st m c := TM.put t0 eh1 (by decide)
  refine z_aload_n (pc := 5) (x := 40) dX8_condition_5 rfl 0 rfl ?_
  refine z_iconst (pc := 6) (v := 0) dX8_condition_6 rfl ?_
  refine z_putI (pc := 7) (pl := 39) (f := 27) (ci := 7) (C := RX8) (T := TX8) (N := 33) hu_X8 tyX8_ok nmX8 (by decide) rfl rfl (by decide) rfl (List.mem_cons_of_mem _ (iw36 _ (List.mem_of_getElem? (i := 4) rfl))) rfl rfl (ty := .int) (by decide +kernel) rfl rfl ⟨by decide, by decide⟩ dX8_condition_7 (fun h2 eh2 => ?_)
  have frh2 : Fr [39, 49, 50] hi h2 := (Fr.put frh1 eh2 (by decide))
  have ff39h2 : FF 39 [10, 11, 12, 13, 14, 15, 16, 24, 26, 27] hi h2 := FF.put ff39h1 eh2 (by decide)
  have th2 : TM h2 S P V st m c := TM.put th1 eh2 (by decide)
  refine z_aload_n (pc := 10) (x := 40) dX8_condition_10 rfl 0 rfl ?_
  refine z_iconst (pc := 11) (v := 0) dX8_condition_11 rfl ?_
  refine z_putI (pc := 12) (pl := 39) (f := 24) (ci := 7) (C := RX8) (T := TX8) (N := 33) hu_X8 tyX8_ok nmX8 (by decide) rfl rfl (by decide) rfl (List.mem_cons_of_mem _ (iw36 _ (List.mem_of_getElem? (i := 5) rfl))) rfl rfl (ty := .int) (by decide +kernel) rfl rfl ⟨by decide, by decide⟩ dX8_condition_12 (fun h3 eh3 => ?_)
  have frh3 : Fr [39, 49, 50] hi h3 := (Fr.put frh2 eh3 (by decide))
  have ff39h3 : FF 39 [10, 11, 12, 13, 14, 15, 16, 24, 26, 27] hi h3 := FF.put ff39h2 eh3 (by decide)
  have th3 : TM h3 S P V st m c := TM.put th2 eh3 (by decide)
  refine z_iconst (pc := 15) (v := 1) dX8_condition_15 rfl ?_
  refine z_istore_n (pc := 16) (lv' := [(1, AI 1), (0, AR 40)]) dX8_condition_16 rfl (by decide) rfl ?_
  have J17 : ∀ (N : Nat) (k : Int) (hk : HI), ((k = 1 ∧ ∃ (c1 : Nat) (W1 : List Int) (G1 : List Ex), QS hk S P V st m (hi 39 28) 0 c1 W1 G1 ∧ res (hi 39 28) S P V (0, c, [], []) = res (hi 39 28) S P V (0, c1, W1, G1)) ∨ (k = 0 ∧ ∃ (c1 : Nat) (W1 : List Int) (G1 : List Ex), QS hk S P V st m (hi 39 28) 1 c1 W1 G1 ∧ topW W1 ≠ 7 ∧ res (hi 39 28) S P V (0, c, [], []) = res (hi 39 28) S P V (1, c1, W1, G1) ∧ S c1 ≠ 27 ∧ S c1 ≠ 28 ∧ ¬ (S c1 = 10 ∧ 10 ∈ W1))) → (Fr [39, 49, 50] hi hk) → (FF 39 [10, 11, 12, 13, 14, 15, 16, 24, 26, 27] hi hk) → ((601 - hk 39 10).toNat) < N → Z kX8_condition Q 17 [(1, AI k), (0, AR 40)] [] hk := by
    intro N
    induction N with
    | zero => intro k hk _ _ _ _; exact absurd (by assumption) (Nat.not_lt_zero _)
    | succ N ih17 =>
      intro k hk i1 frlhk ffl39hk hm17
      rcases i1 with ⟨rfl, c1, W1, G1, qk, rk⟩ | ⟨rfl, c1, W1, G1, qk, nk, rk, z27, z28, z10⟩
      · have thk := qk.1
        have bk := qk.bds
        have o28hk := qk.2.2.2.2.2.2.2.2.2.1
        have o15hk := qk.2.2.2.2.2.1
        refine z_iload_n (pc := 17) dX8_condition_17 rfl 0 rfl ?_
        refine z_if_eq (pc := 18) (tgt := 170) dX8_condition_18 (by decide) ⟨by decide, by decide⟩ (fun q => absurd q (by decide)) (fun _ => ?_)
        have J21 : ∀ (N : Nat) (hj : HI), (∃ (c2 : Nat) (W2 : List Int) (G2 : List Ex), QS hj S P V st m (hi 39 28) 0 c2 W2 G2 ∧ res (hi 39 28) S P V (0, c, [], []) = res (hi 39 28) S P V (0, c2, W2, G2) ∧ c1 ≤ c2) → (Fr [39, 49, 50] hi hj) → (FF 39 [10, 11, 12, 13, 14, 15, 16, 24, 26, 27] hi hj) → ((601 - hj 39 10).toNat) < N → Z kX8_condition Q 21 [(1, AI 1), (0, AR 40)] [] hj := by
          intro N
          induction N with
          | zero => intro hj _ _ _ _; exact absurd (by assumption) (Nat.not_lt_zero _)
          | succ N ih21 =>
            intro hj j1 frlhj ffl39hj hm21
            obtain ⟨c2, W2, G2, qj, rj, cj⟩ := j1
            have thj := qj.1
            have bj := qj.bds
            have o28hj := qj.2.2.2.2.2.2.2.2.2.1
            have o15hj := qj.2.2.2.2.2.1
            refine z_aload_n (pc := 21) (x := 40) dX8_condition_21 rfl 1 rfl ?_
            refine z_ldc2 (pc := 22) (v := 14836) (x := 14836) (List.mem_cons_of_mem _ (iw36 _ (List.mem_of_getElem? (i := 6) rfl))) (by decide +kernel) dX8_condition_22 ?_
            refine z_callV (pc := 25) (kc := kX8_is) (n := 1) (pl := 39) (ci := 7) (C := RX8) (As := [AL 14836]) (stk := []) ct_X8_is (gdV rfl rfl (iw29 _ (List.mem_of_getElem? (i := 13) rfl)) (iw29 _ (List.mem_of_getElem? (i := 14) rfl)) (iw29 _ (List.mem_of_getElem? (i := 15) rfl)) (iw1 _ (List.mem_of_getElem? (i := 5) rfl)) (iw29 _ (List.mem_of_getElem? (i := 16) rfl))) rfl ⟨rfl, rfl⟩ (by decide +kernel) ⟨by decide, by decide⟩ (by decide) rfl rfl dX8_condition_25 rfl rfl (Nat.le_of_ble_eq_true rfl) ?_
            refine ⟨_, rfl, by omega, fun v4 ev4 => ?_⟩
            have wv4 := isw ev4 (thj.wd 29 (by decide) (by decide))
            refine z_if_ne (pc := 28) (tgt := 40) dX8_condition_28 (by decide) ⟨by omega, by omega⟩ (fun c5 => ?_) (fun c5 => ?_)
            · refine z_aload_n (pc := 40) (x := 40) dX8_condition_40 rfl 1 rfl ?_
              refine z_callV (pc := 41) (kc := kX8_opens) (n := 0) (pl := 39) (ci := 7) (C := RX8) (As := []) (stk := []) ct_X8_opens (gdV rfl rfl (iw36 _ (List.mem_of_getElem? (i := 9) rfl)) (iw36 _ (List.mem_of_getElem? (i := 10) rfl)) (iw36 _ (List.mem_of_getElem? (i := 11) rfl)) (iw1 _ (List.mem_of_getElem? (i := 5) rfl)) (iw36 _ (List.mem_of_getElem? (i := 12) rfl))) rfl ⟨rfl, rfl⟩ (by decide +kernel) ⟨by decide, by decide⟩ (by decide) rfl rfl dX8_condition_41 rfl rfl (Nat.le_of_ble_eq_true rfl) ?_
              refine ⟨S, P, V, st, m, c2, (hi 39 28), W2, G2, rfl, ⟨thj, qj, by omega⟩, fun v6 h7 eh7 => ?_⟩
              have frh7 : Fr [39, 49, 50] hi h7 := (Fr.call frlhj eh7.1 (by decide))
              have ff39h7 : FF 39 [10, 11, 12, 13, 14, 15, 16, 24, 26, 27] hi h7 := FF.call ffl39hj (eh7.2.1) (by decide)
              refine z_if_ne (pc := 44) (tgt := 21) dX8_condition_44 (by decide) ⟨by omega, by omega⟩ (fun c8 => ?_) (fun c8 => ?_)
              · have eph7 := eh7.2.2
                replace eh7 := And.intro eh7.1 (And.intro eh7.2.1 trivial)
                replace eph7 := eph7.resolve_right (fun q => absurd q.1 (by clear eph7; omega))
                obtain ⟨-, o5, qo⟩ := eph7
                have th7 := qo.1
                exact ih21 h7 (⟨c2 + 1, _, G2, qo, rj.trans (r_push (by omega) o5 (by omega)), by omega⟩) (frh7) (ff39h7) (by have := TM.adv thj th7 (by omega); omega)
              · have eph7 := eh7.2.2
                replace eh7 := And.intro eh7.1 (And.intro eh7.2.1 trivial)
                replace eph7 := eph7.resolve_left (fun q => absurd q.1 (by clear eph7; omega))
                obtain ⟨-, o5, xo⟩ := eph7
                have rF := rj.trans (r_deep (by omega) o5)
                refine z_iconst (pc := 47) (v := 0) dX8_condition_47 rfl ?_
                refine z_zret (pc := 48) rfl (by decide) dX8_condition_48 ?_
                exact hQ 0 h7 ⟨frh7, ff39h7, by first | exact Or.inr ⟨rfl, _, _, rF, xo⟩ | exact Or.inr ⟨rfl, _, _, rF, xA⟩ | exact Or.inr ⟨by omega, _, _, rF, xh7⟩ | exact Or.inl ⟨rfl, g, rq.trans (r_end (by omega)), qq.2.2.1, qq.2.2.2.2.2.2.1 g List.mem_cons_self, by omega, o15hq⟩⟩
            · refine z_aload_n (pc := 31) (x := 40) dX8_condition_31 rfl 1 rfl ?_
              refine z_bipush (pc := 32) (v := 40) dX8_condition_32 (by decide +kernel) ?_
              refine z_callV (pc := 34) (kc := kX8_isSign) (n := 1) (pl := 39) (ci := 7) (C := RX8) (As := [AI 40]) (stk := []) ct_X8_isSign (gdV rfl rfl (iw30 _ (List.mem_of_getElem? (i := 6) rfl)) (iw30 _ (List.mem_of_getElem? (i := 7) rfl)) (iw30 _ (List.mem_of_getElem? (i := 8) rfl)) (iw1 _ (List.mem_of_getElem? (i := 5) rfl)) (iw30 _ (List.mem_of_getElem? (i := 9) rfl))) rfl ⟨rfl, rfl⟩ (by decide +kernel) ⟨by decide, by decide⟩ (by decide) rfl rfl dX8_condition_34 rfl rfl (Nat.le_of_ble_eq_true rfl) ?_
              refine ⟨_, rfl, by omega, fun v9 ev9 => ?_⟩
              have wv9 := isw ev9 (thj.sg 9 (by decide) (by decide))
              refine z_if_eq (pc := 37) (tgt := 49) dX8_condition_37 (by decide) ⟨by omega, by omega⟩ (fun c10 => ?_) (fun c10 => ?_)
              · refine z_aload_n (pc := 49) (x := 40) dX8_condition_49 rfl 1 rfl ?_
                refine z_callV (pc := 50) (kc := kX8_compared) (n := 0) (pl := 39) (ci := 7) (C := RX8) (As := []) (stk := []) ct_X8_compared (gdV rfl rfl (iw36 _ (List.mem_of_getElem? (i := 13) rfl)) (iw36 _ (List.mem_of_getElem? (i := 14) rfl)) (iw36 _ (List.mem_of_getElem? (i := 15) rfl)) (iw1 _ (List.mem_of_getElem? (i := 5) rfl)) (iw36 _ (List.mem_of_getElem? (i := 16) rfl))) rfl ⟨rfl, rfl⟩ (by decide +kernel) ⟨by decide, by decide⟩ (by decide) rfl rfl dX8_condition_50 rfl rfl (Nat.le_of_ble_eq_true rfl) ?_
                refine ⟨S, P, V, st, m, c2, G2, rfl, ⟨thj, o15hj, by rw [o28hj]; exact ho, qj.2.2.1, by omega⟩, fun v11 h12 eh12 => ?_⟩
                have frh12 : Fr [39, 49, 50] hi h12 := (Fr.call frlhj eh12.1 (by decide))
                have ff39h12 : FF 39 [10, 11, 12, 13, 14, 15, 16, 24, 26, 27] hi h12 := FF.call ffl39hj (eh12.2.1) (by decide)
                rw [(ffl39hj 28 (by decide) : hj 39 28 = hi 39 28)] at eh12
                refine z_if_ne (pc := 53) (tgt := 58) dX8_condition_53 (by decide) ⟨by omega, by omega⟩ (fun c13 => ?_) (fun c13 => ?_)
                · have eph12 := eh12.2.2
                  replace eh12 := And.intro eh12.1 (And.intro eh12.2.1 trivial)
                  replace eph12 := eph12.resolve_right (fun q => absurd q.1 (by clear eph12; omega))
                  obtain ⟨-, cA, gA, gsA, tA, gcA, gbA, fA, gdA⟩ := eph12
                  have qA := qs_cmp qj gdA tA gbA gcA (eh12.1 50 (by decide)) (eh12.2.1 27 (by decide)) (eh12.2.1 26 (by decide)) fA (eh12.2.1 28 (by decide))
                  have rA := rj.trans (r_cmp (by omega) gsA gbA.1 (by omega))
                  have bA := qA.bds
                  refine z_aload_n (pc := 58) (x := 40) dX8_condition_58 rfl 1 rfl ?_
                  refine z_callV (pc := 59) (kc := kX8_dropsNots) (n := 0) (pl := 39) (ci := 7) (C := RX8) (As := []) (stk := []) ct_X8_dropsNots (gdV rfl rfl (iw37 _ (List.mem_of_getElem? (i := 19) rfl)) (iw37 _ (List.mem_of_getElem? (i := 20) rfl)) (iw37 _ (List.mem_of_getElem? (i := 21) rfl)) (iw1 _ (List.mem_of_getElem? (i := 5) rfl)) (iw37 _ (List.mem_of_getElem? (i := 22) rfl))) rfl ⟨rfl, rfl⟩ (by decide +kernel) ⟨by decide, by decide⟩ (by decide) rfl rfl dX8_condition_59 rfl rfl (Nat.le_of_ble_eq_true rfl) ?_
                  refine ⟨S, P, V, st, m, cA, (hi 39 28), W2, (gA :: G2), rfl, ⟨tA, qA⟩, fun h14 eh14 => ?_⟩
                  have frh14 : Fr [39, 49, 50] hi h14 := (Fr.call frh12 eh14.1 (by decide))
                  have ff39h14 : FF 39 [10, 11, 12, 13, 14, 15, 16, 24, 26, 27] hi h14 := FF.call ff39h12 (eh14.2.1) (by decide)
                  have th14 : TM h14 S P V st m cA := TM.fr tA eh14.1 eh14.2.1 (by decide) (by decide)
                  obtain ⟨WD, GD, qD, nD, rD⟩ := eh14.2.2
                  refine z_aload_n (pc := 62) (x := 40) dX8_condition_62 rfl 1 rfl ?_
                  refine z_callV (pc := 63) (kc := kX8_closes) (n := 0) (pl := 39) (ci := 7) (C := RX8) (As := []) (stk := []) ct_X8_closes (gdV rfl rfl (iw38 _ (List.mem_of_getElem? (i := 7) rfl)) (iw38 _ (List.mem_of_getElem? (i := 8) rfl)) (iw38 _ (List.mem_of_getElem? (i := 9) rfl)) (iw1 _ (List.mem_of_getElem? (i := 5) rfl)) (iw38 _ (List.mem_of_getElem? (i := 10) rfl))) rfl ⟨rfl, rfl⟩ (by decide +kernel) ⟨by decide, by decide⟩ (by decide) rfl rfl dX8_condition_63 rfl rfl (Nat.le_of_ble_eq_true rfl) ?_
                  refine ⟨S, P, V, st, m, cA, (hi 39 28), WD, GD, rfl, ⟨qD.1, qD, nD⟩, fun h15 eh15 => ?_⟩
                  have frh15 : Fr [39, 49, 50] hi h15 := (Fr.call frh14 eh15.1 (by decide))
                  have ff39h15 : FF 39 [10, 11, 12, 13, 14, 15, 16, 24, 26, 27] hi h15 := FF.call ff39h14 (eh15.2.1) (by decide)
                  obtain ⟨cE, WE, GE, qe, ne, rE, ce, ze⟩ := eh15.2.2
                  have te := qe.1
                  have re := (rA.trans rD).trans rE
                  have be := qe.bds
                  refine z_aload_n (pc := 66) (x := 40) dX8_condition_66 rfl 1 rfl ?_
                  refine z_ldc2 (pc := 67) (v := 1476) (x := 1476) (List.mem_cons_of_mem _ (iw36 _ (List.mem_of_getElem? (i := 7) rfl))) (by decide +kernel) dX8_condition_67 ?_
                  refine z_callV (pc := 70) (kc := kX8_is) (n := 1) (pl := 39) (ci := 7) (C := RX8) (As := [AL 1476]) (stk := []) ct_X8_is (gdV rfl rfl (iw29 _ (List.mem_of_getElem? (i := 13) rfl)) (iw29 _ (List.mem_of_getElem? (i := 14) rfl)) (iw29 _ (List.mem_of_getElem? (i := 15) rfl)) (iw1 _ (List.mem_of_getElem? (i := 5) rfl)) (iw29 _ (List.mem_of_getElem? (i := 16) rfl))) rfl ⟨rfl, rfl⟩ (by decide +kernel) ⟨by decide, by decide⟩ (by decide) rfl rfl dX8_condition_70 rfl rfl (Nat.le_of_ble_eq_true rfl) ?_
                  refine ⟨_, rfl, by omega, fun v16 ev16 => ?_⟩
                  have wv16 := isw ev16 (te.wd 28 (by decide) (by decide))
                  refine z_if_ne (pc := 73) (tgt := 86) dX8_condition_73 (by decide) ⟨by omega, by omega⟩ (fun c17 => ?_) (fun c17 => ?_)
                  · refine z_iconst (pc := 86) (v := 1) dX8_condition_86 rfl ?_
                    refine z_goto (pc := 87) (tgt := 91) dX8_condition_87 (by decide) ?_
                    refine z_istore_n (pc := 91) (lv' := [(1, AI 1), (0, AR 40)]) dX8_condition_91 rfl (by decide) rfl ?_
                    refine z_iload_n (pc := 92) dX8_condition_92 rfl 0 rfl ?_
                    refine z_if_eq (pc := 93) (tgt := 17) dX8_condition_93 (by decide) ⟨by decide, by decide⟩ (fun q => absurd q (by decide)) (fun _ => ?_)
                    refine z_aload_n (pc := 96) (x := 40) dX8_condition_96 rfl 1 rfl ?_
                    refine z_ldc2 (pc := 97) (v := 1476) (x := 1476) (List.mem_cons_of_mem _ (iw36 _ (List.mem_of_getElem? (i := 7) rfl))) (by decide +kernel) dX8_condition_97 ?_
                    refine z_callV (pc := 100) (kc := kX8_is) (n := 1) (pl := 39) (ci := 7) (C := RX8) (As := [AL 1476]) (stk := []) ct_X8_is (gdV rfl rfl (iw29 _ (List.mem_of_getElem? (i := 13) rfl)) (iw29 _ (List.mem_of_getElem? (i := 14) rfl)) (iw29 _ (List.mem_of_getElem? (i := 15) rfl)) (iw1 _ (List.mem_of_getElem? (i := 5) rfl)) (iw29 _ (List.mem_of_getElem? (i := 16) rfl))) rfl ⟨rfl, rfl⟩ (by decide +kernel) ⟨by decide, by decide⟩ (by decide) rfl rfl dX8_condition_100 rfl rfl (Nat.le_of_ble_eq_true rfl) ?_
                    refine ⟨_, rfl, by omega, fun v18 ev18 => ?_⟩
                    have wv18 := isw ev18 (te.wd 28 (by decide) (by decide))
                    refine z_istore_n (pc := 103) (lv' := [(2, AI v18), (1, AI 1), (0, AR 40)]) dX8_condition_103 rfl (by decide) rfl ?_
                    have J104 : ∀ (N : Nat) (hn : HI), (∃ (W6 : List Int) (G6 : List Ex), QS hn S P V st m (hi 39 28) 1 cE W6 G6 ∧ topW W6 ≠ 7 ∧ res (hi 39 28) S P V (0, c, [], []) = res (hi 39 28) S P V (1, cE, W6, G6)) → (Fr [39, 49, 50] hi hn) → (FF 39 [10, 11, 12, 13, 14, 15, 16, 24, 26, 27] hi hn) → ((hn 39 26).toNat) < N → Z kX8_condition Q 104 [(2, AI v18), (1, AI 1), (0, AR 40)] [] hn := by
                      intro N
                      induction N with
                      | zero => intro hn _ _ _ _; exact absurd (by assumption) (Nat.not_lt_zero _)
                      | succ N ih104 =>
                        intro hn n1 frlhn ffl39hn hm104
                        obtain ⟨W6, G6, qn, nn, rn⟩ := n1
                        have thn := qn.1
                        have bn := qn.bds
                        have o28hn := qn.2.2.2.2.2.2.2.2.2.1
                        have o15hn := qn.2.2.2.2.2.1
                        have o27n := qn.2.2.2.1
                        refine z_aload_n (pc := 104) (x := 40) dX8_condition_104 rfl 2 rfl ?_
                        refine z_bipush (pc := 105) (v := 8) dX8_condition_105 (by decide +kernel) ?_
                        refine z_callV (pc := 107) (kc := kX8_isTop) (n := 1) (pl := 39) (ci := 7) (C := RX8) (As := [AI 8]) (stk := []) ct_X8_isTop (gdV rfl rfl (iw37 _ (List.mem_of_getElem? (i := 23) rfl)) (iw38 _ (List.mem_of_getElem? (i := 0) rfl)) (iw38 _ (List.mem_of_getElem? (i := 1) rfl)) (iw1 _ (List.mem_of_getElem? (i := 5) rfl)) (iw38 _ (List.mem_of_getElem? (i := 2) rfl))) rfl ⟨rfl, rfl⟩ (by decide +kernel) ⟨by decide, by decide⟩ (by decide) rfl rfl dX8_condition_107 rfl rfl (Nat.le_of_ble_eq_true rfl) ?_
                        refine ⟨_, W6, rfl, ⟨qn.2.1, by omega, ⟨by decide, by decide⟩, by decide⟩, fun v19 ev19 => ?_⟩
                        refine z_if_ne (pc := 110) (tgt := 126) dX8_condition_110 (by decide) ⟨by omega, by omega⟩ (fun c20 => ?_) (fun c20 => ?_)
                        · obtain ⟨o, W7, b, a, G7, ho, eW, eG, n7⟩ := qn.topB (by omega)
                          subst eW
                          subst eG
                          have to : topW (o :: W7) = o := rfl
                          have p26 := qn.2.1.hd.2
                          refine z_aload_n (pc := 126) (x := 40) dX8_condition_126 rfl 2 rfl ?_
                          refine z_callV (pc := 127) (kc := kX8_drops) (n := 0) (pl := 39) (ci := 7) (C := RX8) (As := []) (stk := []) ct_X8_drops (gdV rfl rfl (iw38 _ (List.mem_of_getElem? (i := 3) rfl)) (iw38 _ (List.mem_of_getElem? (i := 4) rfl)) (iw38 _ (List.mem_of_getElem? (i := 5) rfl)) (iw1 _ (List.mem_of_getElem? (i := 5) rfl)) (iw38 _ (List.mem_of_getElem? (i := 6) rfl))) rfl ⟨rfl, rfl⟩ (by decide +kernel) ⟨by decide, by decide⟩ (by decide) rfl rfl dX8_condition_127 rfl rfl (Nat.le_of_ble_eq_true rfl) ?_
                          refine ⟨o, W7, (b :: a :: G7), rfl, ⟨qn.2.1, qn.2.2.1, by omega, qn.okB ho, by omega⟩, fun h21 eh21 => ?_⟩
                          have frh21 : Fr [39, 49, 50] hi h21 := (Fr.call frlhn eh21.1 (by decide))
                          have ff39h21 : FF 39 [10, 11, 12, 13, 14, 15, 16, 24, 26, 27] hi h21 := FF.call ffl39hn (eh21.2.1) (by decide)
                          have th21 : TM h21 S P V st m cE := TM.fr thn eh21.1 eh21.2.1 (by decide) (by decide)
                          have dw := eh21.2.2.1
                          have dc := eh21.2.2.2.1
                          have d24 := eh21.2.2.2.2.1
                          have d26 := eh21.2.2.2.2.2
                          rw [apC_o (Or.inr ho)] at dc
                          have w27 : h21 39 27 = hn 39 27 := (by rw [(eh21.2.1 27 (by decide) : h21 39 27 = hn 39 27)])
                          have w24 : h21 39 24 = hn 39 24 + 1 := (by omega)
                          have w26 : h21 39 26 = hn 39 26 - 1 := (by omega)
                          have w15 : h21 39 15 = hn 39 15 := (by rw [(eh21.2.1 15 (by decide) : h21 39 15 = hn 39 15)])
                          have w28 : h21 39 28 = hn 39 28 := (by rw [(eh21.2.1 28 (by decide) : h21 39 28 = hn 39 28)])
                          refine z_goto (pc := 130) (tgt := 104) dX8_condition_130 (by decide) ?_
                          exact ih104 h21 (⟨W7, bin o a b :: G7, qs_bin ho qn th21 dw dc w27 w24 w26 w15 w28, n7, rn.trans (r_binX ho (by first | exact Or.inl (by omega) | exact Or.inr (Or.inl (by omega))))⟩) (frh21) (ff39h21) (by omega)
                        · refine z_iload_n (pc := 113) dX8_condition_113 rfl 0 rfl ?_
                          refine z_if_ne (pc := 114) (tgt := 133) dX8_condition_114 (by decide) ⟨by omega, by omega⟩ (fun c22 => ?_) (fun c22 => ?_)
                          · refine z_aload_n (pc := 133) (x := 40) dX8_condition_133 rfl 2 rfl ?_
                            refine z_getR (pc := 134) (pl := 39) (f := 25) (ci := 7) (C := RX8) (T := TX8) (N := 33) hu_X8 (by decide) rfl rfl (by decide) rfl (List.mem_cons_of_mem _ (iw5 _ (List.mem_of_getElem? (i := 16) rfl))) rfl dX8_condition_134 ?_
                            refine z_aload_n (pc := 137) (x := 40) dX8_condition_137 rfl 2 rfl ?_
                            refine z_getI (pc := 138) (pl := 39) (f := 26) (ci := 7) (C := RX8) (T := TX8) (N := 33) hu_X8 (by decide) rfl rfl (by decide) rfl (List.mem_cons_of_mem _ (iw36 _ (List.mem_of_getElem? (i := 3) rfl))) rfl (by decide) dX8_condition_138 (fun v23 ev23 rv23 => ?_)
                            refine z_iload_n (pc := 141) dX8_condition_141 rfl 0 rfl ?_
                            refine z_if_eq (pc := 142) (tgt := 150) dX8_condition_142 (by decide) ⟨by omega, by omega⟩ (fun c24 => ?_) (fun c24 => ?_)
                            · refine z_bipush (pc := 150) (v := 9) dX8_condition_150 (by decide +kernel) ?_
                              refine z_iast (pc := 152) (pl := 50) (by decide) rfl (by decide) (by omega) (by omega) ⟨by decide, by decide⟩ dX8_condition_152 (fun h25 eh25 => ?_)
                              have frh25 : Fr [39, 49, 50] hi h25 := (Fr.put frlhn eh25 (by decide))
                              have ff39h25 : FF 39 [10, 11, 12, 13, 14, 15, 16, 24, 26, 27] hi h25 := FF.oth ffl39hn eh25 (by decide)
                              have th25 : TM h25 S P V st m cE := TM.oth thn eh25 (by decide)
                              have u0 : h25 50 = updI (hn 50) (hn 39 26).toNat 9 := by rw [eh25, hput_same]; exact updI_c (by omega) (by omega)
                              refine z_aload_n (pc := 153) (x := 40) dX8_condition_153 rfl 2 rfl ?_
                              refine z_dup (pc := 154) dX8_condition_154 rfl ?_
                              refine z_getI (pc := 155) (pl := 39) (f := 26) (ci := 7) (C := RX8) (T := TX8) (N := 33) hu_X8 (by decide) rfl rfl (by decide) rfl (List.mem_cons_of_mem _ (iw36 _ (List.mem_of_getElem? (i := 3) rfl))) rfl (by decide) dX8_condition_155 (fun v26 ev26 rv26 => ?_)
                              rw [(by rw [eh25]; rfl : h25 39 26 = hn 39 26)] at ev26
                              refine z_iconst (pc := 158) (v := 1) dX8_condition_158 rfl ?_
                              refine z_iadd (pc := 159) dX8_condition_159 (fun v27 ev27 => ?_)
                              refine z_putI (pc := 160) (pl := 39) (f := 26) (ci := 7) (C := RX8) (T := TX8) (N := 33) hu_X8 tyX8_ok nmX8 (by decide) rfl rfl (by decide) rfl (List.mem_cons_of_mem _ (iw36 _ (List.mem_of_getElem? (i := 3) rfl))) rfl rfl (ty := .int) (by decide +kernel) rfl rfl ⟨by omega, by omega⟩ dX8_condition_160 (fun h28 eh28 => ?_)
                              have frh28 : Fr [39, 49, 50] hi h28 := (Fr.put frh25 eh28 (by decide))
                              have ff39h28 : FF 39 [10, 11, 12, 13, 14, 15, 16, 24, 26, 27] hi h28 := FF.put ff39h25 eh28 (by decide)
                              have th28 : TM h28 S P V st m cE := TM.put th25 eh28 (by decide)
                              refine z_aload_n (pc := 163) (x := 40) dX8_condition_163 rfl 2 rfl ?_
                              refine z_callV (pc := 164) (kc := kX8_go) (n := 0) (pl := 39) (ci := 7) (C := RX8) (As := []) (stk := []) ct_X8_go2 (gdV rfl rfl (iw27 _ (List.mem_of_getElem? (i := 11) rfl)) (iw27 _ (List.mem_of_getElem? (i := 12) rfl)) (iw27 _ (List.mem_of_getElem? (i := 13) rfl)) (iw1 _ (List.mem_of_getElem? (i := 5) rfl)) (iw27 _ (List.mem_of_getElem? (i := 14) rfl))) rfl ⟨rfl, rfl⟩ (by decide +kernel) ⟨by decide, by decide⟩ (by decide) rfl rfl dX8_condition_164 rfl rfl (Nat.le_of_ble_eq_true rfl) ?_
                              refine ⟨S, P, V, st, m, cE, rfl, ⟨th28, by omega, by omega⟩, fun h29 eh29 => ?_⟩
                              have frh29 : Fr [39, 49, 50] hi h29 := (Fr.call frh28 eh29.1 (by decide))
                              have ff39h29 : FF 39 [10, 11, 12, 13, 14, 15, 16, 24, 26, 27] hi h29 := FF.call ff39h28 (eh29.2.1) (by decide)
                              have th29 : TM h29 S P V st m (cE + 1) := eh29.2.2
                              have u50 := (show h29 50 = h25 50 by rw [(eh29.1 50 (by decide) : h29 50 = h28 50), (by rw [eh28]; rfl : h28 50 = h25 50)]).trans u0
                              have w27 : h29 39 27 = hn 39 27 := (by rw [(eh29.2.1 27 (by decide) : h29 39 27 = h28 39 27), (by rw [eh28]; rfl : h28 39 27 = h25 39 27), (by rw [eh25]; rfl : h25 39 27 = hn 39 27)])
                              have w24 : h29 39 24 = hn 39 24 := (by rw [(eh29.2.1 24 (by decide) : h29 39 24 = h28 39 24), (by rw [eh28]; rfl : h28 39 24 = h25 39 24), (by rw [eh25]; rfl : h25 39 24 = hn 39 24)])
                              have w26 : h29 39 26 = hn 39 26 + 1 := (by rw [(eh29.2.1 26 (by decide) : h29 39 26 = h28 39 26), (by rw [eh28]; rfl : h28 39 26 = v27)]; omega)
                              have w15 : h29 39 15 = hn 39 15 := (by rw [(eh29.2.1 15 (by decide) : h29 39 15 = h28 39 15), (by rw [eh28]; rfl : h28 39 15 = h25 39 15), (by rw [eh25]; rfl : h25 39 15 = hn 39 15)])
                              have w28 : h29 39 28 = hn 39 28 := (by rw [(eh29.2.1 28 (by decide) : h29 39 28 = h28 39 28), (by rw [eh28]; rfl : h28 39 28 = h25 39 28), (by rw [eh25]; rfl : h25 39 28 = hn 39 28)])
                              have w49 : h29 49 = hn 49 := by rw [(eh29.1 49 (by decide) : h29 49 = h28 49), (by rw [eh28]; rfl : h28 49 = h25 49), (by rw [eh25]; rfl : h25 49 = hn 49)]
                              refine z_goto (pc := 167) (tgt := 17) dX8_condition_167 (by decide) ?_
                              refine z_sub (lv' := [(1, AI 1), (0, AR 40)]) [1, 2] rfl ?_
                              exact ih17 1 h29 (by first | exact Or.inr ⟨rfl, cE, WE, GE, qe, ne, re, by omega, by omega, ze⟩ | (exfalso; omega) | exact Or.inl ⟨rfl, cE + 1, 8 :: W6, G6, qs_wait (Or.inl rfl) qn nn (by omega) (by omega) th29 (qn.2.1.push u50 w26) (qn.2.2.1.kp w49 w24) w27 w24 w26 w15 w28, rn.trans (r_pushA nn (by omega) (by omega) (by omega))⟩ | exact Or.inl ⟨rfl, cE + 1, 9 :: W6, G6, qs_wait (Or.inr rfl) qn nn (by omega) (by omega) th29 (qn.2.1.push u50 w26) (qn.2.2.1.kp w49 w24) w27 w24 w26 w15 w28, rn.trans (r_pushO nn (by omega) (by omega) (by omega) (by omega))⟩) (frh29) (ff39h29) (by have := TM.adv thk th29 (by omega); omega)
                            · refine z_bipush (pc := 145) (v := 8) dX8_condition_145 (by decide +kernel) ?_
                              refine z_goto (pc := 147) (tgt := 152) dX8_condition_147 (by decide) ?_
                              refine z_iast (pc := 152) (pl := 50) (by decide) rfl (by decide) (by omega) (by omega) ⟨by decide, by decide⟩ dX8_condition_152 (fun h30 eh30 => ?_)
                              have frh30 : Fr [39, 49, 50] hi h30 := (Fr.put frlhn eh30 (by decide))
                              have ff39h30 : FF 39 [10, 11, 12, 13, 14, 15, 16, 24, 26, 27] hi h30 := FF.oth ffl39hn eh30 (by decide)
                              have th30 : TM h30 S P V st m cE := TM.oth thn eh30 (by decide)
                              have u0 : h30 50 = updI (hn 50) (hn 39 26).toNat 8 := by rw [eh30, hput_same]; exact updI_c (by omega) (by omega)
                              refine z_aload_n (pc := 153) (x := 40) dX8_condition_153 rfl 2 rfl ?_
                              refine z_dup (pc := 154) dX8_condition_154 rfl ?_
                              refine z_getI (pc := 155) (pl := 39) (f := 26) (ci := 7) (C := RX8) (T := TX8) (N := 33) hu_X8 (by decide) rfl rfl (by decide) rfl (List.mem_cons_of_mem _ (iw36 _ (List.mem_of_getElem? (i := 3) rfl))) rfl (by decide) dX8_condition_155 (fun v31 ev31 rv31 => ?_)
                              rw [(by rw [eh30]; rfl : h30 39 26 = hn 39 26)] at ev31
                              refine z_iconst (pc := 158) (v := 1) dX8_condition_158 rfl ?_
                              refine z_iadd (pc := 159) dX8_condition_159 (fun v32 ev32 => ?_)
                              refine z_putI (pc := 160) (pl := 39) (f := 26) (ci := 7) (C := RX8) (T := TX8) (N := 33) hu_X8 tyX8_ok nmX8 (by decide) rfl rfl (by decide) rfl (List.mem_cons_of_mem _ (iw36 _ (List.mem_of_getElem? (i := 3) rfl))) rfl rfl (ty := .int) (by decide +kernel) rfl rfl ⟨by omega, by omega⟩ dX8_condition_160 (fun h33 eh33 => ?_)
                              have frh33 : Fr [39, 49, 50] hi h33 := (Fr.put frh30 eh33 (by decide))
                              have ff39h33 : FF 39 [10, 11, 12, 13, 14, 15, 16, 24, 26, 27] hi h33 := FF.put ff39h30 eh33 (by decide)
                              have th33 : TM h33 S P V st m cE := TM.put th30 eh33 (by decide)
                              refine z_aload_n (pc := 163) (x := 40) dX8_condition_163 rfl 2 rfl ?_
                              refine z_callV (pc := 164) (kc := kX8_go) (n := 0) (pl := 39) (ci := 7) (C := RX8) (As := []) (stk := []) ct_X8_go2 (gdV rfl rfl (iw27 _ (List.mem_of_getElem? (i := 11) rfl)) (iw27 _ (List.mem_of_getElem? (i := 12) rfl)) (iw27 _ (List.mem_of_getElem? (i := 13) rfl)) (iw1 _ (List.mem_of_getElem? (i := 5) rfl)) (iw27 _ (List.mem_of_getElem? (i := 14) rfl))) rfl ⟨rfl, rfl⟩ (by decide +kernel) ⟨by decide, by decide⟩ (by decide) rfl rfl dX8_condition_164 rfl rfl (Nat.le_of_ble_eq_true rfl) ?_
                              refine ⟨S, P, V, st, m, cE, rfl, ⟨th33, by omega, by omega⟩, fun h34 eh34 => ?_⟩
                              have frh34 : Fr [39, 49, 50] hi h34 := (Fr.call frh33 eh34.1 (by decide))
                              have ff39h34 : FF 39 [10, 11, 12, 13, 14, 15, 16, 24, 26, 27] hi h34 := FF.call ff39h33 (eh34.2.1) (by decide)
                              have th34 : TM h34 S P V st m (cE + 1) := eh34.2.2
                              have u50 := (show h34 50 = h30 50 by rw [(eh34.1 50 (by decide) : h34 50 = h33 50), (by rw [eh33]; rfl : h33 50 = h30 50)]).trans u0
                              have w27 : h34 39 27 = hn 39 27 := (by rw [(eh34.2.1 27 (by decide) : h34 39 27 = h33 39 27), (by rw [eh33]; rfl : h33 39 27 = h30 39 27), (by rw [eh30]; rfl : h30 39 27 = hn 39 27)])
                              have w24 : h34 39 24 = hn 39 24 := (by rw [(eh34.2.1 24 (by decide) : h34 39 24 = h33 39 24), (by rw [eh33]; rfl : h33 39 24 = h30 39 24), (by rw [eh30]; rfl : h30 39 24 = hn 39 24)])
                              have w26 : h34 39 26 = hn 39 26 + 1 := (by rw [(eh34.2.1 26 (by decide) : h34 39 26 = h33 39 26), (by rw [eh33]; rfl : h33 39 26 = v32)]; omega)
                              have w15 : h34 39 15 = hn 39 15 := (by rw [(eh34.2.1 15 (by decide) : h34 39 15 = h33 39 15), (by rw [eh33]; rfl : h33 39 15 = h30 39 15), (by rw [eh30]; rfl : h30 39 15 = hn 39 15)])
                              have w28 : h34 39 28 = hn 39 28 := (by rw [(eh34.2.1 28 (by decide) : h34 39 28 = h33 39 28), (by rw [eh33]; rfl : h33 39 28 = h30 39 28), (by rw [eh30]; rfl : h30 39 28 = hn 39 28)])
                              have w49 : h34 49 = hn 49 := by rw [(eh34.1 49 (by decide) : h34 49 = h33 49), (by rw [eh33]; rfl : h33 49 = h30 49), (by rw [eh30]; rfl : h30 49 = hn 49)]
                              refine z_goto (pc := 167) (tgt := 17) dX8_condition_167 (by decide) ?_
                              refine z_sub (lv' := [(1, AI 1), (0, AR 40)]) [1, 2] rfl ?_
                              exact ih17 1 h34 (by first | exact Or.inr ⟨rfl, cE, WE, GE, qe, ne, re, by omega, by omega, ze⟩ | (exfalso; omega) | exact Or.inl ⟨rfl, cE + 1, 8 :: W6, G6, qs_wait (Or.inl rfl) qn nn (by omega) (by omega) th34 (qn.2.1.push u50 w26) (qn.2.2.1.kp w49 w24) w27 w24 w26 w15 w28, rn.trans (r_pushA nn (by omega) (by omega) (by omega))⟩ | exact Or.inl ⟨rfl, cE + 1, 9 :: W6, G6, qs_wait (Or.inr rfl) qn nn (by omega) (by omega) th34 (qn.2.1.push u50 w26) (qn.2.2.1.kp w49 w24) w27 w24 w26 w15 w28, rn.trans (r_pushO nn (by omega) (by omega) (by omega) (by omega))⟩) (frh34) (ff39h34) (by have := TM.adv thk th34 (by omega); omega)
                          · refine z_aload_n (pc := 117) (x := 40) dX8_condition_117 rfl 2 rfl ?_
                            refine z_bipush (pc := 118) (v := 9) dX8_condition_118 (by decide +kernel) ?_
                            refine z_callV (pc := 120) (kc := kX8_isTop) (n := 1) (pl := 39) (ci := 7) (C := RX8) (As := [AI 9]) (stk := []) ct_X8_isTop (gdV rfl rfl (iw37 _ (List.mem_of_getElem? (i := 23) rfl)) (iw38 _ (List.mem_of_getElem? (i := 0) rfl)) (iw38 _ (List.mem_of_getElem? (i := 1) rfl)) (iw1 _ (List.mem_of_getElem? (i := 5) rfl)) (iw38 _ (List.mem_of_getElem? (i := 2) rfl))) rfl ⟨rfl, rfl⟩ (by decide +kernel) ⟨by decide, by decide⟩ (by decide) rfl rfl dX8_condition_120 rfl rfl (Nat.le_of_ble_eq_true rfl) ?_
                            refine ⟨_, W6, rfl, ⟨qn.2.1, by omega, ⟨by decide, by decide⟩, by decide⟩, fun v35 ev35 => ?_⟩
                            refine z_if_eq (pc := 123) (tgt := 133) dX8_condition_123 (by decide) ⟨by omega, by omega⟩ (fun c36 => ?_) (fun c36 => ?_)
                            · refine z_aload_n (pc := 133) (x := 40) dX8_condition_133 rfl 2 rfl ?_
                              refine z_getR (pc := 134) (pl := 39) (f := 25) (ci := 7) (C := RX8) (T := TX8) (N := 33) hu_X8 (by decide) rfl rfl (by decide) rfl (List.mem_cons_of_mem _ (iw5 _ (List.mem_of_getElem? (i := 16) rfl))) rfl dX8_condition_134 ?_
                              refine z_aload_n (pc := 137) (x := 40) dX8_condition_137 rfl 2 rfl ?_
                              refine z_getI (pc := 138) (pl := 39) (f := 26) (ci := 7) (C := RX8) (T := TX8) (N := 33) hu_X8 (by decide) rfl rfl (by decide) rfl (List.mem_cons_of_mem _ (iw36 _ (List.mem_of_getElem? (i := 3) rfl))) rfl (by decide) dX8_condition_138 (fun v37 ev37 rv37 => ?_)
                              refine z_iload_n (pc := 141) dX8_condition_141 rfl 0 rfl ?_
                              refine z_if_eq (pc := 142) (tgt := 150) dX8_condition_142 (by decide) ⟨by omega, by omega⟩ (fun c38 => ?_) (fun c38 => ?_)
                              · refine z_bipush (pc := 150) (v := 9) dX8_condition_150 (by decide +kernel) ?_
                                refine z_iast (pc := 152) (pl := 50) (by decide) rfl (by decide) (by omega) (by omega) ⟨by decide, by decide⟩ dX8_condition_152 (fun h39 eh39 => ?_)
                                have frh39 : Fr [39, 49, 50] hi h39 := (Fr.put frlhn eh39 (by decide))
                                have ff39h39 : FF 39 [10, 11, 12, 13, 14, 15, 16, 24, 26, 27] hi h39 := FF.oth ffl39hn eh39 (by decide)
                                have th39 : TM h39 S P V st m cE := TM.oth thn eh39 (by decide)
                                have u0 : h39 50 = updI (hn 50) (hn 39 26).toNat 9 := by rw [eh39, hput_same]; exact updI_c (by omega) (by omega)
                                refine z_aload_n (pc := 153) (x := 40) dX8_condition_153 rfl 2 rfl ?_
                                refine z_dup (pc := 154) dX8_condition_154 rfl ?_
                                refine z_getI (pc := 155) (pl := 39) (f := 26) (ci := 7) (C := RX8) (T := TX8) (N := 33) hu_X8 (by decide) rfl rfl (by decide) rfl (List.mem_cons_of_mem _ (iw36 _ (List.mem_of_getElem? (i := 3) rfl))) rfl (by decide) dX8_condition_155 (fun v40 ev40 rv40 => ?_)
                                rw [(by rw [eh39]; rfl : h39 39 26 = hn 39 26)] at ev40
                                refine z_iconst (pc := 158) (v := 1) dX8_condition_158 rfl ?_
                                refine z_iadd (pc := 159) dX8_condition_159 (fun v41 ev41 => ?_)
                                refine z_putI (pc := 160) (pl := 39) (f := 26) (ci := 7) (C := RX8) (T := TX8) (N := 33) hu_X8 tyX8_ok nmX8 (by decide) rfl rfl (by decide) rfl (List.mem_cons_of_mem _ (iw36 _ (List.mem_of_getElem? (i := 3) rfl))) rfl rfl (ty := .int) (by decide +kernel) rfl rfl ⟨by omega, by omega⟩ dX8_condition_160 (fun h42 eh42 => ?_)
                                have frh42 : Fr [39, 49, 50] hi h42 := (Fr.put frh39 eh42 (by decide))
                                have ff39h42 : FF 39 [10, 11, 12, 13, 14, 15, 16, 24, 26, 27] hi h42 := FF.put ff39h39 eh42 (by decide)
                                have th42 : TM h42 S P V st m cE := TM.put th39 eh42 (by decide)
                                refine z_aload_n (pc := 163) (x := 40) dX8_condition_163 rfl 2 rfl ?_
                                refine z_callV (pc := 164) (kc := kX8_go) (n := 0) (pl := 39) (ci := 7) (C := RX8) (As := []) (stk := []) ct_X8_go2 (gdV rfl rfl (iw27 _ (List.mem_of_getElem? (i := 11) rfl)) (iw27 _ (List.mem_of_getElem? (i := 12) rfl)) (iw27 _ (List.mem_of_getElem? (i := 13) rfl)) (iw1 _ (List.mem_of_getElem? (i := 5) rfl)) (iw27 _ (List.mem_of_getElem? (i := 14) rfl))) rfl ⟨rfl, rfl⟩ (by decide +kernel) ⟨by decide, by decide⟩ (by decide) rfl rfl dX8_condition_164 rfl rfl (Nat.le_of_ble_eq_true rfl) ?_
                                refine ⟨S, P, V, st, m, cE, rfl, ⟨th42, by omega, by omega⟩, fun h43 eh43 => ?_⟩
                                have frh43 : Fr [39, 49, 50] hi h43 := (Fr.call frh42 eh43.1 (by decide))
                                have ff39h43 : FF 39 [10, 11, 12, 13, 14, 15, 16, 24, 26, 27] hi h43 := FF.call ff39h42 (eh43.2.1) (by decide)
                                have th43 : TM h43 S P V st m (cE + 1) := eh43.2.2
                                have u50 := (show h43 50 = h39 50 by rw [(eh43.1 50 (by decide) : h43 50 = h42 50), (by rw [eh42]; rfl : h42 50 = h39 50)]).trans u0
                                have w27 : h43 39 27 = hn 39 27 := (by rw [(eh43.2.1 27 (by decide) : h43 39 27 = h42 39 27), (by rw [eh42]; rfl : h42 39 27 = h39 39 27), (by rw [eh39]; rfl : h39 39 27 = hn 39 27)])
                                have w24 : h43 39 24 = hn 39 24 := (by rw [(eh43.2.1 24 (by decide) : h43 39 24 = h42 39 24), (by rw [eh42]; rfl : h42 39 24 = h39 39 24), (by rw [eh39]; rfl : h39 39 24 = hn 39 24)])
                                have w26 : h43 39 26 = hn 39 26 + 1 := (by rw [(eh43.2.1 26 (by decide) : h43 39 26 = h42 39 26), (by rw [eh42]; rfl : h42 39 26 = v41)]; omega)
                                have w15 : h43 39 15 = hn 39 15 := (by rw [(eh43.2.1 15 (by decide) : h43 39 15 = h42 39 15), (by rw [eh42]; rfl : h42 39 15 = h39 39 15), (by rw [eh39]; rfl : h39 39 15 = hn 39 15)])
                                have w28 : h43 39 28 = hn 39 28 := (by rw [(eh43.2.1 28 (by decide) : h43 39 28 = h42 39 28), (by rw [eh42]; rfl : h42 39 28 = h39 39 28), (by rw [eh39]; rfl : h39 39 28 = hn 39 28)])
                                have w49 : h43 49 = hn 49 := by rw [(eh43.1 49 (by decide) : h43 49 = h42 49), (by rw [eh42]; rfl : h42 49 = h39 49), (by rw [eh39]; rfl : h39 49 = hn 49)]
                                refine z_goto (pc := 167) (tgt := 17) dX8_condition_167 (by decide) ?_
                                refine z_sub (lv' := [(1, AI 1), (0, AR 40)]) [1, 2] rfl ?_
                                exact ih17 1 h43 (by first | exact Or.inr ⟨rfl, cE, WE, GE, qe, ne, re, by omega, by omega, ze⟩ | (exfalso; omega) | exact Or.inl ⟨rfl, cE + 1, 8 :: W6, G6, qs_wait (Or.inl rfl) qn nn (by omega) (by omega) th43 (qn.2.1.push u50 w26) (qn.2.2.1.kp w49 w24) w27 w24 w26 w15 w28, rn.trans (r_pushA nn (by omega) (by omega) (by omega))⟩ | exact Or.inl ⟨rfl, cE + 1, 9 :: W6, G6, qs_wait (Or.inr rfl) qn nn (by omega) (by omega) th43 (qn.2.1.push u50 w26) (qn.2.2.1.kp w49 w24) w27 w24 w26 w15 w28, rn.trans (r_pushO nn (by omega) (by omega) (by omega) (by omega))⟩) (frh43) (ff39h43) (by have := TM.adv thk th43 (by omega); omega)
                              · refine z_bipush (pc := 145) (v := 8) dX8_condition_145 (by decide +kernel) ?_
                                refine z_goto (pc := 147) (tgt := 152) dX8_condition_147 (by decide) ?_
                                refine z_iast (pc := 152) (pl := 50) (by decide) rfl (by decide) (by omega) (by omega) ⟨by decide, by decide⟩ dX8_condition_152 (fun h44 eh44 => ?_)
                                have frh44 : Fr [39, 49, 50] hi h44 := (Fr.put frlhn eh44 (by decide))
                                have ff39h44 : FF 39 [10, 11, 12, 13, 14, 15, 16, 24, 26, 27] hi h44 := FF.oth ffl39hn eh44 (by decide)
                                have th44 : TM h44 S P V st m cE := TM.oth thn eh44 (by decide)
                                have u0 : h44 50 = updI (hn 50) (hn 39 26).toNat 8 := by rw [eh44, hput_same]; exact updI_c (by omega) (by omega)
                                refine z_aload_n (pc := 153) (x := 40) dX8_condition_153 rfl 2 rfl ?_
                                refine z_dup (pc := 154) dX8_condition_154 rfl ?_
                                refine z_getI (pc := 155) (pl := 39) (f := 26) (ci := 7) (C := RX8) (T := TX8) (N := 33) hu_X8 (by decide) rfl rfl (by decide) rfl (List.mem_cons_of_mem _ (iw36 _ (List.mem_of_getElem? (i := 3) rfl))) rfl (by decide) dX8_condition_155 (fun v45 ev45 rv45 => ?_)
                                rw [(by rw [eh44]; rfl : h44 39 26 = hn 39 26)] at ev45
                                refine z_iconst (pc := 158) (v := 1) dX8_condition_158 rfl ?_
                                refine z_iadd (pc := 159) dX8_condition_159 (fun v46 ev46 => ?_)
                                refine z_putI (pc := 160) (pl := 39) (f := 26) (ci := 7) (C := RX8) (T := TX8) (N := 33) hu_X8 tyX8_ok nmX8 (by decide) rfl rfl (by decide) rfl (List.mem_cons_of_mem _ (iw36 _ (List.mem_of_getElem? (i := 3) rfl))) rfl rfl (ty := .int) (by decide +kernel) rfl rfl ⟨by omega, by omega⟩ dX8_condition_160 (fun h47 eh47 => ?_)
                                have frh47 : Fr [39, 49, 50] hi h47 := (Fr.put frh44 eh47 (by decide))
                                have ff39h47 : FF 39 [10, 11, 12, 13, 14, 15, 16, 24, 26, 27] hi h47 := FF.put ff39h44 eh47 (by decide)
                                have th47 : TM h47 S P V st m cE := TM.put th44 eh47 (by decide)
                                refine z_aload_n (pc := 163) (x := 40) dX8_condition_163 rfl 2 rfl ?_
                                refine z_callV (pc := 164) (kc := kX8_go) (n := 0) (pl := 39) (ci := 7) (C := RX8) (As := []) (stk := []) ct_X8_go2 (gdV rfl rfl (iw27 _ (List.mem_of_getElem? (i := 11) rfl)) (iw27 _ (List.mem_of_getElem? (i := 12) rfl)) (iw27 _ (List.mem_of_getElem? (i := 13) rfl)) (iw1 _ (List.mem_of_getElem? (i := 5) rfl)) (iw27 _ (List.mem_of_getElem? (i := 14) rfl))) rfl ⟨rfl, rfl⟩ (by decide +kernel) ⟨by decide, by decide⟩ (by decide) rfl rfl dX8_condition_164 rfl rfl (Nat.le_of_ble_eq_true rfl) ?_
                                refine ⟨S, P, V, st, m, cE, rfl, ⟨th47, by omega, by omega⟩, fun h48 eh48 => ?_⟩
                                have frh48 : Fr [39, 49, 50] hi h48 := (Fr.call frh47 eh48.1 (by decide))
                                have ff39h48 : FF 39 [10, 11, 12, 13, 14, 15, 16, 24, 26, 27] hi h48 := FF.call ff39h47 (eh48.2.1) (by decide)
                                have th48 : TM h48 S P V st m (cE + 1) := eh48.2.2
                                have u50 := (show h48 50 = h44 50 by rw [(eh48.1 50 (by decide) : h48 50 = h47 50), (by rw [eh47]; rfl : h47 50 = h44 50)]).trans u0
                                have w27 : h48 39 27 = hn 39 27 := (by rw [(eh48.2.1 27 (by decide) : h48 39 27 = h47 39 27), (by rw [eh47]; rfl : h47 39 27 = h44 39 27), (by rw [eh44]; rfl : h44 39 27 = hn 39 27)])
                                have w24 : h48 39 24 = hn 39 24 := (by rw [(eh48.2.1 24 (by decide) : h48 39 24 = h47 39 24), (by rw [eh47]; rfl : h47 39 24 = h44 39 24), (by rw [eh44]; rfl : h44 39 24 = hn 39 24)])
                                have w26 : h48 39 26 = hn 39 26 + 1 := (by rw [(eh48.2.1 26 (by decide) : h48 39 26 = h47 39 26), (by rw [eh47]; rfl : h47 39 26 = v46)]; omega)
                                have w15 : h48 39 15 = hn 39 15 := (by rw [(eh48.2.1 15 (by decide) : h48 39 15 = h47 39 15), (by rw [eh47]; rfl : h47 39 15 = h44 39 15), (by rw [eh44]; rfl : h44 39 15 = hn 39 15)])
                                have w28 : h48 39 28 = hn 39 28 := (by rw [(eh48.2.1 28 (by decide) : h48 39 28 = h47 39 28), (by rw [eh47]; rfl : h47 39 28 = h44 39 28), (by rw [eh44]; rfl : h44 39 28 = hn 39 28)])
                                have w49 : h48 49 = hn 49 := by rw [(eh48.1 49 (by decide) : h48 49 = h47 49), (by rw [eh47]; rfl : h47 49 = h44 49), (by rw [eh44]; rfl : h44 49 = hn 49)]
                                refine z_goto (pc := 167) (tgt := 17) dX8_condition_167 (by decide) ?_
                                refine z_sub (lv' := [(1, AI 1), (0, AR 40)]) [1, 2] rfl ?_
                                exact ih17 1 h48 (by first | exact Or.inr ⟨rfl, cE, WE, GE, qe, ne, re, by omega, by omega, ze⟩ | (exfalso; omega) | exact Or.inl ⟨rfl, cE + 1, 8 :: W6, G6, qs_wait (Or.inl rfl) qn nn (by omega) (by omega) th48 (qn.2.1.push u50 w26) (qn.2.2.1.kp w49 w24) w27 w24 w26 w15 w28, rn.trans (r_pushA nn (by omega) (by omega) (by omega))⟩ | exact Or.inl ⟨rfl, cE + 1, 9 :: W6, G6, qs_wait (Or.inr rfl) qn nn (by omega) (by omega) th48 (qn.2.1.push u50 w26) (qn.2.2.1.kp w49 w24) w27 w24 w26 w15 w28, rn.trans (r_pushO nn (by omega) (by omega) (by omega) (by omega))⟩) (frh48) (ff39h48) (by have := TM.adv thk th48 (by omega); omega)
                            · obtain ⟨o, W7, b, a, G7, ho, eW, eG, n7⟩ := qn.topB (by omega)
                              subst eW
                              subst eG
                              have to : topW (o :: W7) = o := rfl
                              have p26 := qn.2.1.hd.2
                              refine z_aload_n (pc := 126) (x := 40) dX8_condition_126 rfl 2 rfl ?_
                              refine z_callV (pc := 127) (kc := kX8_drops) (n := 0) (pl := 39) (ci := 7) (C := RX8) (As := []) (stk := []) ct_X8_drops (gdV rfl rfl (iw38 _ (List.mem_of_getElem? (i := 3) rfl)) (iw38 _ (List.mem_of_getElem? (i := 4) rfl)) (iw38 _ (List.mem_of_getElem? (i := 5) rfl)) (iw1 _ (List.mem_of_getElem? (i := 5) rfl)) (iw38 _ (List.mem_of_getElem? (i := 6) rfl))) rfl ⟨rfl, rfl⟩ (by decide +kernel) ⟨by decide, by decide⟩ (by decide) rfl rfl dX8_condition_127 rfl rfl (Nat.le_of_ble_eq_true rfl) ?_
                              refine ⟨o, W7, (b :: a :: G7), rfl, ⟨qn.2.1, qn.2.2.1, by omega, qn.okB ho, by omega⟩, fun h49 eh49 => ?_⟩
                              have frh49 : Fr [39, 49, 50] hi h49 := (Fr.call frlhn eh49.1 (by decide))
                              have ff39h49 : FF 39 [10, 11, 12, 13, 14, 15, 16, 24, 26, 27] hi h49 := FF.call ffl39hn (eh49.2.1) (by decide)
                              have th49 : TM h49 S P V st m cE := TM.fr thn eh49.1 eh49.2.1 (by decide) (by decide)
                              have dw := eh49.2.2.1
                              have dc := eh49.2.2.2.1
                              have d24 := eh49.2.2.2.2.1
                              have d26 := eh49.2.2.2.2.2
                              rw [apC_o (Or.inr ho)] at dc
                              have w27 : h49 39 27 = hn 39 27 := (by rw [(eh49.2.1 27 (by decide) : h49 39 27 = hn 39 27)])
                              have w24 : h49 39 24 = hn 39 24 + 1 := (by omega)
                              have w26 : h49 39 26 = hn 39 26 - 1 := (by omega)
                              have w15 : h49 39 15 = hn 39 15 := (by rw [(eh49.2.1 15 (by decide) : h49 39 15 = hn 39 15)])
                              have w28 : h49 39 28 = hn 39 28 := (by rw [(eh49.2.1 28 (by decide) : h49 39 28 = hn 39 28)])
                              refine z_goto (pc := 130) (tgt := 104) dX8_condition_130 (by decide) ?_
                              exact ih104 h49 (⟨W7, bin o a b :: G7, qs_bin ho qn th49 dw dc w27 w24 w26 w15 w28, n7, rn.trans (r_binX ho (by first | exact Or.inl (by omega) | exact Or.inr (Or.inl (by omega))))⟩) (frh49) (ff39h49) (by omega)
                    exact J104 _ h15 (⟨WE, GE, qe, ne, re⟩) (frh15) (ff39h15) (Nat.lt_succ_self _)
                  · refine z_aload_n (pc := 76) (x := 40) dX8_condition_76 rfl 1 rfl ?_
                    refine z_ldc2 (pc := 77) (v := 498) (x := 498) (List.mem_cons_of_mem _ (iw36 _ (List.mem_of_getElem? (i := 8) rfl))) (by decide +kernel) dX8_condition_77 ?_
                    refine z_callV (pc := 80) (kc := kX8_is) (n := 1) (pl := 39) (ci := 7) (C := RX8) (As := [AL 498]) (stk := []) ct_X8_is (gdV rfl rfl (iw29 _ (List.mem_of_getElem? (i := 13) rfl)) (iw29 _ (List.mem_of_getElem? (i := 14) rfl)) (iw29 _ (List.mem_of_getElem? (i := 15) rfl)) (iw1 _ (List.mem_of_getElem? (i := 5) rfl)) (iw29 _ (List.mem_of_getElem? (i := 16) rfl))) rfl ⟨rfl, rfl⟩ (by decide +kernel) ⟨by decide, by decide⟩ (by decide) rfl rfl dX8_condition_80 rfl rfl (Nat.le_of_ble_eq_true rfl) ?_
                    refine ⟨_, rfl, by omega, fun v50 ev50 => ?_⟩
                    have wv50 := isw ev50 (te.wd 27 (by decide) (by decide))
                    refine z_if_eq (pc := 83) (tgt := 90) dX8_condition_83 (by decide) ⟨by omega, by omega⟩ (fun c51 => ?_) (fun c51 => ?_)
                    · refine z_iconst (pc := 90) (v := 0) dX8_condition_90 rfl ?_
                      refine z_istore_n (pc := 91) (lv' := [(1, AI 0), (0, AR 40)]) dX8_condition_91 rfl (by decide) rfl ?_
                      refine z_iload_n (pc := 92) dX8_condition_92 rfl 0 rfl ?_
                      refine z_if_eq (pc := 93) (tgt := 17) dX8_condition_93 (by decide) ⟨by decide, by decide⟩ (fun _ => ?_) (fun q => absurd q (by decide))
                      exact ih17 0 h15 (by first | exact Or.inr ⟨rfl, cE, WE, GE, qe, ne, re, by omega, by omega, ze⟩ | (exfalso; omega) | exact Or.inl ⟨rfl, cE + 1, 8 :: W6, G6, qs_wait (Or.inl rfl) qn nn (by omega) (by omega) te (qn.2.1.push u50 w26) (qn.2.2.1.kp w49 w24) w27 w24 w26 w15 w28, rn.trans (r_pushA nn (by omega) (by omega) (by omega))⟩ | exact Or.inl ⟨rfl, cE + 1, 9 :: W6, G6, qs_wait (Or.inr rfl) qn nn (by omega) (by omega) te (qn.2.1.push u50 w26) (qn.2.2.1.kp w49 w24) w27 w24 w26 w15 w28, rn.trans (r_pushO nn (by omega) (by omega) (by omega) (by omega))⟩) (frh15) (ff39h15) (by have := TM.adv thk te (by omega); omega)
                    · refine z_iconst (pc := 86) (v := 1) dX8_condition_86 rfl ?_
                      refine z_goto (pc := 87) (tgt := 91) dX8_condition_87 (by decide) ?_
                      refine z_istore_n (pc := 91) (lv' := [(1, AI 1), (0, AR 40)]) dX8_condition_91 rfl (by decide) rfl ?_
                      refine z_iload_n (pc := 92) dX8_condition_92 rfl 0 rfl ?_
                      refine z_if_eq (pc := 93) (tgt := 17) dX8_condition_93 (by decide) ⟨by decide, by decide⟩ (fun q => absurd q (by decide)) (fun _ => ?_)
                      refine z_aload_n (pc := 96) (x := 40) dX8_condition_96 rfl 1 rfl ?_
                      refine z_ldc2 (pc := 97) (v := 1476) (x := 1476) (List.mem_cons_of_mem _ (iw36 _ (List.mem_of_getElem? (i := 7) rfl))) (by decide +kernel) dX8_condition_97 ?_
                      refine z_callV (pc := 100) (kc := kX8_is) (n := 1) (pl := 39) (ci := 7) (C := RX8) (As := [AL 1476]) (stk := []) ct_X8_is (gdV rfl rfl (iw29 _ (List.mem_of_getElem? (i := 13) rfl)) (iw29 _ (List.mem_of_getElem? (i := 14) rfl)) (iw29 _ (List.mem_of_getElem? (i := 15) rfl)) (iw1 _ (List.mem_of_getElem? (i := 5) rfl)) (iw29 _ (List.mem_of_getElem? (i := 16) rfl))) rfl ⟨rfl, rfl⟩ (by decide +kernel) ⟨by decide, by decide⟩ (by decide) rfl rfl dX8_condition_100 rfl rfl (Nat.le_of_ble_eq_true rfl) ?_
                      refine ⟨_, rfl, by omega, fun v52 ev52 => ?_⟩
                      have wv52 := isw ev52 (te.wd 28 (by decide) (by decide))
                      refine z_istore_n (pc := 103) (lv' := [(2, AI v52), (1, AI 1), (0, AR 40)]) dX8_condition_103 rfl (by decide) rfl ?_
                      have J104 : ∀ (N : Nat) (hn : HI), (∃ (W6 : List Int) (G6 : List Ex), QS hn S P V st m (hi 39 28) 1 cE W6 G6 ∧ topW W6 ≠ 7 ∧ res (hi 39 28) S P V (0, c, [], []) = res (hi 39 28) S P V (1, cE, W6, G6)) → (Fr [39, 49, 50] hi hn) → (FF 39 [10, 11, 12, 13, 14, 15, 16, 24, 26, 27] hi hn) → ((hn 39 26).toNat) < N → Z kX8_condition Q 104 [(2, AI v52), (1, AI 1), (0, AR 40)] [] hn := by
                        intro N
                        induction N with
                        | zero => intro hn _ _ _ _; exact absurd (by assumption) (Nat.not_lt_zero _)
                        | succ N ih104 =>
                          intro hn n1 frlhn ffl39hn hm104
                          obtain ⟨W6, G6, qn, nn, rn⟩ := n1
                          have thn := qn.1
                          have bn := qn.bds
                          have o28hn := qn.2.2.2.2.2.2.2.2.2.1
                          have o15hn := qn.2.2.2.2.2.1
                          have o27n := qn.2.2.2.1
                          refine z_aload_n (pc := 104) (x := 40) dX8_condition_104 rfl 2 rfl ?_
                          refine z_bipush (pc := 105) (v := 8) dX8_condition_105 (by decide +kernel) ?_
                          refine z_callV (pc := 107) (kc := kX8_isTop) (n := 1) (pl := 39) (ci := 7) (C := RX8) (As := [AI 8]) (stk := []) ct_X8_isTop (gdV rfl rfl (iw37 _ (List.mem_of_getElem? (i := 23) rfl)) (iw38 _ (List.mem_of_getElem? (i := 0) rfl)) (iw38 _ (List.mem_of_getElem? (i := 1) rfl)) (iw1 _ (List.mem_of_getElem? (i := 5) rfl)) (iw38 _ (List.mem_of_getElem? (i := 2) rfl))) rfl ⟨rfl, rfl⟩ (by decide +kernel) ⟨by decide, by decide⟩ (by decide) rfl rfl dX8_condition_107 rfl rfl (Nat.le_of_ble_eq_true rfl) ?_
                          refine ⟨_, W6, rfl, ⟨qn.2.1, by omega, ⟨by decide, by decide⟩, by decide⟩, fun v53 ev53 => ?_⟩
                          refine z_if_ne (pc := 110) (tgt := 126) dX8_condition_110 (by decide) ⟨by omega, by omega⟩ (fun c54 => ?_) (fun c54 => ?_)
                          · obtain ⟨o, W7, b, a, G7, ho, eW, eG, n7⟩ := qn.topB (by omega)
                            subst eW
                            subst eG
                            have to : topW (o :: W7) = o := rfl
                            have p26 := qn.2.1.hd.2
                            refine z_aload_n (pc := 126) (x := 40) dX8_condition_126 rfl 2 rfl ?_
                            refine z_callV (pc := 127) (kc := kX8_drops) (n := 0) (pl := 39) (ci := 7) (C := RX8) (As := []) (stk := []) ct_X8_drops (gdV rfl rfl (iw38 _ (List.mem_of_getElem? (i := 3) rfl)) (iw38 _ (List.mem_of_getElem? (i := 4) rfl)) (iw38 _ (List.mem_of_getElem? (i := 5) rfl)) (iw1 _ (List.mem_of_getElem? (i := 5) rfl)) (iw38 _ (List.mem_of_getElem? (i := 6) rfl))) rfl ⟨rfl, rfl⟩ (by decide +kernel) ⟨by decide, by decide⟩ (by decide) rfl rfl dX8_condition_127 rfl rfl (Nat.le_of_ble_eq_true rfl) ?_
                            refine ⟨o, W7, (b :: a :: G7), rfl, ⟨qn.2.1, qn.2.2.1, by omega, qn.okB ho, by omega⟩, fun h55 eh55 => ?_⟩
                            have frh55 : Fr [39, 49, 50] hi h55 := (Fr.call frlhn eh55.1 (by decide))
                            have ff39h55 : FF 39 [10, 11, 12, 13, 14, 15, 16, 24, 26, 27] hi h55 := FF.call ffl39hn (eh55.2.1) (by decide)
                            have th55 : TM h55 S P V st m cE := TM.fr thn eh55.1 eh55.2.1 (by decide) (by decide)
                            have dw := eh55.2.2.1
                            have dc := eh55.2.2.2.1
                            have d24 := eh55.2.2.2.2.1
                            have d26 := eh55.2.2.2.2.2
                            rw [apC_o (Or.inr ho)] at dc
                            have w27 : h55 39 27 = hn 39 27 := (by rw [(eh55.2.1 27 (by decide) : h55 39 27 = hn 39 27)])
                            have w24 : h55 39 24 = hn 39 24 + 1 := (by omega)
                            have w26 : h55 39 26 = hn 39 26 - 1 := (by omega)
                            have w15 : h55 39 15 = hn 39 15 := (by rw [(eh55.2.1 15 (by decide) : h55 39 15 = hn 39 15)])
                            have w28 : h55 39 28 = hn 39 28 := (by rw [(eh55.2.1 28 (by decide) : h55 39 28 = hn 39 28)])
                            refine z_goto (pc := 130) (tgt := 104) dX8_condition_130 (by decide) ?_
                            exact ih104 h55 (⟨W7, bin o a b :: G7, qs_bin ho qn th55 dw dc w27 w24 w26 w15 w28, n7, rn.trans (r_binX ho (by first | exact Or.inl (by omega) | exact Or.inr (Or.inl (by omega))))⟩) (frh55) (ff39h55) (by omega)
                          · refine z_iload_n (pc := 113) dX8_condition_113 rfl 0 rfl ?_
                            refine z_if_ne (pc := 114) (tgt := 133) dX8_condition_114 (by decide) ⟨by omega, by omega⟩ (fun c56 => ?_) (fun c56 => ?_)
                            · refine z_aload_n (pc := 133) (x := 40) dX8_condition_133 rfl 2 rfl ?_
                              refine z_getR (pc := 134) (pl := 39) (f := 25) (ci := 7) (C := RX8) (T := TX8) (N := 33) hu_X8 (by decide) rfl rfl (by decide) rfl (List.mem_cons_of_mem _ (iw5 _ (List.mem_of_getElem? (i := 16) rfl))) rfl dX8_condition_134 ?_
                              refine z_aload_n (pc := 137) (x := 40) dX8_condition_137 rfl 2 rfl ?_
                              refine z_getI (pc := 138) (pl := 39) (f := 26) (ci := 7) (C := RX8) (T := TX8) (N := 33) hu_X8 (by decide) rfl rfl (by decide) rfl (List.mem_cons_of_mem _ (iw36 _ (List.mem_of_getElem? (i := 3) rfl))) rfl (by decide) dX8_condition_138 (fun v57 ev57 rv57 => ?_)
                              refine z_iload_n (pc := 141) dX8_condition_141 rfl 0 rfl ?_
                              refine z_if_eq (pc := 142) (tgt := 150) dX8_condition_142 (by decide) ⟨by omega, by omega⟩ (fun c58 => ?_) (fun c58 => ?_)
                              · refine z_bipush (pc := 150) (v := 9) dX8_condition_150 (by decide +kernel) ?_
                                refine z_iast (pc := 152) (pl := 50) (by decide) rfl (by decide) (by omega) (by omega) ⟨by decide, by decide⟩ dX8_condition_152 (fun h59 eh59 => ?_)
                                have frh59 : Fr [39, 49, 50] hi h59 := (Fr.put frlhn eh59 (by decide))
                                have ff39h59 : FF 39 [10, 11, 12, 13, 14, 15, 16, 24, 26, 27] hi h59 := FF.oth ffl39hn eh59 (by decide)
                                have th59 : TM h59 S P V st m cE := TM.oth thn eh59 (by decide)
                                have u0 : h59 50 = updI (hn 50) (hn 39 26).toNat 9 := by rw [eh59, hput_same]; exact updI_c (by omega) (by omega)
                                refine z_aload_n (pc := 153) (x := 40) dX8_condition_153 rfl 2 rfl ?_
                                refine z_dup (pc := 154) dX8_condition_154 rfl ?_
                                refine z_getI (pc := 155) (pl := 39) (f := 26) (ci := 7) (C := RX8) (T := TX8) (N := 33) hu_X8 (by decide) rfl rfl (by decide) rfl (List.mem_cons_of_mem _ (iw36 _ (List.mem_of_getElem? (i := 3) rfl))) rfl (by decide) dX8_condition_155 (fun v60 ev60 rv60 => ?_)
                                rw [(by rw [eh59]; rfl : h59 39 26 = hn 39 26)] at ev60
                                refine z_iconst (pc := 158) (v := 1) dX8_condition_158 rfl ?_
                                refine z_iadd (pc := 159) dX8_condition_159 (fun v61 ev61 => ?_)
                                refine z_putI (pc := 160) (pl := 39) (f := 26) (ci := 7) (C := RX8) (T := TX8) (N := 33) hu_X8 tyX8_ok nmX8 (by decide) rfl rfl (by decide) rfl (List.mem_cons_of_mem _ (iw36 _ (List.mem_of_getElem? (i := 3) rfl))) rfl rfl (ty := .int) (by decide +kernel) rfl rfl ⟨by omega, by omega⟩ dX8_condition_160 (fun h62 eh62 => ?_)
                                have frh62 : Fr [39, 49, 50] hi h62 := (Fr.put frh59 eh62 (by decide))
                                have ff39h62 : FF 39 [10, 11, 12, 13, 14, 15, 16, 24, 26, 27] hi h62 := FF.put ff39h59 eh62 (by decide)
                                have th62 : TM h62 S P V st m cE := TM.put th59 eh62 (by decide)
                                refine z_aload_n (pc := 163) (x := 40) dX8_condition_163 rfl 2 rfl ?_
                                refine z_callV (pc := 164) (kc := kX8_go) (n := 0) (pl := 39) (ci := 7) (C := RX8) (As := []) (stk := []) ct_X8_go2 (gdV rfl rfl (iw27 _ (List.mem_of_getElem? (i := 11) rfl)) (iw27 _ (List.mem_of_getElem? (i := 12) rfl)) (iw27 _ (List.mem_of_getElem? (i := 13) rfl)) (iw1 _ (List.mem_of_getElem? (i := 5) rfl)) (iw27 _ (List.mem_of_getElem? (i := 14) rfl))) rfl ⟨rfl, rfl⟩ (by decide +kernel) ⟨by decide, by decide⟩ (by decide) rfl rfl dX8_condition_164 rfl rfl (Nat.le_of_ble_eq_true rfl) ?_
                                refine ⟨S, P, V, st, m, cE, rfl, ⟨th62, by omega, by omega⟩, fun h63 eh63 => ?_⟩
                                have frh63 : Fr [39, 49, 50] hi h63 := (Fr.call frh62 eh63.1 (by decide))
                                have ff39h63 : FF 39 [10, 11, 12, 13, 14, 15, 16, 24, 26, 27] hi h63 := FF.call ff39h62 (eh63.2.1) (by decide)
                                have th63 : TM h63 S P V st m (cE + 1) := eh63.2.2
                                have u50 := (show h63 50 = h59 50 by rw [(eh63.1 50 (by decide) : h63 50 = h62 50), (by rw [eh62]; rfl : h62 50 = h59 50)]).trans u0
                                have w27 : h63 39 27 = hn 39 27 := (by rw [(eh63.2.1 27 (by decide) : h63 39 27 = h62 39 27), (by rw [eh62]; rfl : h62 39 27 = h59 39 27), (by rw [eh59]; rfl : h59 39 27 = hn 39 27)])
                                have w24 : h63 39 24 = hn 39 24 := (by rw [(eh63.2.1 24 (by decide) : h63 39 24 = h62 39 24), (by rw [eh62]; rfl : h62 39 24 = h59 39 24), (by rw [eh59]; rfl : h59 39 24 = hn 39 24)])
                                have w26 : h63 39 26 = hn 39 26 + 1 := (by rw [(eh63.2.1 26 (by decide) : h63 39 26 = h62 39 26), (by rw [eh62]; rfl : h62 39 26 = v61)]; omega)
                                have w15 : h63 39 15 = hn 39 15 := (by rw [(eh63.2.1 15 (by decide) : h63 39 15 = h62 39 15), (by rw [eh62]; rfl : h62 39 15 = h59 39 15), (by rw [eh59]; rfl : h59 39 15 = hn 39 15)])
                                have w28 : h63 39 28 = hn 39 28 := (by rw [(eh63.2.1 28 (by decide) : h63 39 28 = h62 39 28), (by rw [eh62]; rfl : h62 39 28 = h59 39 28), (by rw [eh59]; rfl : h59 39 28 = hn 39 28)])
                                have w49 : h63 49 = hn 49 := by rw [(eh63.1 49 (by decide) : h63 49 = h62 49), (by rw [eh62]; rfl : h62 49 = h59 49), (by rw [eh59]; rfl : h59 49 = hn 49)]
                                refine z_goto (pc := 167) (tgt := 17) dX8_condition_167 (by decide) ?_
                                refine z_sub (lv' := [(1, AI 1), (0, AR 40)]) [1, 2] rfl ?_
                                exact ih17 1 h63 (by first | exact Or.inr ⟨rfl, cE, WE, GE, qe, ne, re, by omega, by omega, ze⟩ | (exfalso; omega) | exact Or.inl ⟨rfl, cE + 1, 8 :: W6, G6, qs_wait (Or.inl rfl) qn nn (by omega) (by omega) th63 (qn.2.1.push u50 w26) (qn.2.2.1.kp w49 w24) w27 w24 w26 w15 w28, rn.trans (r_pushA nn (by omega) (by omega) (by omega))⟩ | exact Or.inl ⟨rfl, cE + 1, 9 :: W6, G6, qs_wait (Or.inr rfl) qn nn (by omega) (by omega) th63 (qn.2.1.push u50 w26) (qn.2.2.1.kp w49 w24) w27 w24 w26 w15 w28, rn.trans (r_pushO nn (by omega) (by omega) (by omega) (by omega))⟩) (frh63) (ff39h63) (by have := TM.adv thk th63 (by omega); omega)
                              · refine z_bipush (pc := 145) (v := 8) dX8_condition_145 (by decide +kernel) ?_
                                refine z_goto (pc := 147) (tgt := 152) dX8_condition_147 (by decide) ?_
                                refine z_iast (pc := 152) (pl := 50) (by decide) rfl (by decide) (by omega) (by omega) ⟨by decide, by decide⟩ dX8_condition_152 (fun h64 eh64 => ?_)
                                have frh64 : Fr [39, 49, 50] hi h64 := (Fr.put frlhn eh64 (by decide))
                                have ff39h64 : FF 39 [10, 11, 12, 13, 14, 15, 16, 24, 26, 27] hi h64 := FF.oth ffl39hn eh64 (by decide)
                                have th64 : TM h64 S P V st m cE := TM.oth thn eh64 (by decide)
                                have u0 : h64 50 = updI (hn 50) (hn 39 26).toNat 8 := by rw [eh64, hput_same]; exact updI_c (by omega) (by omega)
                                refine z_aload_n (pc := 153) (x := 40) dX8_condition_153 rfl 2 rfl ?_
                                refine z_dup (pc := 154) dX8_condition_154 rfl ?_
                                refine z_getI (pc := 155) (pl := 39) (f := 26) (ci := 7) (C := RX8) (T := TX8) (N := 33) hu_X8 (by decide) rfl rfl (by decide) rfl (List.mem_cons_of_mem _ (iw36 _ (List.mem_of_getElem? (i := 3) rfl))) rfl (by decide) dX8_condition_155 (fun v65 ev65 rv65 => ?_)
                                rw [(by rw [eh64]; rfl : h64 39 26 = hn 39 26)] at ev65
                                refine z_iconst (pc := 158) (v := 1) dX8_condition_158 rfl ?_
                                refine z_iadd (pc := 159) dX8_condition_159 (fun v66 ev66 => ?_)
                                refine z_putI (pc := 160) (pl := 39) (f := 26) (ci := 7) (C := RX8) (T := TX8) (N := 33) hu_X8 tyX8_ok nmX8 (by decide) rfl rfl (by decide) rfl (List.mem_cons_of_mem _ (iw36 _ (List.mem_of_getElem? (i := 3) rfl))) rfl rfl (ty := .int) (by decide +kernel) rfl rfl ⟨by omega, by omega⟩ dX8_condition_160 (fun h67 eh67 => ?_)
                                have frh67 : Fr [39, 49, 50] hi h67 := (Fr.put frh64 eh67 (by decide))
                                have ff39h67 : FF 39 [10, 11, 12, 13, 14, 15, 16, 24, 26, 27] hi h67 := FF.put ff39h64 eh67 (by decide)
                                have th67 : TM h67 S P V st m cE := TM.put th64 eh67 (by decide)
                                refine z_aload_n (pc := 163) (x := 40) dX8_condition_163 rfl 2 rfl ?_
                                refine z_callV (pc := 164) (kc := kX8_go) (n := 0) (pl := 39) (ci := 7) (C := RX8) (As := []) (stk := []) ct_X8_go2 (gdV rfl rfl (iw27 _ (List.mem_of_getElem? (i := 11) rfl)) (iw27 _ (List.mem_of_getElem? (i := 12) rfl)) (iw27 _ (List.mem_of_getElem? (i := 13) rfl)) (iw1 _ (List.mem_of_getElem? (i := 5) rfl)) (iw27 _ (List.mem_of_getElem? (i := 14) rfl))) rfl ⟨rfl, rfl⟩ (by decide +kernel) ⟨by decide, by decide⟩ (by decide) rfl rfl dX8_condition_164 rfl rfl (Nat.le_of_ble_eq_true rfl) ?_
                                refine ⟨S, P, V, st, m, cE, rfl, ⟨th67, by omega, by omega⟩, fun h68 eh68 => ?_⟩
                                have frh68 : Fr [39, 49, 50] hi h68 := (Fr.call frh67 eh68.1 (by decide))
                                have ff39h68 : FF 39 [10, 11, 12, 13, 14, 15, 16, 24, 26, 27] hi h68 := FF.call ff39h67 (eh68.2.1) (by decide)
                                have th68 : TM h68 S P V st m (cE + 1) := eh68.2.2
                                have u50 := (show h68 50 = h64 50 by rw [(eh68.1 50 (by decide) : h68 50 = h67 50), (by rw [eh67]; rfl : h67 50 = h64 50)]).trans u0
                                have w27 : h68 39 27 = hn 39 27 := (by rw [(eh68.2.1 27 (by decide) : h68 39 27 = h67 39 27), (by rw [eh67]; rfl : h67 39 27 = h64 39 27), (by rw [eh64]; rfl : h64 39 27 = hn 39 27)])
                                have w24 : h68 39 24 = hn 39 24 := (by rw [(eh68.2.1 24 (by decide) : h68 39 24 = h67 39 24), (by rw [eh67]; rfl : h67 39 24 = h64 39 24), (by rw [eh64]; rfl : h64 39 24 = hn 39 24)])
                                have w26 : h68 39 26 = hn 39 26 + 1 := (by rw [(eh68.2.1 26 (by decide) : h68 39 26 = h67 39 26), (by rw [eh67]; rfl : h67 39 26 = v66)]; omega)
                                have w15 : h68 39 15 = hn 39 15 := (by rw [(eh68.2.1 15 (by decide) : h68 39 15 = h67 39 15), (by rw [eh67]; rfl : h67 39 15 = h64 39 15), (by rw [eh64]; rfl : h64 39 15 = hn 39 15)])
                                have w28 : h68 39 28 = hn 39 28 := (by rw [(eh68.2.1 28 (by decide) : h68 39 28 = h67 39 28), (by rw [eh67]; rfl : h67 39 28 = h64 39 28), (by rw [eh64]; rfl : h64 39 28 = hn 39 28)])
                                have w49 : h68 49 = hn 49 := by rw [(eh68.1 49 (by decide) : h68 49 = h67 49), (by rw [eh67]; rfl : h67 49 = h64 49), (by rw [eh64]; rfl : h64 49 = hn 49)]
                                refine z_goto (pc := 167) (tgt := 17) dX8_condition_167 (by decide) ?_
                                refine z_sub (lv' := [(1, AI 1), (0, AR 40)]) [1, 2] rfl ?_
                                exact ih17 1 h68 (by first | exact Or.inr ⟨rfl, cE, WE, GE, qe, ne, re, by omega, by omega, ze⟩ | (exfalso; omega) | exact Or.inl ⟨rfl, cE + 1, 8 :: W6, G6, qs_wait (Or.inl rfl) qn nn (by omega) (by omega) th68 (qn.2.1.push u50 w26) (qn.2.2.1.kp w49 w24) w27 w24 w26 w15 w28, rn.trans (r_pushA nn (by omega) (by omega) (by omega))⟩ | exact Or.inl ⟨rfl, cE + 1, 9 :: W6, G6, qs_wait (Or.inr rfl) qn nn (by omega) (by omega) th68 (qn.2.1.push u50 w26) (qn.2.2.1.kp w49 w24) w27 w24 w26 w15 w28, rn.trans (r_pushO nn (by omega) (by omega) (by omega) (by omega))⟩) (frh68) (ff39h68) (by have := TM.adv thk th68 (by omega); omega)
                            · refine z_aload_n (pc := 117) (x := 40) dX8_condition_117 rfl 2 rfl ?_
                              refine z_bipush (pc := 118) (v := 9) dX8_condition_118 (by decide +kernel) ?_
                              refine z_callV (pc := 120) (kc := kX8_isTop) (n := 1) (pl := 39) (ci := 7) (C := RX8) (As := [AI 9]) (stk := []) ct_X8_isTop (gdV rfl rfl (iw37 _ (List.mem_of_getElem? (i := 23) rfl)) (iw38 _ (List.mem_of_getElem? (i := 0) rfl)) (iw38 _ (List.mem_of_getElem? (i := 1) rfl)) (iw1 _ (List.mem_of_getElem? (i := 5) rfl)) (iw38 _ (List.mem_of_getElem? (i := 2) rfl))) rfl ⟨rfl, rfl⟩ (by decide +kernel) ⟨by decide, by decide⟩ (by decide) rfl rfl dX8_condition_120 rfl rfl (Nat.le_of_ble_eq_true rfl) ?_
                              refine ⟨_, W6, rfl, ⟨qn.2.1, by omega, ⟨by decide, by decide⟩, by decide⟩, fun v69 ev69 => ?_⟩
                              refine z_if_eq (pc := 123) (tgt := 133) dX8_condition_123 (by decide) ⟨by omega, by omega⟩ (fun c70 => ?_) (fun c70 => ?_)
                              · refine z_aload_n (pc := 133) (x := 40) dX8_condition_133 rfl 2 rfl ?_
                                refine z_getR (pc := 134) (pl := 39) (f := 25) (ci := 7) (C := RX8) (T := TX8) (N := 33) hu_X8 (by decide) rfl rfl (by decide) rfl (List.mem_cons_of_mem _ (iw5 _ (List.mem_of_getElem? (i := 16) rfl))) rfl dX8_condition_134 ?_
                                refine z_aload_n (pc := 137) (x := 40) dX8_condition_137 rfl 2 rfl ?_
                                refine z_getI (pc := 138) (pl := 39) (f := 26) (ci := 7) (C := RX8) (T := TX8) (N := 33) hu_X8 (by decide) rfl rfl (by decide) rfl (List.mem_cons_of_mem _ (iw36 _ (List.mem_of_getElem? (i := 3) rfl))) rfl (by decide) dX8_condition_138 (fun v71 ev71 rv71 => ?_)
                                refine z_iload_n (pc := 141) dX8_condition_141 rfl 0 rfl ?_
                                refine z_if_eq (pc := 142) (tgt := 150) dX8_condition_142 (by decide) ⟨by omega, by omega⟩ (fun c72 => ?_) (fun c72 => ?_)
                                · refine z_bipush (pc := 150) (v := 9) dX8_condition_150 (by decide +kernel) ?_
                                  refine z_iast (pc := 152) (pl := 50) (by decide) rfl (by decide) (by omega) (by omega) ⟨by decide, by decide⟩ dX8_condition_152 (fun h73 eh73 => ?_)
                                  have frh73 : Fr [39, 49, 50] hi h73 := (Fr.put frlhn eh73 (by decide))
                                  have ff39h73 : FF 39 [10, 11, 12, 13, 14, 15, 16, 24, 26, 27] hi h73 := FF.oth ffl39hn eh73 (by decide)
                                  have th73 : TM h73 S P V st m cE := TM.oth thn eh73 (by decide)
                                  have u0 : h73 50 = updI (hn 50) (hn 39 26).toNat 9 := by rw [eh73, hput_same]; exact updI_c (by omega) (by omega)
                                  refine z_aload_n (pc := 153) (x := 40) dX8_condition_153 rfl 2 rfl ?_
                                  refine z_dup (pc := 154) dX8_condition_154 rfl ?_
                                  refine z_getI (pc := 155) (pl := 39) (f := 26) (ci := 7) (C := RX8) (T := TX8) (N := 33) hu_X8 (by decide) rfl rfl (by decide) rfl (List.mem_cons_of_mem _ (iw36 _ (List.mem_of_getElem? (i := 3) rfl))) rfl (by decide) dX8_condition_155 (fun v74 ev74 rv74 => ?_)
                                  rw [(by rw [eh73]; rfl : h73 39 26 = hn 39 26)] at ev74
                                  refine z_iconst (pc := 158) (v := 1) dX8_condition_158 rfl ?_
                                  refine z_iadd (pc := 159) dX8_condition_159 (fun v75 ev75 => ?_)
                                  refine z_putI (pc := 160) (pl := 39) (f := 26) (ci := 7) (C := RX8) (T := TX8) (N := 33) hu_X8 tyX8_ok nmX8 (by decide) rfl rfl (by decide) rfl (List.mem_cons_of_mem _ (iw36 _ (List.mem_of_getElem? (i := 3) rfl))) rfl rfl (ty := .int) (by decide +kernel) rfl rfl ⟨by omega, by omega⟩ dX8_condition_160 (fun h76 eh76 => ?_)
                                  have frh76 : Fr [39, 49, 50] hi h76 := (Fr.put frh73 eh76 (by decide))
                                  have ff39h76 : FF 39 [10, 11, 12, 13, 14, 15, 16, 24, 26, 27] hi h76 := FF.put ff39h73 eh76 (by decide)
                                  have th76 : TM h76 S P V st m cE := TM.put th73 eh76 (by decide)
                                  refine z_aload_n (pc := 163) (x := 40) dX8_condition_163 rfl 2 rfl ?_
                                  refine z_callV (pc := 164) (kc := kX8_go) (n := 0) (pl := 39) (ci := 7) (C := RX8) (As := []) (stk := []) ct_X8_go2 (gdV rfl rfl (iw27 _ (List.mem_of_getElem? (i := 11) rfl)) (iw27 _ (List.mem_of_getElem? (i := 12) rfl)) (iw27 _ (List.mem_of_getElem? (i := 13) rfl)) (iw1 _ (List.mem_of_getElem? (i := 5) rfl)) (iw27 _ (List.mem_of_getElem? (i := 14) rfl))) rfl ⟨rfl, rfl⟩ (by decide +kernel) ⟨by decide, by decide⟩ (by decide) rfl rfl dX8_condition_164 rfl rfl (Nat.le_of_ble_eq_true rfl) ?_
                                  refine ⟨S, P, V, st, m, cE, rfl, ⟨th76, by omega, by omega⟩, fun h77 eh77 => ?_⟩
                                  have frh77 : Fr [39, 49, 50] hi h77 := (Fr.call frh76 eh77.1 (by decide))
                                  have ff39h77 : FF 39 [10, 11, 12, 13, 14, 15, 16, 24, 26, 27] hi h77 := FF.call ff39h76 (eh77.2.1) (by decide)
                                  have th77 : TM h77 S P V st m (cE + 1) := eh77.2.2
                                  have u50 := (show h77 50 = h73 50 by rw [(eh77.1 50 (by decide) : h77 50 = h76 50), (by rw [eh76]; rfl : h76 50 = h73 50)]).trans u0
                                  have w27 : h77 39 27 = hn 39 27 := (by rw [(eh77.2.1 27 (by decide) : h77 39 27 = h76 39 27), (by rw [eh76]; rfl : h76 39 27 = h73 39 27), (by rw [eh73]; rfl : h73 39 27 = hn 39 27)])
                                  have w24 : h77 39 24 = hn 39 24 := (by rw [(eh77.2.1 24 (by decide) : h77 39 24 = h76 39 24), (by rw [eh76]; rfl : h76 39 24 = h73 39 24), (by rw [eh73]; rfl : h73 39 24 = hn 39 24)])
                                  have w26 : h77 39 26 = hn 39 26 + 1 := (by rw [(eh77.2.1 26 (by decide) : h77 39 26 = h76 39 26), (by rw [eh76]; rfl : h76 39 26 = v75)]; omega)
                                  have w15 : h77 39 15 = hn 39 15 := (by rw [(eh77.2.1 15 (by decide) : h77 39 15 = h76 39 15), (by rw [eh76]; rfl : h76 39 15 = h73 39 15), (by rw [eh73]; rfl : h73 39 15 = hn 39 15)])
                                  have w28 : h77 39 28 = hn 39 28 := (by rw [(eh77.2.1 28 (by decide) : h77 39 28 = h76 39 28), (by rw [eh76]; rfl : h76 39 28 = h73 39 28), (by rw [eh73]; rfl : h73 39 28 = hn 39 28)])
                                  have w49 : h77 49 = hn 49 := by rw [(eh77.1 49 (by decide) : h77 49 = h76 49), (by rw [eh76]; rfl : h76 49 = h73 49), (by rw [eh73]; rfl : h73 49 = hn 49)]
                                  refine z_goto (pc := 167) (tgt := 17) dX8_condition_167 (by decide) ?_
                                  refine z_sub (lv' := [(1, AI 1), (0, AR 40)]) [1, 2] rfl ?_
                                  exact ih17 1 h77 (by first | exact Or.inr ⟨rfl, cE, WE, GE, qe, ne, re, by omega, by omega, ze⟩ | (exfalso; omega) | exact Or.inl ⟨rfl, cE + 1, 8 :: W6, G6, qs_wait (Or.inl rfl) qn nn (by omega) (by omega) th77 (qn.2.1.push u50 w26) (qn.2.2.1.kp w49 w24) w27 w24 w26 w15 w28, rn.trans (r_pushA nn (by omega) (by omega) (by omega))⟩ | exact Or.inl ⟨rfl, cE + 1, 9 :: W6, G6, qs_wait (Or.inr rfl) qn nn (by omega) (by omega) th77 (qn.2.1.push u50 w26) (qn.2.2.1.kp w49 w24) w27 w24 w26 w15 w28, rn.trans (r_pushO nn (by omega) (by omega) (by omega) (by omega))⟩) (frh77) (ff39h77) (by have := TM.adv thk th77 (by omega); omega)
                                · refine z_bipush (pc := 145) (v := 8) dX8_condition_145 (by decide +kernel) ?_
                                  refine z_goto (pc := 147) (tgt := 152) dX8_condition_147 (by decide) ?_
                                  refine z_iast (pc := 152) (pl := 50) (by decide) rfl (by decide) (by omega) (by omega) ⟨by decide, by decide⟩ dX8_condition_152 (fun h78 eh78 => ?_)
                                  have frh78 : Fr [39, 49, 50] hi h78 := (Fr.put frlhn eh78 (by decide))
                                  have ff39h78 : FF 39 [10, 11, 12, 13, 14, 15, 16, 24, 26, 27] hi h78 := FF.oth ffl39hn eh78 (by decide)
                                  have th78 : TM h78 S P V st m cE := TM.oth thn eh78 (by decide)
                                  have u0 : h78 50 = updI (hn 50) (hn 39 26).toNat 8 := by rw [eh78, hput_same]; exact updI_c (by omega) (by omega)
                                  refine z_aload_n (pc := 153) (x := 40) dX8_condition_153 rfl 2 rfl ?_
                                  refine z_dup (pc := 154) dX8_condition_154 rfl ?_
                                  refine z_getI (pc := 155) (pl := 39) (f := 26) (ci := 7) (C := RX8) (T := TX8) (N := 33) hu_X8 (by decide) rfl rfl (by decide) rfl (List.mem_cons_of_mem _ (iw36 _ (List.mem_of_getElem? (i := 3) rfl))) rfl (by decide) dX8_condition_155 (fun v79 ev79 rv79 => ?_)
                                  rw [(by rw [eh78]; rfl : h78 39 26 = hn 39 26)] at ev79
                                  refine z_iconst (pc := 158) (v := 1) dX8_condition_158 rfl ?_
                                  refine z_iadd (pc := 159) dX8_condition_159 (fun v80 ev80 => ?_)
                                  refine z_putI (pc := 160) (pl := 39) (f := 26) (ci := 7) (C := RX8) (T := TX8) (N := 33) hu_X8 tyX8_ok nmX8 (by decide) rfl rfl (by decide) rfl (List.mem_cons_of_mem _ (iw36 _ (List.mem_of_getElem? (i := 3) rfl))) rfl rfl (ty := .int) (by decide +kernel) rfl rfl ⟨by omega, by omega⟩ dX8_condition_160 (fun h81 eh81 => ?_)
                                  have frh81 : Fr [39, 49, 50] hi h81 := (Fr.put frh78 eh81 (by decide))
                                  have ff39h81 : FF 39 [10, 11, 12, 13, 14, 15, 16, 24, 26, 27] hi h81 := FF.put ff39h78 eh81 (by decide)
                                  have th81 : TM h81 S P V st m cE := TM.put th78 eh81 (by decide)
                                  refine z_aload_n (pc := 163) (x := 40) dX8_condition_163 rfl 2 rfl ?_
                                  refine z_callV (pc := 164) (kc := kX8_go) (n := 0) (pl := 39) (ci := 7) (C := RX8) (As := []) (stk := []) ct_X8_go2 (gdV rfl rfl (iw27 _ (List.mem_of_getElem? (i := 11) rfl)) (iw27 _ (List.mem_of_getElem? (i := 12) rfl)) (iw27 _ (List.mem_of_getElem? (i := 13) rfl)) (iw1 _ (List.mem_of_getElem? (i := 5) rfl)) (iw27 _ (List.mem_of_getElem? (i := 14) rfl))) rfl ⟨rfl, rfl⟩ (by decide +kernel) ⟨by decide, by decide⟩ (by decide) rfl rfl dX8_condition_164 rfl rfl (Nat.le_of_ble_eq_true rfl) ?_
                                  refine ⟨S, P, V, st, m, cE, rfl, ⟨th81, by omega, by omega⟩, fun h82 eh82 => ?_⟩
                                  have frh82 : Fr [39, 49, 50] hi h82 := (Fr.call frh81 eh82.1 (by decide))
                                  have ff39h82 : FF 39 [10, 11, 12, 13, 14, 15, 16, 24, 26, 27] hi h82 := FF.call ff39h81 (eh82.2.1) (by decide)
                                  have th82 : TM h82 S P V st m (cE + 1) := eh82.2.2
                                  have u50 := (show h82 50 = h78 50 by rw [(eh82.1 50 (by decide) : h82 50 = h81 50), (by rw [eh81]; rfl : h81 50 = h78 50)]).trans u0
                                  have w27 : h82 39 27 = hn 39 27 := (by rw [(eh82.2.1 27 (by decide) : h82 39 27 = h81 39 27), (by rw [eh81]; rfl : h81 39 27 = h78 39 27), (by rw [eh78]; rfl : h78 39 27 = hn 39 27)])
                                  have w24 : h82 39 24 = hn 39 24 := (by rw [(eh82.2.1 24 (by decide) : h82 39 24 = h81 39 24), (by rw [eh81]; rfl : h81 39 24 = h78 39 24), (by rw [eh78]; rfl : h78 39 24 = hn 39 24)])
                                  have w26 : h82 39 26 = hn 39 26 + 1 := (by rw [(eh82.2.1 26 (by decide) : h82 39 26 = h81 39 26), (by rw [eh81]; rfl : h81 39 26 = v80)]; omega)
                                  have w15 : h82 39 15 = hn 39 15 := (by rw [(eh82.2.1 15 (by decide) : h82 39 15 = h81 39 15), (by rw [eh81]; rfl : h81 39 15 = h78 39 15), (by rw [eh78]; rfl : h78 39 15 = hn 39 15)])
                                  have w28 : h82 39 28 = hn 39 28 := (by rw [(eh82.2.1 28 (by decide) : h82 39 28 = h81 39 28), (by rw [eh81]; rfl : h81 39 28 = h78 39 28), (by rw [eh78]; rfl : h78 39 28 = hn 39 28)])
                                  have w49 : h82 49 = hn 49 := by rw [(eh82.1 49 (by decide) : h82 49 = h81 49), (by rw [eh81]; rfl : h81 49 = h78 49), (by rw [eh78]; rfl : h78 49 = hn 49)]
                                  refine z_goto (pc := 167) (tgt := 17) dX8_condition_167 (by decide) ?_
                                  refine z_sub (lv' := [(1, AI 1), (0, AR 40)]) [1, 2] rfl ?_
                                  exact ih17 1 h82 (by first | exact Or.inr ⟨rfl, cE, WE, GE, qe, ne, re, by omega, by omega, ze⟩ | (exfalso; omega) | exact Or.inl ⟨rfl, cE + 1, 8 :: W6, G6, qs_wait (Or.inl rfl) qn nn (by omega) (by omega) th82 (qn.2.1.push u50 w26) (qn.2.2.1.kp w49 w24) w27 w24 w26 w15 w28, rn.trans (r_pushA nn (by omega) (by omega) (by omega))⟩ | exact Or.inl ⟨rfl, cE + 1, 9 :: W6, G6, qs_wait (Or.inr rfl) qn nn (by omega) (by omega) th82 (qn.2.1.push u50 w26) (qn.2.2.1.kp w49 w24) w27 w24 w26 w15 w28, rn.trans (r_pushO nn (by omega) (by omega) (by omega) (by omega))⟩) (frh82) (ff39h82) (by have := TM.adv thk th82 (by omega); omega)
                              · obtain ⟨o, W7, b, a, G7, ho, eW, eG, n7⟩ := qn.topB (by omega)
                                subst eW
                                subst eG
                                have to : topW (o :: W7) = o := rfl
                                have p26 := qn.2.1.hd.2
                                refine z_aload_n (pc := 126) (x := 40) dX8_condition_126 rfl 2 rfl ?_
                                refine z_callV (pc := 127) (kc := kX8_drops) (n := 0) (pl := 39) (ci := 7) (C := RX8) (As := []) (stk := []) ct_X8_drops (gdV rfl rfl (iw38 _ (List.mem_of_getElem? (i := 3) rfl)) (iw38 _ (List.mem_of_getElem? (i := 4) rfl)) (iw38 _ (List.mem_of_getElem? (i := 5) rfl)) (iw1 _ (List.mem_of_getElem? (i := 5) rfl)) (iw38 _ (List.mem_of_getElem? (i := 6) rfl))) rfl ⟨rfl, rfl⟩ (by decide +kernel) ⟨by decide, by decide⟩ (by decide) rfl rfl dX8_condition_127 rfl rfl (Nat.le_of_ble_eq_true rfl) ?_
                                refine ⟨o, W7, (b :: a :: G7), rfl, ⟨qn.2.1, qn.2.2.1, by omega, qn.okB ho, by omega⟩, fun h83 eh83 => ?_⟩
                                have frh83 : Fr [39, 49, 50] hi h83 := (Fr.call frlhn eh83.1 (by decide))
                                have ff39h83 : FF 39 [10, 11, 12, 13, 14, 15, 16, 24, 26, 27] hi h83 := FF.call ffl39hn (eh83.2.1) (by decide)
                                have th83 : TM h83 S P V st m cE := TM.fr thn eh83.1 eh83.2.1 (by decide) (by decide)
                                have dw := eh83.2.2.1
                                have dc := eh83.2.2.2.1
                                have d24 := eh83.2.2.2.2.1
                                have d26 := eh83.2.2.2.2.2
                                rw [apC_o (Or.inr ho)] at dc
                                have w27 : h83 39 27 = hn 39 27 := (by rw [(eh83.2.1 27 (by decide) : h83 39 27 = hn 39 27)])
                                have w24 : h83 39 24 = hn 39 24 + 1 := (by omega)
                                have w26 : h83 39 26 = hn 39 26 - 1 := (by omega)
                                have w15 : h83 39 15 = hn 39 15 := (by rw [(eh83.2.1 15 (by decide) : h83 39 15 = hn 39 15)])
                                have w28 : h83 39 28 = hn 39 28 := (by rw [(eh83.2.1 28 (by decide) : h83 39 28 = hn 39 28)])
                                refine z_goto (pc := 130) (tgt := 104) dX8_condition_130 (by decide) ?_
                                exact ih104 h83 (⟨W7, bin o a b :: G7, qs_bin ho qn th83 dw dc w27 w24 w26 w15 w28, n7, rn.trans (r_binX ho (by first | exact Or.inl (by omega) | exact Or.inr (Or.inl (by omega))))⟩) (frh83) (ff39h83) (by omega)
                      exact J104 _ h15 (⟨WE, GE, qe, ne, re⟩) (frh15) (ff39h15) (Nat.lt_succ_self _)
                · have eph12 := eh12.2.2
                  replace eh12 := And.intro eh12.1 (And.intro eh12.2.1 trivial)
                  replace eph12 := eph12.resolve_left (fun q => absurd q.1 (by clear eph12; omega))
                  obtain ⟨-, pA, gsA, xA⟩ := eph12
                  have rF := rj.trans (r_cmpF (by omega) gsA)
                  refine z_iconst (pc := 56) (v := 0) dX8_condition_56 rfl ?_
                  refine z_zret (pc := 57) rfl (by decide) dX8_condition_57 ?_
                  exact hQ 0 h12 ⟨frh12, ff39h12, by first | exact Or.inr ⟨rfl, _, _, rF, xo⟩ | exact Or.inr ⟨rfl, _, _, rF, xA⟩ | exact Or.inr ⟨by omega, _, _, rF, xh12⟩ | exact Or.inl ⟨rfl, g, rq.trans (r_end (by omega)), qq.2.2.1, qq.2.2.2.2.2.2.1 g List.mem_cons_self, by omega, o15hq⟩⟩
              · refine z_aload_n (pc := 40) (x := 40) dX8_condition_40 rfl 1 rfl ?_
                refine z_callV (pc := 41) (kc := kX8_opens) (n := 0) (pl := 39) (ci := 7) (C := RX8) (As := []) (stk := []) ct_X8_opens (gdV rfl rfl (iw36 _ (List.mem_of_getElem? (i := 9) rfl)) (iw36 _ (List.mem_of_getElem? (i := 10) rfl)) (iw36 _ (List.mem_of_getElem? (i := 11) rfl)) (iw1 _ (List.mem_of_getElem? (i := 5) rfl)) (iw36 _ (List.mem_of_getElem? (i := 12) rfl))) rfl ⟨rfl, rfl⟩ (by decide +kernel) ⟨by decide, by decide⟩ (by decide) rfl rfl dX8_condition_41 rfl rfl (Nat.le_of_ble_eq_true rfl) ?_
                refine ⟨S, P, V, st, m, c2, (hi 39 28), W2, G2, rfl, ⟨thj, qj, by omega⟩, fun v84 h85 eh85 => ?_⟩
                have frh85 : Fr [39, 49, 50] hi h85 := (Fr.call frlhj eh85.1 (by decide))
                have ff39h85 : FF 39 [10, 11, 12, 13, 14, 15, 16, 24, 26, 27] hi h85 := FF.call ffl39hj (eh85.2.1) (by decide)
                refine z_if_ne (pc := 44) (tgt := 21) dX8_condition_44 (by decide) ⟨by omega, by omega⟩ (fun c86 => ?_) (fun c86 => ?_)
                · have eph85 := eh85.2.2
                  replace eh85 := And.intro eh85.1 (And.intro eh85.2.1 trivial)
                  replace eph85 := eph85.resolve_right (fun q => absurd q.1 (by clear eph85; omega))
                  obtain ⟨-, o5, qo⟩ := eph85
                  have th85 := qo.1
                  exact ih21 h85 (⟨c2 + 1, _, G2, qo, rj.trans (r_push (by omega) o5 (by omega)), by omega⟩) (frh85) (ff39h85) (by have := TM.adv thj th85 (by omega); omega)
                · have eph85 := eh85.2.2
                  replace eh85 := And.intro eh85.1 (And.intro eh85.2.1 trivial)
                  replace eph85 := eph85.resolve_left (fun q => absurd q.1 (by clear eph85; omega))
                  obtain ⟨-, o5, xo⟩ := eph85
                  have rF := rj.trans (r_deep (by omega) o5)
                  refine z_iconst (pc := 47) (v := 0) dX8_condition_47 rfl ?_
                  refine z_zret (pc := 48) rfl (by decide) dX8_condition_48 ?_
                  exact hQ 0 h85 ⟨frh85, ff39h85, by first | exact Or.inr ⟨rfl, _, _, rF, xo⟩ | exact Or.inr ⟨rfl, _, _, rF, xA⟩ | exact Or.inr ⟨by omega, _, _, rF, xh85⟩ | exact Or.inl ⟨rfl, g, rq.trans (r_end (by omega)), qq.2.2.1, qq.2.2.2.2.2.2.1 g List.mem_cons_self, by omega, o15hq⟩⟩
        exact J21 _ hk (⟨c1, W1, G1, qk, rk, Nat.le_refl c1⟩) (frlhk) (ffl39hk) (Nat.lt_succ_self _)
      · have thk := qk.1
        have bk := qk.bds
        have o28hk := qk.2.2.2.2.2.2.2.2.2.1
        have o15hk := qk.2.2.2.2.2.1
        refine z_iload_n (pc := 17) dX8_condition_17 rfl 0 rfl ?_
        refine z_if_eq (pc := 18) (tgt := 170) dX8_condition_18 (by decide) ⟨by decide, by decide⟩ (fun _ => ?_) (fun q => absurd q (by decide))
        refine z_aload_n (pc := 170) (x := 40) dX8_condition_170 rfl 1 rfl ?_
        refine z_getI (pc := 171) (pl := 39) (f := 12) (ci := 7) (C := RX8) (T := TX8) (N := 33) hu_X8 (by decide) rfl rfl (by decide) rfl (List.mem_cons_of_mem _ (iw27 _ (List.mem_of_getElem? (i := 2) rfl))) rfl (by decide) dX8_condition_171 (fun v87 ev87 rv87 => ?_)
        have nv87 := thk.num
        refine z_if_ne (pc := 174) (tgt := 184) dX8_condition_174 (by decide) ⟨by omega, by omega⟩ (fun c88 => ?_) (fun c88 => ?_)
        · have zt := thk.num
          have rF := rk.trans (r_badM qk nk z27 z28 (by rintro (q | q); exact z10 q; exact absurd q.1 (by omega)))
          refine z_aload_n (pc := 184) (x := 40) dX8_condition_184 rfl 1 rfl ?_
          refine z_iconst (pc := 185) (v := 1) dX8_condition_185 rfl ?_
          refine z_callV (pc := 186) (kc := kX8_bad) (n := 1) (pl := 39) (ci := 7) (C := RX8) (As := [AI 1]) (stk := []) ct_X8_bad2 (gdV rfl rfl (iw29 _ (List.mem_of_getElem? (i := 8) rfl)) (iw29 _ (List.mem_of_getElem? (i := 9) rfl)) (iw29 _ (List.mem_of_getElem? (i := 10) rfl)) (iw1 _ (List.mem_of_getElem? (i := 5) rfl)) (iw29 _ (List.mem_of_getElem? (i := 11) rfl))) rfl ⟨rfl, rfl⟩ (by decide +kernel) ⟨by decide, by decide⟩ (by decide) rfl rfl dX8_condition_186 rfl rfl (Nat.le_of_ble_eq_true rfl) ?_
          refine ⟨_, rfl, by omega, fun v89 h90 eh90 => ?_⟩
          have frh90 : Fr [39, 49, 50] hi h90 := (Fr.call frlhk eh90.1 (by decide))
          have ff39h90 : FF 39 [10, 11, 12, 13, 14, 15, 16, 24, 26, 27] hi h90 := FF.call ffl39hk (eh90.2.1) (by decide)
          have th90 : TM h90 S P V st m c1 := TM.fr thk eh90.1 eh90.2.1 (by decide) (by decide)
          have xh90 := bad_flk thk (by first | assumption | (rw [(rfl : hk 39 15 = hk 39 15)]; assumption)) eh90.2.2.2
          refine z_zret (pc := 189) rfl (by omega) dX8_condition_189 ?_
          exact hQ v89 h90 ⟨frh90, ff39h90, by first | exact Or.inr ⟨rfl, _, _, rF, xo⟩ | exact Or.inr ⟨rfl, _, _, rF, xA⟩ | exact Or.inr ⟨by omega, _, _, rF, xh90⟩ | exact Or.inl ⟨rfl, g, rq.trans (r_end (by omega)), qq.2.2.1, qq.2.2.2.2.2.2.1 g List.mem_cons_self, by omega, o15hq⟩⟩
        · have zt := thk.num
          refine z_aload_n (pc := 177) (x := 40) dX8_condition_177 rfl 1 rfl ?_
          refine z_callV (pc := 178) (kc := kX8_hasRound) (n := 0) (pl := 39) (ci := 7) (C := RX8) (As := []) (stk := []) ct_X8_hasRound (gdV rfl rfl (iw38 _ (List.mem_of_getElem? (i := 11) rfl)) (iw38 _ (List.mem_of_getElem? (i := 12) rfl)) (iw38 _ (List.mem_of_getElem? (i := 13) rfl)) (iw1 _ (List.mem_of_getElem? (i := 5) rfl)) (iw38 _ (List.mem_of_getElem? (i := 14) rfl))) rfl ⟨rfl, rfl⟩ (by decide +kernel) ⟨by decide, by decide⟩ (by decide) rfl rfl dX8_condition_178 rfl rfl (Nat.le_of_ble_eq_true rfl) ?_
          refine ⟨W1, rfl, ⟨qk.2.1, by omega⟩, fun v91 ev91 => ?_⟩
          rcases ev91 with ⟨rfl, hr⟩ | ⟨rfl, hr⟩
          · have rF := rk.trans (r_badM qk nk z27 z28 (by rintro (q | q); exact z10 q; exact absurd hr q.2))
            refine z_if_eq (pc := 181) (tgt := 190) dX8_condition_181 (by decide) ⟨by decide, by decide⟩ (fun q => absurd q (by decide)) (fun _ => ?_)
            refine z_aload_n (pc := 184) (x := 40) dX8_condition_184 rfl 1 rfl ?_
            refine z_iconst (pc := 185) (v := 1) dX8_condition_185 rfl ?_
            refine z_callV (pc := 186) (kc := kX8_bad) (n := 1) (pl := 39) (ci := 7) (C := RX8) (As := [AI 1]) (stk := []) ct_X8_bad2 (gdV rfl rfl (iw29 _ (List.mem_of_getElem? (i := 8) rfl)) (iw29 _ (List.mem_of_getElem? (i := 9) rfl)) (iw29 _ (List.mem_of_getElem? (i := 10) rfl)) (iw1 _ (List.mem_of_getElem? (i := 5) rfl)) (iw29 _ (List.mem_of_getElem? (i := 11) rfl))) rfl ⟨rfl, rfl⟩ (by decide +kernel) ⟨by decide, by decide⟩ (by decide) rfl rfl dX8_condition_186 rfl rfl (Nat.le_of_ble_eq_true rfl) ?_
            refine ⟨_, rfl, by omega, fun v92 h93 eh93 => ?_⟩
            have frh93 : Fr [39, 49, 50] hi h93 := (Fr.call frlhk eh93.1 (by decide))
            have ff39h93 : FF 39 [10, 11, 12, 13, 14, 15, 16, 24, 26, 27] hi h93 := FF.call ffl39hk (eh93.2.1) (by decide)
            have th93 : TM h93 S P V st m c1 := TM.fr thk eh93.1 eh93.2.1 (by decide) (by decide)
            have xh93 := bad_flk thk (by first | assumption | (rw [(rfl : hk 39 15 = hk 39 15)]; assumption)) eh93.2.2.2
            refine z_zret (pc := 189) rfl (by omega) dX8_condition_189 ?_
            exact hQ v92 h93 ⟨frh93, ff39h93, by first | exact Or.inr ⟨rfl, _, _, rF, xo⟩ | exact Or.inr ⟨rfl, _, _, rF, xA⟩ | exact Or.inr ⟨by omega, _, _, rF, xh93⟩ | exact Or.inl ⟨rfl, g, rq.trans (r_end (by omega)), qq.2.2.1, qq.2.2.2.2.2.2.1 g List.mem_cons_self, by omega, o15hq⟩⟩
          · skip
            refine z_if_eq (pc := 181) (tgt := 190) dX8_condition_181 (by decide) ⟨by decide, by decide⟩ (fun _ => ?_) (fun q => absurd q (by decide))
            have J190 : ∀ (N : Nat) (hq : HI), (∃ (W8 : List Int) (G8 : List Ex), QS hq S P V st m (hi 39 28) 1 c1 W8 G8 ∧ topW W8 ≠ 7 ∧ res (hi 39 28) S P V (0, c, [], []) = res (hi 39 28) S P V (1, c1, W8, G8) ∧ 10 ∉ W8) → (Fr [39, 49, 50] hi hq) → (FF 39 [10, 11, 12, 13, 14, 15, 16, 24, 26, 27] hi hq) → ((hq 39 26).toNat) < N → Z kX8_condition Q 190 [(1, AI 0), (0, AR 40)] [] hq := by
              intro N
              induction N with
              | zero => intro hq _ _ _ _; exact absurd (by assumption) (Nat.not_lt_zero _)
              | succ N ih190 =>
                intro hq q1 frlhq ffl39hq hm190
                obtain ⟨W8, G8, qq, nq, rq, mq⟩ := q1
                have thq := qq.1
                have bq := qq.bds
                have o28hq := qq.2.2.2.2.2.2.2.2.2.1
                have o15hq := qq.2.2.2.2.2.1
                have o27q := qq.2.2.2.1
                refine z_aload_n (pc := 190) (x := 40) dX8_condition_190 rfl 1 rfl ?_
                refine z_getI (pc := 191) (pl := 39) (f := 26) (ci := 7) (C := RX8) (T := TX8) (N := 33) hu_X8 (by decide) rfl rfl (by decide) rfl (List.mem_cons_of_mem _ (iw36 _ (List.mem_of_getElem? (i := 3) rfl))) rfl (by decide) dX8_condition_191 (fun v94 ev94 rv94 => ?_)
                refine z_if_le (pc := 194) (tgt := 204) dX8_condition_194 (by decide) ⟨by omega, by omega⟩ (fun c95 => ?_) (fun c95 => ?_)
                · obtain ⟨g, eW, eG⟩ := qq.emp (by omega)
                  subst eW
                  subst eG
                  refine z_iconst (pc := 204) (v := 1) dX8_condition_204 rfl ?_
                  refine z_zret (pc := 205) rfl (by decide) dX8_condition_205 ?_
                  exact hQ 1 hq ⟨frlhq, ffl39hq, by first | exact Or.inr ⟨rfl, _, _, rF, xo⟩ | exact Or.inr ⟨rfl, _, _, rF, xA⟩ | exact Or.inr ⟨by omega, _, _, rF, xhq⟩ | exact Or.inl ⟨rfl, g, rq.trans (r_end (by omega)), qq.2.2.1, qq.2.2.2.2.2.2.1 g List.mem_cons_self, by omega, o15hq⟩⟩
                · obtain ⟨o, W7, b, a, G7, ho, eW, eG, n7⟩ := qq.topB (qq.topE (by omega) nq mq)
                  subst eW
                  subst eG
                  have to : topW (o :: W7) = o := rfl
                  have p26 := qq.2.1.hd.2
                  refine z_aload_n (pc := 197) (x := 40) dX8_condition_197 rfl 1 rfl ?_
                  refine z_callV (pc := 198) (kc := kX8_drops) (n := 0) (pl := 39) (ci := 7) (C := RX8) (As := []) (stk := []) ct_X8_drops (gdV rfl rfl (iw38 _ (List.mem_of_getElem? (i := 3) rfl)) (iw38 _ (List.mem_of_getElem? (i := 4) rfl)) (iw38 _ (List.mem_of_getElem? (i := 5) rfl)) (iw1 _ (List.mem_of_getElem? (i := 5) rfl)) (iw38 _ (List.mem_of_getElem? (i := 6) rfl))) rfl ⟨rfl, rfl⟩ (by decide +kernel) ⟨by decide, by decide⟩ (by decide) rfl rfl dX8_condition_198 rfl rfl (Nat.le_of_ble_eq_true rfl) ?_
                  refine ⟨o, W7, (b :: a :: G7), rfl, ⟨qq.2.1, qq.2.2.1, by omega, qq.okB ho, by omega⟩, fun h96 eh96 => ?_⟩
                  have frh96 : Fr [39, 49, 50] hi h96 := (Fr.call frlhq eh96.1 (by decide))
                  have ff39h96 : FF 39 [10, 11, 12, 13, 14, 15, 16, 24, 26, 27] hi h96 := FF.call ffl39hq (eh96.2.1) (by decide)
                  have th96 : TM h96 S P V st m c1 := TM.fr thq eh96.1 eh96.2.1 (by decide) (by decide)
                  have dw := eh96.2.2.1
                  have dc := eh96.2.2.2.1
                  have d24 := eh96.2.2.2.2.1
                  have d26 := eh96.2.2.2.2.2
                  rw [apC_o (Or.inr ho)] at dc
                  have w27 : h96 39 27 = hq 39 27 := (by rw [(eh96.2.1 27 (by decide) : h96 39 27 = hq 39 27)])
                  have w24 : h96 39 24 = hq 39 24 + 1 := (by omega)
                  have w26 : h96 39 26 = hq 39 26 - 1 := (by omega)
                  have w15 : h96 39 15 = hq 39 15 := (by rw [(eh96.2.1 15 (by decide) : h96 39 15 = hq 39 15)])
                  have w28 : h96 39 28 = hq 39 28 := (by rw [(eh96.2.1 28 (by decide) : h96 39 28 = hq 39 28)])
                  refine z_goto (pc := 201) (tgt := 190) dX8_condition_201 (by decide) ?_
                  exact ih190 h96 (⟨W7, bin o a b :: G7, qs_bin ho qq th96 dw dc w27 w24 w26 w15 w28, n7, rq.trans (r_binX ho (Or.inr (Or.inr (Or.inr ⟨by omega, fun z => mq ((mem_bin ho).mpr z)⟩)))), fun z => mq ((mem_bin ho).mpr z)⟩) (frh96) (ff39h96) (by omega)
            exact J190 _ hk (⟨W1, G1, qk, nk, rk, hr⟩) (frlhk) (ffl39hk) (Nat.lt_succ_self _)
  exact J17 _ 1 h3 (Or.inl ⟨rfl, c, [], [], qs_init th3 (by rw [(by rw [eh3]; rfl : h3 39 24 = 0)] : h3 39 24 = 0) (by rw [(by rw [eh3]; rfl : h3 39 26 = h2 39 26), (by rw [eh2]; rfl : h2 39 26 = h1 39 26), (by rw [eh1]; rfl : h1 39 26 = 0)] : h3 39 26 = 0) (by rw [(by rw [eh3]; rfl : h3 39 27 = h2 39 27), (by rw [eh2]; rfl : h2 39 27 = 0)] : h3 39 27 = 0) ((show h3 39 15 = hi 39 15 from (by rw [(by rw [eh3]; rfl : h3 39 15 = h2 39 15), (by rw [eh2]; rfl : h2 39 15 = h1 39 15), (by rw [eh1]; rfl : h1 39 15 = hi 39 15)] : h3 39 15 = hi 39 15)).trans f15) (by rw [(by rw [eh3]; rfl : h3 39 28 = h2 39 28), (by rw [eh2]; rfl : h2 39 28 = h1 39 28), (by rw [eh1]; rfl : h1 39 28 = hi 39 28)] : h3 39 28 = hi 39 28) ho, rfl⟩) (frh3) (ff39h3) (Nat.lt_succ_self _)
