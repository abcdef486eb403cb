def AskC (hi h2 : HI) (n v : Int) : Prop := (v = -1 ∧ ¬ (0 ≤ n ∧ n ≤ hi 29 1) ∧ h2 = hi) ∨ ((0 ≤ n ∧ n ≤ hi 29 1) ∧ h2 29 1 = 0 ∧ FBx h2 ∧ ∃ (S P V st : Nat → Int) (m : Nat), TC (hi 30) n S P V st m ∧ ((∃ k p, qF S P V = .inl (k, p) ∧ v = -2 - (2 * p + k)) ∨ (∃ g, qF S P V = .inr g ∧ QG (ohF S) g ∧ v = ansF S g (hi 2) (hi 2 1))))
theorem ans_0 {S : Nat → Int} {g : Ex} {f : Nat → Int} {n v : Int} (h : S 0 = 23) (e : v = sm (fun z => if g (lifeF f z) = 1 then (if (0 : Int) = 1 then wO f z else 1) else 0) n.toNat) : v = ansF S g f n := by unfold ansF; rw [if_pos h]; exact e
theorem ans_1 {S : Nat → Int} {g : Ex} {f : Nat → Int} {n v : Int} (h : S 0 = 34) (e : v = sm (fun z => if g (lifeF f z) = 1 then (if (1 : Int) = 1 then wO f z else 1) else 0) n.toNat) : v = ansF S g f n := by unfold ansF; rw [if_neg (by omega), if_pos h]; exact e
theorem ans_2 {S : Nat → Int} {g : Ex} {f : Nat → Int} {n v : Int} (h : S 0 = 24) (e : v = sm (fun h => if g (hourF f n h) = 1 then 1 else 0) 64) : v = ansF S g f n := by unfold ansF; rw [if_neg (by omega), if_neg (by omega), if_pos h]; exact e
theorem ans_3 {S : Nat → Int} {g : Ex} {f : Nat → Int} {n v : Int} (h : S 0 = 25) (e : v = (rwL (fun h => g (hourF f n h)) 64).2) : v = ansF S g f n := by unfold ansF; rw [if_neg (by omega), if_neg (by omega), if_neg (by omega)]; exact e

theorem ct_X6_faultKind_TF2 : Ct kX6_faultKind yX6_faultKind (fun a hi Q => ∃ S : Nat → Int, ∃ P : Nat → Int, ∃ V : Nat → Int, ∃ m : Nat, ∃ k : Int, ∃ p : Int, a = [AR 30] ∧ (TF hi S P V m k p) ∧ ∀ v : Int, (v = k ∧ inR v) → Q (AI v) hi) := Ct.mono ct_X6_faultKind (fun a hi Q ⟨S, P, V, m, k, p, ha, h, hq⟩ => ⟨ha, trivial, fun v q => hq v ⟨q.1.trans h.2.2.1, q.2⟩⟩)

theorem ct_X6_faultKind_TE : Ct kX6_faultKind yX6_faultKind (fun a hi Q => ∃ S : Nat → Int, ∃ P : Nat → Int, ∃ V : Nat → Int, ∃ m : Nat, a = [AR 30] ∧ (TE hi S P V m) ∧ ∀ v : Int, (v = 0) → Q (AI v) hi) := Ct.mono ct_X6_faultKind (fun a hi Q ⟨S, P, V, m, ha, h, hq⟩ => ⟨ha, trivial, fun v q => hq v (q.1.trans h.2)⟩)

abbrev kX4_what : Kd := (cX4_what, .code yX4_what cX4_what 1 (some (.object "LateSet$Sign")) :: wsL_law0, rmL 1, RX4, (some (.object "LateSet$Sign")), 1)
theorem ct_X4_what : Ct kX4_what yX4_what (fun a hi Q => a = [AR 36] ∧ (True) ∧ ∀ v : Int, (v = hi 35 2) → Q (AR (ec v)) hi) := by
  refine Ct.of (ws' := _) (by decide +kernel) rfl rfl ?_
  intro a hi Q hT
  obtain ⟨rfl, hpre, hQ⟩ := hT
  refine ⟨Nat.le_of_ble_eq_true rfl, ?_⟩
  show Z kX4_what Q 0 [(0, AR 36)] [] hi
  refine z_aload_n (pc := 0) (x := 36) dX4_what_0 rfl 0 rfl ?_
  refine z_getE (pc := 1) (pl := 35) (f := 2) (ci := 4) (C := RX4) (T := TX4) (N := 5) hu_X4 (by decide) rfl rfl (by decide) rfl (List.mem_cons_of_mem _ (iw4 _ (List.mem_of_getElem? (i := 16) rfl))) rfl dX4_what_1 (fun v1 ev1 => ?_)
  refine z_aret (pc := 4) rfl dX4_what_4 ?_
  exact hQ v1 (by assumption)

abbrev kX7_ask : Kd := (cX7_ask, .code yX7_ask cX7_ask 3 (some .int) :: wsL_law0, rmL 18, RX7, (some .int), 3)
theorem ct_X7_ask : Ct kX7_ask yX7_ask (fun a hi Q => ∃ n : Int, a = [AR 1, AI n] ∧ (CX hi ∧ (0 ≤ hi 29 1 ∧ hi 29 1 ≤ 600) ∧ FBx hi ∧ inR n) ∧ ∀ (v : Int) (h2 : HI), (Fr [29, 31, 32, 33, 35, 36] hi h2 ∧ (AskC hi h2 n v)) → Q (AI v) h2) := by
  refine Ct.of (ws' := _) (by decide +kernel) rfl rfl ?_
  intro a hi Q hT
  obtain ⟨n, rfl, hpre, hQ⟩ := hT
  refine ⟨Nat.le_of_ble_eq_true rfl, ?_⟩
  show Z kX7_ask Q 0 [(0, AR 1), (1, AI n)] [] hi
  have l29 := hpre.2.1
  have hfb := hpre.2.2.1
  have hri := hpre.1.1.1
  refine z_iload_n (pc := 0) dX7_ask_0 rfl 1 rfl ?_
  refine z_if_lt (pc := 1) (tgt := 15) dX7_ask_1 (by decide) ⟨by omega, by omega⟩ (fun c1 => ?_) (fun c1 => ?_)
  · refine z_iconst (pc := 15) (v := (-1)) dX7_ask_15 rfl ?_
    refine z_iret (pc := 16) rfl dX7_ask_16 ?_
    exact hQ (-1) hi ⟨(Fr.rf), by first | exact Or.inl ⟨rfl, by omega, rfl⟩ | exact Or.inr ⟨by omega, by rw [(rfl : hi 29 1 = hi 29 1)]; exact l1, fun j hj => by rw [(rfl : hi 36 = hi 36)]; exact hfb j hj, S, P, V, st, m, tc0, Or.inl ⟨_, _, zx, by omega⟩⟩ | exact Or.inr ⟨by omega, l1b, afb, S, P, V, st, m, tc0, Or.inr ⟨_, zx, qgx, by (try rw [if_pos rfl] at av); (try rw [if_neg (by decide)] at av); first | exact ans_0 (by omega) av | exact ans_1 (by omega) av | exact ans_2 (by omega) av | exact ans_3 (by omega) av⟩⟩ | (exfalso; omega)⟩
  · refine z_iload_n (pc := 4) dX7_ask_4 rfl 1 rfl ?_
    refine z_aload_n (pc := 5) (x := 1) dX7_ask_5 rfl 0 rfl ?_
    refine z_getR (pc := 6) (pl := 0) (f := 4) (ci := 6) (C := RX7) (T := TX7) (N := 13) hu_X7 (by decide) rfl rfl (by decide) rfl (List.mem_cons_of_mem _ (iw2 _ (List.mem_of_getElem? (i := 5) rfl))) rfl dX7_ask_6 ?_
    refine z_callV (pc := 9) (kc := kX6_length) (n := 0) (pl := 29) (ci := 5) (C := RX6) (As := []) (stk := [AI n]) ct_X6_length (gdV rfl rfl (iw17 _ (List.mem_of_getElem? (i := 4) rfl)) (iw17 _ (List.mem_of_getElem? (i := 5) rfl)) (iw17 _ (List.mem_of_getElem? (i := 6) rfl)) (iw2 _ (List.mem_of_getElem? (i := 4) rfl)) (iw17 _ (List.mem_of_getElem? (i := 7) rfl))) rfl ⟨rfl, rfl⟩ (by decide +kernel) ⟨by decide, by decide⟩ (by decide) rfl rfl dX7_ask_9 rfl rfl (Nat.le_of_ble_eq_true rfl) ?_
    refine ⟨rfl, trivial, fun v2 ev2 => ?_⟩
    refine z_icmp_le (pc := 12) (tgt := 17) dX7_ask_12 (by decide) ⟨by omega, by omega⟩ ⟨by omega, by omega⟩ (fun c3 => ?_) (fun c3 => ?_)
    · refine z_aload_n (pc := 17) (x := 1) dX7_ask_17 rfl 0 rfl ?_
      refine z_getR (pc := 18) (pl := 0) (f := 4) (ci := 6) (C := RX7) (T := TX7) (N := 13) hu_X7 (by decide) rfl rfl (by decide) rfl (List.mem_cons_of_mem _ (iw2 _ (List.mem_of_getElem? (i := 5) rfl))) rfl dX7_ask_18 ?_
      refine z_iload_n (pc := 21) dX7_ask_21 rfl 1 rfl ?_
      refine z_callV (pc := 22) (kc := kX6_cut) (n := 1) (pl := 29) (ci := 5) (C := RX6) (As := [AI n]) (stk := []) ct_X6_cut (gdV rfl rfl (iw18 _ (List.mem_of_getElem? (i := 6) rfl)) (iw18 _ (List.mem_of_getElem? (i := 7) rfl)) (iw18 _ (List.mem_of_getElem? (i := 8) rfl)) (iw2 _ (List.mem_of_getElem? (i := 4) rfl)) (iw18 _ (List.mem_of_getElem? (i := 9) rfl))) rfl ⟨rfl, rfl⟩ (by decide +kernel) ⟨by decide, by decide⟩ (by decide) rfl rfl dX7_ask_22 rfl rfl (Nat.le_of_ble_eq_true rfl) ?_
      refine ⟨_, rfl, ⟨hpre.2.1, by omega, by omega⟩, fun h4 eh4 => ?_⟩
      have frh4 : Fr [29, 31, 32, 33, 35, 36] hi h4 := (Fr.call (Fr.rf) eh4.1 (by decide))
      obtain ⟨st, m, em, tc0⟩ := TC.of eh4.2.1 (by omega)
      obtain ⟨S, hS⟩ : ∃ S, S = h4 31 := ⟨_, rfl⟩
      obtain ⟨P, hP⟩ : ∃ P, P = h4 32 := ⟨_, rfl⟩
      obtain ⟨V, hV0⟩ : ∃ V, V = h4 33 := ⟨_, rfl⟩
      rw [← hS, ← hP, ← hV0] at tc0
      have ts0 : TS h4 S P V m 0 := tc_ts tc0 em hS.symm hP.symm hV0.symm eh4.2.2.2.1 eh4.2.2.2.2.1
      have hV : (∀ i : Nat, i ≤ m → S i = 2 → 0 ≤ V i ∧ V i ≤ 999) := fun i hi0 h2 => tc0.v2 hi0 h2
      have l1 := eh4.2.2.1
      have eq22 : EqC hi h4 := EqC.of eh4.1 (by decide)
      refine z_aload_n (pc := 25) (x := 1) dX7_ask_25 rfl 0 rfl ?_
      refine z_getR (pc := 26) (pl := 0) (f := 6) (ci := 6) (C := RX7) (T := TX7) (N := 13) hu_X7 (by decide) rfl rfl (by decide) rfl (List.mem_cons_of_mem _ (iw2 _ (List.mem_of_getElem? (i := 13) rfl))) rfl dX7_ask_26 ?_
      refine z_callV (pc := 29) (kc := kX4_read) (n := 0) (pl := 35) (ci := 4) (C := RX4) (As := []) (stk := []) ct_X4_read_TS (gdV rfl rfl (iw31 _ (List.mem_of_getElem? (i := 14) rfl)) (iw31 _ (List.mem_of_getElem? (i := 15) rfl)) (iw31 _ (List.mem_of_getElem? (i := 16) rfl)) (iw2 _ (List.mem_of_getElem? (i := 12) rfl)) (iw31 _ (List.mem_of_getElem? (i := 17) rfl))) rfl ⟨rfl, rfl⟩ (by decide +kernel) ⟨by decide, by decide⟩ (by decide) rfl rfl dX7_ask_29 rfl rfl (Nat.le_of_ble_eq_true rfl) ?_
      refine ⟨S, P, V, m, 0, rfl, ⟨ts0, by rw [(by rw [(eh4.1 36 (by decide) : h4 36 = hi 36)] : h4 36 = hi 36)]; exact hfb, hV, rfl⟩, fun h5 eh5 => ?_⟩
      have frh5 : Fr [29, 31, 32, 33, 35, 36] hi h5 := (Fr.call frh4 eh5.1 (by decide))
      have eph5 := eh5.2.2.2
      replace eh5 := And.intro eh5.1 (And.intro eh5.2.1 (And.intro eh5.2.2.1 trivial))
      rcases eph5 with ⟨kh5, ph5, th5, zh5⟩ | ⟨gh5, th5, zh5, qgh5, s0h5, a2h5, a3h5, a4h5⟩
      · have k0 := th5.2.1
        refine z_aload_n (pc := 32) (x := 1) dX7_ask_32 rfl 0 rfl ?_
        refine z_getR (pc := 33) (pl := 0) (f := 4) (ci := 6) (C := RX7) (T := TX7) (N := 13) hu_X7 (by decide) rfl rfl (by decide) rfl (List.mem_cons_of_mem _ (iw2 _ (List.mem_of_getElem? (i := 5) rfl))) rfl dX7_ask_33 ?_
        refine z_callV (pc := 36) (kc := kX6_faultKind) (n := 0) (pl := 29) (ci := 5) (C := RX6) (As := []) (stk := []) ct_X6_faultKind_TF2 (gdV rfl rfl (iw22 _ (List.mem_of_getElem? (i := 5) rfl)) (iw22 _ (List.mem_of_getElem? (i := 6) rfl)) (iw22 _ (List.mem_of_getElem? (i := 7) rfl)) (iw2 _ (List.mem_of_getElem? (i := 4) rfl)) (iw22 _ (List.mem_of_getElem? (i := 8) rfl))) rfl ⟨rfl, rfl⟩ (by decide +kernel) ⟨by decide, by decide⟩ (by decide) rfl rfl dX7_ask_36 rfl rfl (Nat.le_of_ble_eq_true rfl) ?_
        refine ⟨S, P, V, m, kh5, ph5, rfl, th5, fun v6 ev6 => ?_⟩
        obtain ⟨kqv6, krv6⟩ := ev6
        have knv6 : v6 ≠ 0 := by omega
        refine z_if_eq (pc := 39) (tgt := 63) dX7_ask_39 (by decide) ⟨by omega, by omega⟩ (fun q => absurd q knv6) (fun _ => ?_)
        refine z_bipush (pc := 42) (v := (-2)) dX7_ask_42 (by decide +kernel) ?_
        refine z_iconst (pc := 44) (v := 2) dX7_ask_44 rfl ?_
        refine z_aload_n (pc := 45) (x := 1) dX7_ask_45 rfl 0 rfl ?_
        refine z_getR (pc := 46) (pl := 0) (f := 4) (ci := 6) (C := RX7) (T := TX7) (N := 13) hu_X7 (by decide) rfl rfl (by decide) rfl (List.mem_cons_of_mem _ (iw2 _ (List.mem_of_getElem? (i := 5) rfl))) rfl dX7_ask_46 ?_
        refine z_callV (pc := 49) (kc := kX6_faultPlace) (n := 0) (pl := 29) (ci := 5) (C := RX6) (As := []) (stk := [AI 2, AI (-2)]) ct_X6_faultPlace_TF (gdV rfl rfl (iw24 _ (List.mem_of_getElem? (i := 17) rfl)) (iw24 _ (List.mem_of_getElem? (i := 18) rfl)) (iw24 _ (List.mem_of_getElem? (i := 19) rfl)) (iw2 _ (List.mem_of_getElem? (i := 4) rfl)) (iw24 _ (List.mem_of_getElem? (i := 20) rfl))) rfl ⟨rfl, rfl⟩ (by decide +kernel) ⟨by decide, by decide⟩ (by decide) rfl rfl dX7_ask_49 rfl rfl (Nat.le_of_ble_eq_true rfl) ?_
        refine ⟨S, P, V, m, kh5, ph5, rfl, th5, fun v7 ev7 => ?_⟩
        refine z_imul (pc := 52) dX7_ask_52 (fun v8 ev8 => ?_)
        refine z_aload_n (pc := 53) (x := 1) dX7_ask_53 rfl 0 rfl ?_
        refine z_getR (pc := 54) (pl := 0) (f := 4) (ci := 6) (C := RX7) (T := TX7) (N := 13) hu_X7 (by decide) rfl rfl (by decide) rfl (List.mem_cons_of_mem _ (iw2 _ (List.mem_of_getElem? (i := 5) rfl))) rfl dX7_ask_54 ?_
        refine z_callV (pc := 57) (kc := kX6_faultKind) (n := 0) (pl := 29) (ci := 5) (C := RX6) (As := []) (stk := [AI v8, AI (-2)]) ct_X6_faultKind_TF2 (gdV rfl rfl (iw22 _ (List.mem_of_getElem? (i := 5) rfl)) (iw22 _ (List.mem_of_getElem? (i := 6) rfl)) (iw22 _ (List.mem_of_getElem? (i := 7) rfl)) (iw2 _ (List.mem_of_getElem? (i := 4) rfl)) (iw22 _ (List.mem_of_getElem? (i := 8) rfl))) rfl ⟨rfl, rfl⟩ (by decide +kernel) ⟨by decide, by decide⟩ (by decide) rfl rfl dX7_ask_57 rfl rfl (Nat.le_of_ble_eq_true rfl) ?_
        refine ⟨S, P, V, m, kh5, ph5, rfl, th5, fun v9 ev9 => ?_⟩
        obtain ⟨kqv9, krv9⟩ := ev9
        have knv9 : v9 ≠ 0 := by omega
        refine z_iadd (pc := 60) dX7_ask_60 (fun v10 ev10 => ?_)
        refine z_isub (pc := 61) dX7_ask_61 (fun v11 ev11 => ?_)
        refine z_iret (pc := 62) rfl dX7_ask_62 ?_
        exact hQ v11 h5 ⟨frh5, by first | exact Or.inl ⟨rfl, by omega, rfl⟩ | exact Or.inr ⟨by omega, by rw [(by rw [(eh5.2.1 1 (by decide) : h5 29 1 = h4 29 1)] : h5 29 1 = h4 29 1)]; exact l1, fun j hj => by rw [(by rw [(eh5.1 36 (by decide) : h5 36 = h4 36), (eh4.1 36 (by decide) : h4 36 = hi 36)] : h5 36 = hi 36)]; exact hfb j hj, S, P, V, st, m, tc0, Or.inl ⟨_, _, zh5, by omega⟩⟩ | exact Or.inr ⟨by omega, l1b, afb, S, P, V, st, m, tc0, Or.inr ⟨_, zh5, qgh5, by (try rw [if_pos rfl] at av); (try rw [if_neg (by decide)] at av); first | exact ans_0 (by omega) av | exact ans_1 (by omega) av | exact ans_2 (by omega) av | exact ans_3 (by omega) av⟩⟩ | (exfalso; omega)⟩
      · obtain ⟨hG, m2⟩ := qF_inr zh5 th5.1.2.2.2.2.2.2
        refine z_aload_n (pc := 32) (x := 1) dX7_ask_32 rfl 0 rfl ?_
        refine z_getR (pc := 33) (pl := 0) (f := 4) (ci := 6) (C := RX7) (T := TX7) (N := 13) hu_X7 (by decide) rfl rfl (by decide) rfl (List.mem_cons_of_mem _ (iw2 _ (List.mem_of_getElem? (i := 5) rfl))) rfl dX7_ask_33 ?_
        refine z_callV (pc := 36) (kc := kX6_faultKind) (n := 0) (pl := 29) (ci := 5) (C := RX6) (As := []) (stk := []) ct_X6_faultKind_TE (gdV rfl rfl (iw22 _ (List.mem_of_getElem? (i := 5) rfl)) (iw22 _ (List.mem_of_getElem? (i := 6) rfl)) (iw22 _ (List.mem_of_getElem? (i := 7) rfl)) (iw2 _ (List.mem_of_getElem? (i := 4) rfl)) (iw22 _ (List.mem_of_getElem? (i := 8) rfl))) rfl ⟨rfl, rfl⟩ (by decide +kernel) ⟨by decide, by decide⟩ (by decide) rfl rfl dX7_ask_36 rfl rfl (Nat.le_of_ble_eq_true rfl) ?_
        refine ⟨S, P, V, m, rfl, th5, fun v12 ev12 => ?_⟩
        obtain rfl := ev12
        refine z_if_eq (pc := 39) (tgt := 63) dX7_ask_39 (by decide) ⟨by decide, by decide⟩ (fun _ => ?_) (fun q => absurd q (by decide))
        refine z_aload_n (pc := 63) (x := 1) dX7_ask_63 rfl 0 rfl ?_
        refine z_getR (pc := 64) (pl := 0) (f := 6) (ci := 6) (C := RX7) (T := TX7) (N := 13) hu_X7 (by decide) rfl rfl (by decide) rfl (List.mem_cons_of_mem _ (iw2 _ (List.mem_of_getElem? (i := 13) rfl))) rfl dX7_ask_64 ?_
        refine z_callV (pc := 67) (kc := kX4_what) (n := 0) (pl := 35) (ci := 4) (C := RX4) (As := []) (stk := []) ct_X4_what (gdV rfl rfl (iw33 _ (List.mem_of_getElem? (i := 17) rfl)) (iw33 _ (List.mem_of_getElem? (i := 18) rfl)) (iw33 _ (List.mem_of_getElem? (i := 19) rfl)) (iw2 _ (List.mem_of_getElem? (i := 12) rfl)) (iw33 _ (List.mem_of_getElem? (i := 20) rfl))) rfl ⟨rfl, rfl⟩ (by decide +kernel) ⟨by decide, by decide⟩ (by decide) rfl rfl dX7_ask_67 rfl rfl (Nat.le_of_ble_eq_true rfl) ?_
        refine ⟨rfl, trivial, fun v13 ev13 => ?_⟩
        rw [a2h5] at ev13
        have sr := th5.1.2.2.2.2.2.1 0 (Nat.zero_le _)
        refine z_astore_n (pc := 70) (lv' := [(2, AR (ec v13)), (0, AR 1), (1, AI n)]) dX7_ask_70 rfl (by decide) (by unfold ec; split <;> omega) rfl ?_
        refine z_aload_n (pc := 71) (x := (ec v13)) dX7_ask_71 rfl 0 rfl ?_
        refine z_getstE (pc := 72) (i := 24) (z := 24) (by decide) rfl (List.mem_cons_of_mem _ (iw31 _ (List.mem_of_getElem? (i := 12) rfl))) dX7_ask_72 ?_
        refine z_acmp_eq (pc := 75) (tgt := 85) dX7_ask_75 (by decide) (by omega) (by omega) (fun c14 => ?_) (fun c14 => ?_)
        · refine z_aload_n (pc := 85) (x := 1) dX7_ask_85 rfl 1 rfl ?_
          refine z_aload_n (pc := 86) (x := (ec v13)) dX7_ask_86 rfl 0 rfl ?_
          refine z_getstE (pc := 87) (i := 25) (z := 25) (by decide) rfl (List.mem_cons_of_mem _ (iw31 _ (List.mem_of_getElem? (i := 13) rfl))) dX7_ask_87 ?_
          refine z_acmp_ne (pc := 90) (tgt := 97) dX7_ask_90 (by decide) (by omega) (by omega) (fun c15 => ?_) (fun c15 => ?_)
          · refine z_iconst (pc := 97) (v := 0) dX7_ask_97 rfl ?_
            refine z_callV (pc := 98) (kc := kX7_hoursAsked) (n := 1) (pl := 0) (ci := 6) (C := RX7) (As := [AI 0]) (stk := []) ct_X7_hoursAsked (gdV rfl rfl (iw33 _ (List.mem_of_getElem? (i := 21) rfl)) (iw33 _ (List.mem_of_getElem? (i := 22) rfl)) (iw33 _ (List.mem_of_getElem? (i := 23) rfl)) (iw1 _ (List.mem_of_getElem? (i := 2) rfl)) (iw34 _ (List.mem_of_getElem? (i := 0) rfl))) rfl ⟨rfl, rfl⟩ (by decide +kernel) ⟨by decide, by decide⟩ (by decide) rfl rfl dX7_ask_98 rfl rfl (Nat.le_of_ble_eq_true rfl) ?_
            refine ⟨_, S, P, V, m, gh5, rfl, ⟨by rw [(by rw [(eh5.1 2 (by decide) : h5 2 = h4 2), (eh4.1 2 (by decide) : h4 2 = hi 2)] : h5 2 = hi 2)]; exact hri, th5, hV, ⟨by rw [a3h5, ohF_1 (by omega)], a4h5, m2⟩, fun j hj => by rw [(by rw [(eh5.1 36 (by decide) : h5 36 = h4 36), (eh4.1 36 (by decide) : h4 36 = hi 36)] : h5 36 = hi 36)]; exact hfb j hj, by rw [ohF_1 (by omega)] at hG; exact hG, by rw [ohF_1 (by omega)] at qgh5; exact qgh5, by decide⟩, fun v16 h17 eh17 => ?_⟩
            have frh17 : Fr [29, 31, 32, 33, 35, 36] hi h17 := (Fr.call frh5 eh17.1 (by decide))
            rw [(eh5.1 2 (by decide) : h5 2 = h4 2), (eh4.1 2 (by decide) : h4 2 = hi 2)] at eh17
            have av := eh17.2.2.1
            have afb := eh17.2.2.2
            have l1b : h17 29 1 = 0 := by rw [(by rw [(eh17.2.1 1 (by decide) : h17 29 1 = h5 29 1), (eh5.2.1 1 (by decide) : h5 29 1 = h4 29 1)] : h17 29 1 = h4 29 1)]; exact l1
            refine z_iret (pc := 101) rfl dX7_ask_101 ?_
            exact hQ v16 h17 ⟨frh17, by first | exact Or.inl ⟨rfl, by omega, rfl⟩ | exact Or.inr ⟨by omega, by rw [(by rw [(eh17.2.1 1 (by decide) : h17 29 1 = h5 29 1), (eh5.2.1 1 (by decide) : h5 29 1 = h4 29 1)] : h17 29 1 = h4 29 1)]; exact l1, fun j hj => by rw [(rfl : h17 36 = h17 36)]; exact hfb j hj, S, P, V, st, m, tc0, Or.inl ⟨_, _, zh5, by omega⟩⟩ | exact Or.inr ⟨by omega, l1b, afb, S, P, V, st, m, tc0, Or.inr ⟨_, zh5, qgh5, by (try rw [if_pos rfl] at av); (try rw [if_neg (by decide)] at av); first | exact ans_0 (by omega) av | exact ans_1 (by omega) av | exact ans_2 (by omega) av | exact ans_3 (by omega) av⟩⟩ | (exfalso; omega)⟩
          · refine z_iconst (pc := 93) (v := 1) dX7_ask_93 rfl ?_
            refine z_goto (pc := 94) (tgt := 98) dX7_ask_94 (by decide) ?_
            refine z_callV (pc := 98) (kc := kX7_hoursAsked) (n := 1) (pl := 0) (ci := 6) (C := RX7) (As := [AI 1]) (stk := []) ct_X7_hoursAsked (gdV rfl rfl (iw33 _ (List.mem_of_getElem? (i := 21) rfl)) (iw33 _ (List.mem_of_getElem? (i := 22) rfl)) (iw33 _ (List.mem_of_getElem? (i := 23) rfl)) (iw1 _ (List.mem_of_getElem? (i := 2) rfl)) (iw34 _ (List.mem_of_getElem? (i := 0) rfl))) rfl ⟨rfl, rfl⟩ (by decide +kernel) ⟨by decide, by decide⟩ (by decide) rfl rfl dX7_ask_98 rfl rfl (Nat.le_of_ble_eq_true rfl) ?_
            refine ⟨_, S, P, V, m, gh5, rfl, ⟨by rw [(by rw [(eh5.1 2 (by decide) : h5 2 = h4 2), (eh4.1 2 (by decide) : h4 2 = hi 2)] : h5 2 = hi 2)]; exact hri, th5, hV, ⟨by rw [a3h5, ohF_1 (by omega)], a4h5, m2⟩, fun j hj => by rw [(by rw [(eh5.1 36 (by decide) : h5 36 = h4 36), (eh4.1 36 (by decide) : h4 36 = hi 36)] : h5 36 = hi 36)]; exact hfb j hj, by rw [ohF_1 (by omega)] at hG; exact hG, by rw [ohF_1 (by omega)] at qgh5; exact qgh5, by decide⟩, fun v18 h19 eh19 => ?_⟩
            have frh19 : Fr [29, 31, 32, 33, 35, 36] hi h19 := (Fr.call frh5 eh19.1 (by decide))
            rw [(eh5.1 2 (by decide) : h5 2 = h4 2), (eh4.1 2 (by decide) : h4 2 = hi 2)] at eh19
            have av := eh19.2.2.1
            have afb := eh19.2.2.2
            have l1b : h19 29 1 = 0 := by rw [(by rw [(eh19.2.1 1 (by decide) : h19 29 1 = h5 29 1), (eh5.2.1 1 (by decide) : h5 29 1 = h4 29 1)] : h19 29 1 = h4 29 1)]; exact l1
            refine z_iret (pc := 101) rfl dX7_ask_101 ?_
            exact hQ v18 h19 ⟨frh19, by first | exact Or.inl ⟨rfl, by omega, rfl⟩ | exact Or.inr ⟨by omega, by rw [(by rw [(eh19.2.1 1 (by decide) : h19 29 1 = h5 29 1), (eh5.2.1 1 (by decide) : h5 29 1 = h4 29 1)] : h19 29 1 = h4 29 1)]; exact l1, fun j hj => by rw [(rfl : h19 36 = h19 36)]; exact hfb j hj, S, P, V, st, m, tc0, Or.inl ⟨_, _, zh5, by omega⟩⟩ | exact Or.inr ⟨by omega, l1b, afb, S, P, V, st, m, tc0, Or.inr ⟨_, zh5, qgh5, by (try rw [if_pos rfl] at av); (try rw [if_neg (by decide)] at av); first | exact ans_0 (by omega) av | exact ans_1 (by omega) av | exact ans_2 (by omega) av | exact ans_3 (by omega) av⟩⟩ | (exfalso; omega)⟩
        · refine z_aload_n (pc := 78) (x := (ec v13)) dX7_ask_78 rfl 0 rfl ?_
          refine z_getstE (pc := 79) (i := 25) (z := 25) (by decide) rfl (List.mem_cons_of_mem _ (iw31 _ (List.mem_of_getElem? (i := 13) rfl))) dX7_ask_79 ?_
          refine z_acmp_ne (pc := 82) (tgt := 102) dX7_ask_82 (by decide) (by omega) (by omega) (fun c20 => ?_) (fun c20 => ?_)
          · refine z_aload_n (pc := 102) (x := 1) dX7_ask_102 rfl 1 rfl ?_
            refine z_aload_n (pc := 103) (x := (ec v13)) dX7_ask_103 rfl 0 rfl ?_
            refine z_getstE (pc := 104) (i := 34) (z := 34) (by decide) rfl (List.mem_cons_of_mem _ (iw25 _ (List.mem_of_getElem? (i := 15) rfl))) dX7_ask_104 ?_
            refine z_acmp_ne (pc := 107) (tgt := 114) dX7_ask_107 (by decide) (by omega) (by omega) (fun c21 => ?_) (fun c21 => ?_)
            · refine z_iconst (pc := 114) (v := 0) dX7_ask_114 rfl ?_
              refine z_callV (pc := 115) (kc := kX7_livesAsked) (n := 1) (pl := 0) (ci := 6) (C := RX7) (As := [AI 0]) (stk := []) ct_X7_livesAsked (gdV rfl rfl (iw35 _ (List.mem_of_getElem? (i := 1) rfl)) (iw35 _ (List.mem_of_getElem? (i := 2) rfl)) (iw35 _ (List.mem_of_getElem? (i := 3) rfl)) (iw1 _ (List.mem_of_getElem? (i := 2) rfl)) (iw35 _ (List.mem_of_getElem? (i := 4) rfl))) rfl ⟨rfl, rfl⟩ (by decide +kernel) ⟨by decide, by decide⟩ (by decide) rfl rfl dX7_ask_115 rfl rfl (Nat.le_of_ble_eq_true rfl) ?_
              refine ⟨_, S, P, V, m, gh5, rfl, ⟨by rw [(by rw [(eh5.1 2 (by decide) : h5 2 = h4 2), (eh4.1 2 (by decide) : h4 2 = hi 2)] : h5 2 = hi 2)]; exact hri, th5, hV, ⟨by rw [a3h5, ohF_0 (by omega)], a4h5, m2⟩, fun j hj => by rw [(by rw [(eh5.1 36 (by decide) : h5 36 = h4 36), (eh4.1 36 (by decide) : h4 36 = hi 36)] : h5 36 = hi 36)]; exact hfb j hj, by rw [ohF_0 (by omega)] at hG; exact hG, by rw [ohF_0 (by omega)] at qgh5; exact qgh5, by decide⟩, fun v22 h23 eh23 => ?_⟩
              have frh23 : Fr [29, 31, 32, 33, 35, 36] hi h23 := (Fr.call frh5 eh23.1 (by decide))
              rw [(eh5.1 2 (by decide) : h5 2 = h4 2), (eh4.1 2 (by decide) : h4 2 = hi 2)] at eh23
              have av := eh23.2.2.1
              have afb := eh23.2.2.2
              have l1b : h23 29 1 = 0 := by rw [(by rw [(eh23.2.1 1 (by decide) : h23 29 1 = h5 29 1), (eh5.2.1 1 (by decide) : h5 29 1 = h4 29 1)] : h23 29 1 = h4 29 1)]; exact l1
              refine z_iret (pc := 118) rfl dX7_ask_118 ?_
              exact hQ v22 h23 ⟨frh23, by first | exact Or.inl ⟨rfl, by omega, rfl⟩ | exact Or.inr ⟨by omega, by rw [(by rw [(eh23.2.1 1 (by decide) : h23 29 1 = h5 29 1), (eh5.2.1 1 (by decide) : h5 29 1 = h4 29 1)] : h23 29 1 = h4 29 1)]; exact l1, fun j hj => by rw [(rfl : h23 36 = h23 36)]; exact hfb j hj, S, P, V, st, m, tc0, Or.inl ⟨_, _, zh5, by omega⟩⟩ | exact Or.inr ⟨by omega, l1b, afb, S, P, V, st, m, tc0, Or.inr ⟨_, zh5, qgh5, by (try rw [if_pos rfl] at av); (try rw [if_neg (by decide)] at av); first | exact ans_0 (by omega) av | exact ans_1 (by omega) av | exact ans_2 (by omega) av | exact ans_3 (by omega) av⟩⟩ | (exfalso; omega)⟩
            · refine z_iconst (pc := 110) (v := 1) dX7_ask_110 rfl ?_
              refine z_goto (pc := 111) (tgt := 115) dX7_ask_111 (by decide) ?_
              refine z_callV (pc := 115) (kc := kX7_livesAsked) (n := 1) (pl := 0) (ci := 6) (C := RX7) (As := [AI 1]) (stk := []) ct_X7_livesAsked (gdV rfl rfl (iw35 _ (List.mem_of_getElem? (i := 1) rfl)) (iw35 _ (List.mem_of_getElem? (i := 2) rfl)) (iw35 _ (List.mem_of_getElem? (i := 3) rfl)) (iw1 _ (List.mem_of_getElem? (i := 2) rfl)) (iw35 _ (List.mem_of_getElem? (i := 4) rfl))) rfl ⟨rfl, rfl⟩ (by decide +kernel) ⟨by decide, by decide⟩ (by decide) rfl rfl dX7_ask_115 rfl rfl (Nat.le_of_ble_eq_true rfl) ?_
              refine ⟨_, S, P, V, m, gh5, rfl, ⟨by rw [(by rw [(eh5.1 2 (by decide) : h5 2 = h4 2), (eh4.1 2 (by decide) : h4 2 = hi 2)] : h5 2 = hi 2)]; exact hri, th5, hV, ⟨by rw [a3h5, ohF_0 (by omega)], a4h5, m2⟩, fun j hj => by rw [(by rw [(eh5.1 36 (by decide) : h5 36 = h4 36), (eh4.1 36 (by decide) : h4 36 = hi 36)] : h5 36 = hi 36)]; exact hfb j hj, by rw [ohF_0 (by omega)] at hG; exact hG, by rw [ohF_0 (by omega)] at qgh5; exact qgh5, by decide⟩, fun v24 h25 eh25 => ?_⟩
              have frh25 : Fr [29, 31, 32, 33, 35, 36] hi h25 := (Fr.call frh5 eh25.1 (by decide))
              rw [(eh5.1 2 (by decide) : h5 2 = h4 2), (eh4.1 2 (by decide) : h4 2 = hi 2)] at eh25
              have av := eh25.2.2.1
              have afb := eh25.2.2.2
              have l1b : h25 29 1 = 0 := by rw [(by rw [(eh25.2.1 1 (by decide) : h25 29 1 = h5 29 1), (eh5.2.1 1 (by decide) : h5 29 1 = h4 29 1)] : h25 29 1 = h4 29 1)]; exact l1
              refine z_iret (pc := 118) rfl dX7_ask_118 ?_
              exact hQ v24 h25 ⟨frh25, by first | exact Or.inl ⟨rfl, by omega, rfl⟩ | exact Or.inr ⟨by omega, by rw [(by rw [(eh25.2.1 1 (by decide) : h25 29 1 = h5 29 1), (eh5.2.1 1 (by decide) : h5 29 1 = h4 29 1)] : h25 29 1 = h4 29 1)]; exact l1, fun j hj => by rw [(rfl : h25 36 = h25 36)]; exact hfb j hj, S, P, V, st, m, tc0, Or.inl ⟨_, _, zh5, by omega⟩⟩ | exact Or.inr ⟨by omega, l1b, afb, S, P, V, st, m, tc0, Or.inr ⟨_, zh5, qgh5, by (try rw [if_pos rfl] at av); (try rw [if_neg (by decide)] at av); first | exact ans_0 (by omega) av | exact ans_1 (by omega) av | exact ans_2 (by omega) av | exact ans_3 (by omega) av⟩⟩ | (exfalso; omega)⟩
          · refine z_aload_n (pc := 85) (x := 1) dX7_ask_85 rfl 1 rfl ?_
            refine z_aload_n (pc := 86) (x := (ec v13)) dX7_ask_86 rfl 0 rfl ?_
            refine z_getstE (pc := 87) (i := 25) (z := 25) (by decide) rfl (List.mem_cons_of_mem _ (iw31 _ (List.mem_of_getElem? (i := 13) rfl))) dX7_ask_87 ?_
            refine z_acmp_ne (pc := 90) (tgt := 97) dX7_ask_90 (by decide) (by omega) (by omega) (fun c26 => ?_) (fun c26 => ?_)
            · refine z_iconst (pc := 97) (v := 0) dX7_ask_97 rfl ?_
              refine z_callV (pc := 98) (kc := kX7_hoursAsked) (n := 1) (pl := 0) (ci := 6) (C := RX7) (As := [AI 0]) (stk := []) ct_X7_hoursAsked (gdV rfl rfl (iw33 _ (List.mem_of_getElem? (i := 21) rfl)) (iw33 _ (List.mem_of_getElem? (i := 22) rfl)) (iw33 _ (List.mem_of_getElem? (i := 23) rfl)) (iw1 _ (List.mem_of_getElem? (i := 2) rfl)) (iw34 _ (List.mem_of_getElem? (i := 0) rfl))) rfl ⟨rfl, rfl⟩ (by decide +kernel) ⟨by decide, by decide⟩ (by decide) rfl rfl dX7_ask_98 rfl rfl (Nat.le_of_ble_eq_true rfl) ?_
              refine ⟨_, S, P, V, m, gh5, rfl, ⟨by rw [(by rw [(eh5.1 2 (by decide) : h5 2 = h4 2), (eh4.1 2 (by decide) : h4 2 = hi 2)] : h5 2 = hi 2)]; exact hri, th5, hV, ⟨by rw [a3h5, ohF_1 (by omega)], a4h5, m2⟩, fun j hj => by rw [(by rw [(eh5.1 36 (by decide) : h5 36 = h4 36), (eh4.1 36 (by decide) : h4 36 = hi 36)] : h5 36 = hi 36)]; exact hfb j hj, by rw [ohF_1 (by omega)] at hG; exact hG, by rw [ohF_1 (by omega)] at qgh5; exact qgh5, by decide⟩, fun v27 h28 eh28 => ?_⟩
              have frh28 : Fr [29, 31, 32, 33, 35, 36] hi h28 := (Fr.call frh5 eh28.1 (by decide))
              rw [(eh5.1 2 (by decide) : h5 2 = h4 2), (eh4.1 2 (by decide) : h4 2 = hi 2)] at eh28
              have av := eh28.2.2.1
              have afb := eh28.2.2.2
              have l1b : h28 29 1 = 0 := by rw [(by rw [(eh28.2.1 1 (by decide) : h28 29 1 = h5 29 1), (eh5.2.1 1 (by decide) : h5 29 1 = h4 29 1)] : h28 29 1 = h4 29 1)]; exact l1
              refine z_iret (pc := 101) rfl dX7_ask_101 ?_
              exact hQ v27 h28 ⟨frh28, by first | exact Or.inl ⟨rfl, by omega, rfl⟩ | exact Or.inr ⟨by omega, by rw [(by rw [(eh28.2.1 1 (by decide) : h28 29 1 = h5 29 1), (eh5.2.1 1 (by decide) : h5 29 1 = h4 29 1)] : h28 29 1 = h4 29 1)]; exact l1, fun j hj => by rw [(rfl : h28 36 = h28 36)]; exact hfb j hj, S, P, V, st, m, tc0, Or.inl ⟨_, _, zh5, by omega⟩⟩ | exact Or.inr ⟨by omega, l1b, afb, S, P, V, st, m, tc0, Or.inr ⟨_, zh5, qgh5, by (try rw [if_pos rfl] at av); (try rw [if_neg (by decide)] at av); first | exact ans_0 (by omega) av | exact ans_1 (by omega) av | exact ans_2 (by omega) av | exact ans_3 (by omega) av⟩⟩ | (exfalso; omega)⟩
            · refine z_iconst (pc := 93) (v := 1) dX7_ask_93 rfl ?_
              refine z_goto (pc := 94) (tgt := 98) dX7_ask_94 (by decide) ?_
              refine z_callV (pc := 98) (kc := kX7_hoursAsked) (n := 1) (pl := 0) (ci := 6) (C := RX7) (As := [AI 1]) (stk := []) ct_X7_hoursAsked (gdV rfl rfl (iw33 _ (List.mem_of_getElem? (i := 21) rfl)) (iw33 _ (List.mem_of_getElem? (i := 22) rfl)) (iw33 _ (List.mem_of_getElem? (i := 23) rfl)) (iw1 _ (List.mem_of_getElem? (i := 2) rfl)) (iw34 _ (List.mem_of_getElem? (i := 0) rfl))) rfl ⟨rfl, rfl⟩ (by decide +kernel) ⟨by decide, by decide⟩ (by decide) rfl rfl dX7_ask_98 rfl rfl (Nat.le_of_ble_eq_true rfl) ?_
              refine ⟨_, S, P, V, m, gh5, rfl, ⟨by rw [(by rw [(eh5.1 2 (by decide) : h5 2 = h4 2), (eh4.1 2 (by decide) : h4 2 = hi 2)] : h5 2 = hi 2)]; exact hri, th5, hV, ⟨by rw [a3h5, ohF_1 (by omega)], a4h5, m2⟩, fun j hj => by rw [(by rw [(eh5.1 36 (by decide) : h5 36 = h4 36), (eh4.1 36 (by decide) : h4 36 = hi 36)] : h5 36 = hi 36)]; exact hfb j hj, by rw [ohF_1 (by omega)] at hG; exact hG, by rw [ohF_1 (by omega)] at qgh5; exact qgh5, by decide⟩, fun v29 h30 eh30 => ?_⟩
              have frh30 : Fr [29, 31, 32, 33, 35, 36] hi h30 := (Fr.call frh5 eh30.1 (by decide))
              rw [(eh5.1 2 (by decide) : h5 2 = h4 2), (eh4.1 2 (by decide) : h4 2 = hi 2)] at eh30
              have av := eh30.2.2.1
              have afb := eh30.2.2.2
              have l1b : h30 29 1 = 0 := by rw [(by rw [(eh30.2.1 1 (by decide) : h30 29 1 = h5 29 1), (eh5.2.1 1 (by decide) : h5 29 1 = h4 29 1)] : h30 29 1 = h4 29 1)]; exact l1
              refine z_iret (pc := 101) rfl dX7_ask_101 ?_
              exact hQ v29 h30 ⟨frh30, by first | exact Or.inl ⟨rfl, by omega, rfl⟩ | exact Or.inr ⟨by omega, by rw [(by rw [(eh30.2.1 1 (by decide) : h30 29 1 = h5 29 1), (eh5.2.1 1 (by decide) : h5 29 1 = h4 29 1)] : h30 29 1 = h4 29 1)]; exact l1, fun j hj => by rw [(rfl : h30 36 = h30 36)]; exact hfb j hj, S, P, V, st, m, tc0, Or.inl ⟨_, _, zh5, by omega⟩⟩ | exact Or.inr ⟨by omega, l1b, afb, S, P, V, st, m, tc0, Or.inr ⟨_, zh5, qgh5, by (try rw [if_pos rfl] at av); (try rw [if_neg (by decide)] at av); first | exact ans_0 (by omega) av | exact ans_1 (by omega) av | exact ans_2 (by omega) av | exact ans_3 (by omega) av⟩⟩ | (exfalso; omega)⟩
    · refine z_iconst (pc := 15) (v := (-1)) dX7_ask_15 rfl ?_
      refine z_iret (pc := 16) rfl dX7_ask_16 ?_
      exact hQ (-1) hi ⟨(Fr.rf), by first | exact Or.inl ⟨rfl, by omega, rfl⟩ | exact Or.inr ⟨by omega, by rw [(rfl : hi 29 1 = hi 29 1)]; exact l1, fun j hj => by rw [(rfl : hi 36 = hi 36)]; exact hfb j hj, S, P, V, st, m, tc0, Or.inl ⟨_, _, zh5, by omega⟩⟩ | exact Or.inr ⟨by omega, l1b, afb, S, P, V, st, m, tc0, Or.inr ⟨_, zh5, qgh5, by (try rw [if_pos rfl] at av); (try rw [if_neg (by decide)] at av); first | exact ans_0 (by omega) av | exact ans_1 (by omega) av | exact ans_2 (by omega) av | exact ans_3 (by omega) av⟩⟩ | (exfalso; omega)⟩
