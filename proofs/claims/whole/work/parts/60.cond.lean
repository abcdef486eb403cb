theorem cq_lt1 {s x y : Int} {a b : Ex} {φ : Nat → Int} (hs : s = 6) (hx : x = a φ) (hy : y = b φ) (h : x < y) : (1 : Int) = bin (s - 2) a b φ := by
  subst hs; subst hx; subst hy
  show (1 : Int) = jn 4 (a φ) (b φ)
  unfold jn
  simp only [h, if_true, if_false]; first | done | rfl | decide
theorem cq_lt0 {s x y : Int} {a b : Ex} {φ : Nat → Int} (hs : s = 6) (hx : x = a φ) (hy : y = b φ) (h : ¬ x < y) : (0 : Int) = bin (s - 2) a b φ := by
  subst hs; subst hx; subst hy
  show (0 : Int) = jn 4 (a φ) (b φ)
  unfold jn
  simp only [h, if_true, if_false]; first | done | rfl | decide
theorem cq_gt1 {s x y : Int} {a b : Ex} {φ : Nat → Int} (hs : s = 8) (hx : x = a φ) (hy : y = b φ) (h : y < x) : (1 : Int) = bin (s - 2) a b φ := by
  subst hs; subst hx; subst hy
  show (1 : Int) = jn 6 (a φ) (b φ)
  unfold jn
  simp only [h, if_true, if_false]; first | done | rfl | decide
theorem cq_gt0 {s x y : Int} {a b : Ex} {φ : Nat → Int} (hs : s = 8) (hx : x = a φ) (hy : y = b φ) (h : ¬ y < x) : (0 : Int) = bin (s - 2) a b φ := by
  subst hs; subst hx; subst hy
  show (0 : Int) = jn 6 (a φ) (b φ)
  unfold jn
  simp only [h, if_true, if_false]; first | done | rfl | decide
theorem cq_eq1 {s x y : Int} {a b : Ex} {φ : Nat → Int} (hs : s = 7) (hx : x = a φ) (hy : y = b φ) (h : x = y) : (1 : Int) = bin (s - 2) a b φ := by
  subst hs; subst hx; subst hy
  show (1 : Int) = jn 5 (a φ) (b φ)
  unfold jn
  simp only [h, if_true, if_false]; first | done | rfl | decide
theorem cq_eq0 {s x y : Int} {a b : Ex} {φ : Nat → Int} (hs : s = 7) (hx : x = a φ) (hy : y = b φ) (h : ¬ x = y) : (0 : Int) = bin (s - 2) a b φ := by
  subst hs; subst hx; subst hy
  show (0 : Int) = jn 5 (a φ) (b φ)
  unfold jn
  simp only [h, if_true, if_false]; first | done | rfl | decide
theorem and_b {x y : Int} (hx : x = 0 ∨ x = 1) (hy : y = 0 ∨ y = 1) : (iI x &&& iI y).toInt = jn 8 x y ∧ ((iI x &&& iI y).toInt = 0 ∨ (iI x &&& iI y).toInt = 1) := by
  rcases hx with h | h <;> rcases hy with g | g <;> subst h <;> subst g <;> decide +kernel
theorem or_b {x y : Int} (hx : x = 0 ∨ x = 1) (hy : y = 0 ∨ y = 1) : (iI x ||| iI y).toInt = jn 9 x y ∧ ((iI x ||| iI y).toInt = 0 ∨ (iI x ||| iI y).toInt = 1) := by
  rcases hx with h | h <;> rcases hy with g | g <;> subst h <;> subst g <;> decide +kernel
theorem or_0 {x : Int} (hx : x = 0 ∨ x = 1) : jn 9 0 x = x := by rcases hx with h | h <;> subst h <;> decide
theorem bin_9 {oh : Int} {a b : Ex} {φ : Nat → Int} (ha : QG oh a) (hb : QG oh b) : bin 9 a b φ = if a φ = 1 then 1 else if b φ = 1 then 1 else 0 := by
  show jn 9 (a φ) (b φ) = _
  unfold jn
  rw [if_neg (by decide), if_neg (by decide), if_neg (by decide), if_neg (by decide), if_neg (by decide), if_neg (by decide)]
  rcases ha.1 φ with h | h <;> rcases hb.1 φ with g | g <;> rw [h, g] <;> decide

abbrev kX4_factHolds (d : Nat) : Kd := (cX4_factHolds, .code yX4_factHolds cX4_factHolds 4 (some .boolean) :: wsL_law0, rmL (5 + 2 * d), RX4, (some .boolean), 4)
abbrev kX4_condHolds (d : Nat) : Kd := (cX4_condHolds, .code yX4_condHolds cX4_condHolds 5 (some .boolean) :: wsL_law0, rmL (6 + 2 * d), RX4, (some .boolean), 5)
abbrev kX4_comparisonHolds : Kd := (cX4_comparisonHolds, .code yX4_comparisonHolds cX4_comparisonHolds 4 (some .boolean) :: wsL_law0, rmL 4, RX4, (some .boolean), 4)
theorem ct_X4_comparisonHolds_TS : Ct kX4_comparisonHolds yX4_comparisonHolds (fun a hi Q => ∃ S : Nat → Int, ∃ P : Nat → Int, ∃ V : Nat → Int, ∃ m : Nat, ∃ c : Nat, a = [AR 36] ∧ ((TS hi S P V m c) ∧ ((hi 35 3 = 0 ∨ hi 35 3 = 1) ∧ (∀ j : Nat, j < 6 → -4000 ≤ hi 36 j ∧ hi 36 j ≤ 4000) ∧ (∀ i : Nat, i ≤ m → S i = 2 → 0 ≤ V i ∧ V i ≤ 999))) ∧ ∀ (v : Int) (h2 : HI), (Fr [29] hi h2 ∧ FF 29 [6, 7, 8] hi h2 ∧ ((v = 0 ∨ v = 1) ∧ ((∃ p, TF h2 S P V m 1 p ∧ cmpF (hi 35 3) S P V c = .inl p) ∨ (∃ (c2 : Nat) (g : Ex), TS h2 S P V m c2 ∧ v = g (hi 36) ∧ cmpF (hi 35 3) S P V c = .inr (c2, g) ∧ c < c2 ∧ QG (hi 35 3) g)))) → Q (AI v) h2) := by
  refine Ct.of (ws' := _) (by decide +kernel) rfl rfl ?_
  intro a hi Q hT
  obtain ⟨S, P, V, m, c, rfl, hpre, hQ⟩ := hT
  refine ⟨Nat.le_of_ble_eq_true rfl, ?_⟩
  show Z kX4_comparisonHolds Q 0 [(0, AR 36)] [] hi
  have t0 := hpre.1
  have hoh := hpre.2
  obtain ⟨ho, hph, hV⟩ := hoh
  have cm := t0.2.1
  have mb := t0.1.2.1
  refine z_aload_n (pc := 0) (x := 36) dX4_comparisonHolds_0 rfl 0 rfl ?_
  refine z_callV (pc := 1) (kc := kX4_total) (n := 0) (pl := 35) (ci := 4) (C := RX4) (As := []) (stk := []) ct_X4_total_TS (gdV rfl rfl (iw33 _ (List.mem_of_getElem? (i := 4) rfl)) (iw33 _ (List.mem_of_getElem? (i := 5) rfl)) (iw33 _ (List.mem_of_getElem? (i := 6) rfl)) (iw2 _ (List.mem_of_getElem? (i := 12) rfl)) (iw33 _ (List.mem_of_getElem? (i := 7) rfl))) rfl ⟨rfl, rfl⟩ (by decide +kernel) ⟨by decide, by decide⟩ (by decide) rfl rfl dX4_comparisonHolds_1 rfl rfl (Nat.le_of_ble_eq_true rfl) ?_
  refine ⟨S, P, V, m, c, rfl, ⟨t0, ⟨ho, hph, hV⟩⟩, fun v1 h2 eh2 => ?_⟩
  have frh2 : Fr [29] hi h2 := (Fr.call (Fr.rf) eh2.1 (by decide))
  have ff29h2 : FF 29 [6, 7, 8] hi h2 := FF.call (FF.rf) (eh2.2.1) (by decide)
  have eph2 := eh2.2.2
  replace eh2 := And.intro eh2.1 (And.intro eh2.2.1 trivial)
  obtain ⟨tbh2, eph2⟩ := eph2
  rcases eph2 with ⟨ph2, th2, gsh2⟩ | ⟨ch2, gh2, th2, geh2, gsh2, gch2, gdh2⟩
  · have gsa := gsh2
    have tba := tbh2
    refine z_istore_n (pc := 4) (lv' := [(1, AI v1), (0, AR 36)]) dX4_comparisonHolds_4 rfl (by decide) rfl ?_
    refine z_aload_n (pc := 5) (x := 36) dX4_comparisonHolds_5 rfl 1 rfl ?_
    refine z_getR (pc := 6) (pl := 35) (f := 0) (ci := 4) (C := RX4) (T := TX4) (N := 5) hu_X4 (by decide) rfl rfl (by decide) rfl (List.mem_cons_of_mem _ (iw4 _ (List.mem_of_getElem? (i := 19) rfl))) rfl dX4_comparisonHolds_6 ?_
    refine z_callV (pc := 9) (kc := kX6_sign) (n := 0) (pl := 29) (ci := 5) (C := RX6) (As := []) (stk := []) ct_X6_sign_TF (gdV rfl rfl (iw31 _ (List.mem_of_getElem? (i := 23) rfl)) (iw22 _ (List.mem_of_getElem? (i := 10) rfl)) (iw22 _ (List.mem_of_getElem? (i := 11) rfl)) (iw2 _ (List.mem_of_getElem? (i := 4) rfl)) (iw22 _ (List.mem_of_getElem? (i := 12) rfl))) rfl ⟨rfl, rfl⟩ (by decide +kernel) ⟨by decide, by decide⟩ (by decide) rfl rfl dX4_comparisonHolds_9 rfl rfl (Nat.le_of_ble_eq_true rfl) ?_
    refine ⟨S, P, V, m, 1, ph2, rfl, th2, fun v3 ev3 => ?_⟩
    obtain rfl := ev3
    refine z_astore_n (pc := 12) (lv' := [(2, AR (ec 1)), (1, AI v1), (0, AR 36)]) dX4_comparisonHolds_12 rfl (by decide) (by unfold ec; split <;> omega) rfl ?_
    refine z_aload_n (pc := 13) (x := (ec 1)) dX4_comparisonHolds_13 rfl 0 rfl ?_
    refine z_getstE (pc := 14) (i := 6) (z := 6) (by decide) rfl (List.mem_cons_of_mem _ (iw33 _ (List.mem_of_getElem? (i := 1) rfl))) dX4_comparisonHolds_14 ?_
    refine z_acmp_eq (pc := 17) (tgt := 44) dX4_comparisonHolds_17 (by decide) (by decide) (by decide) (fun q => absurd q (by decide)) (fun _ => ?_)
    refine z_aload_n (pc := 20) (x := (ec 1)) dX4_comparisonHolds_20 rfl 0 rfl ?_
    refine z_getstE (pc := 21) (i := 7) (z := 7) (by decide) rfl (List.mem_cons_of_mem _ (iw33 _ (List.mem_of_getElem? (i := 2) rfl))) dX4_comparisonHolds_21 ?_
    refine z_acmp_eq (pc := 24) (tgt := 44) dX4_comparisonHolds_24 (by decide) (by decide) (by decide) (fun q => absurd q (by decide)) (fun _ => ?_)
    refine z_aload_n (pc := 27) (x := (ec 1)) dX4_comparisonHolds_27 rfl 0 rfl ?_
    refine z_getstE (pc := 28) (i := 8) (z := 8) (by decide) rfl (List.mem_cons_of_mem _ (iw33 _ (List.mem_of_getElem? (i := 3) rfl))) dX4_comparisonHolds_28 ?_
    refine z_acmp_eq (pc := 31) (tgt := 44) dX4_comparisonHolds_31 (by decide) (by decide) (by decide) (fun q => absurd q (by decide)) (fun _ => ?_)
    refine z_aload_n (pc := 34) (x := 36) dX4_comparisonHolds_34 rfl 2 rfl ?_
    refine z_getR (pc := 35) (pl := 35) (f := 0) (ci := 4) (C := RX4) (T := TX4) (N := 5) hu_X4 (by decide) rfl rfl (by decide) rfl (List.mem_cons_of_mem _ (iw4 _ (List.mem_of_getElem? (i := 19) rfl))) rfl dX4_comparisonHolds_35 ?_
    refine z_iconst (pc := 38) (v := 1) dX4_comparisonHolds_38 rfl ?_
    refine z_callV (pc := 39) (kc := kX6_fail) (n := 1) (pl := 29) (ci := 5) (C := RX6) (As := [AI 1]) (stk := []) ct_X6_fail_TF (gdV rfl rfl (iw32 _ (List.mem_of_getElem? (i := 0) rfl)) (iw23 _ (List.mem_of_getElem? (i := 13) rfl)) (iw23 _ (List.mem_of_getElem? (i := 14) rfl)) (iw2 _ (List.mem_of_getElem? (i := 4) rfl)) (iw23 _ (List.mem_of_getElem? (i := 15) rfl))) rfl ⟨rfl, rfl⟩ (by decide +kernel) ⟨by decide, by decide⟩ (by decide) rfl rfl dX4_comparisonHolds_39 rfl rfl (Nat.le_of_ble_eq_true rfl) ?_
    refine ⟨_, S, P, V, m, 1, ph2, rfl, ⟨th2, ⟨by decide, by decide⟩⟩, fun h4 eh4 => ?_⟩
    have frh4 : Fr [29] hi h4 := (Fr.call frh2 eh4.1 (by decide))
    have ff29h4 : FF 29 [6, 7, 8] hi h4 := FF.call ff29h2 (eh4.2.1) (by decide)
    have eph4 := eh4.2.2
    replace eh4 := And.intro eh4.1 (And.intro eh4.2.1 trivial)
    have th4 := eph4
    refine z_iconst (pc := 42) (v := 0) dX4_comparisonHolds_42 rfl ?_
    refine z_zret (pc := 43) rfl (by decide) dX4_comparisonHolds_43 ?_
    exact hQ 0 h4 ⟨frh4, ff29h4, by first | exact ⟨by omega, Or.inl ⟨_, th4, cmpF_bad1 gsa⟩⟩ | exact ⟨by omega, Or.inl ⟨_, th4, cmpF_bad2 gsa (by omega)⟩⟩ | exact ⟨by omega, Or.inl ⟨_, th4, cmpF_bad3 gsa (by omega) gsb⟩⟩ | exact ⟨by omega, Or.inr ⟨_, _, th4, cq_lt1 (by omega) ga gb_ (by omega), cmpF_ok gsa (by omega) gsb, by omega, QG.bin gda gdb (by omega)⟩⟩ | exact ⟨by omega, Or.inr ⟨_, _, th4, cq_lt0 (by omega) ga gb_ (by omega), cmpF_ok gsa (by omega) gsb, by omega, QG.bin gda gdb (by omega)⟩⟩ | exact ⟨by omega, Or.inr ⟨_, _, th4, cq_gt1 (by omega) ga gb_ (by omega), cmpF_ok gsa (by omega) gsb, by omega, QG.bin gda gdb (by omega)⟩⟩ | exact ⟨by omega, Or.inr ⟨_, _, th4, cq_gt0 (by omega) ga gb_ (by omega), cmpF_ok gsa (by omega) gsb, by omega, QG.bin gda gdb (by omega)⟩⟩ | exact ⟨by omega, Or.inr ⟨_, _, th4, cq_eq1 (by omega) ga gb_ (by omega), cmpF_ok gsa (by omega) gsb, by omega, QG.bin gda gdb (by omega)⟩⟩ | exact ⟨by omega, Or.inr ⟨_, _, th4, cq_eq0 (by omega) ga gb_ (by omega), cmpF_ok gsa (by omega) gsb, by omega, QG.bin gda gdb (by omega)⟩⟩⟩
  · have cmh2 := th2.2.1
    have ga := geh2
    have gsa := gsh2
    have gca := gch2
    have gda := gdh2
    have tba := tbh2
    refine z_istore_n (pc := 4) (lv' := [(1, AI v1), (0, AR 36)]) dX4_comparisonHolds_4 rfl (by decide) rfl ?_
    refine z_aload_n (pc := 5) (x := 36) dX4_comparisonHolds_5 rfl 1 rfl ?_
    refine z_getR (pc := 6) (pl := 35) (f := 0) (ci := 4) (C := RX4) (T := TX4) (N := 5) hu_X4 (by decide) rfl rfl (by decide) rfl (List.mem_cons_of_mem _ (iw4 _ (List.mem_of_getElem? (i := 19) rfl))) rfl dX4_comparisonHolds_6 ?_
    refine z_callV (pc := 9) (kc := kX6_sign) (n := 0) (pl := 29) (ci := 5) (C := RX6) (As := []) (stk := []) ct_X6_sign_TS (gdV rfl rfl (iw31 _ (List.mem_of_getElem? (i := 23) rfl)) (iw22 _ (List.mem_of_getElem? (i := 10) rfl)) (iw22 _ (List.mem_of_getElem? (i := 11) rfl)) (iw2 _ (List.mem_of_getElem? (i := 4) rfl)) (iw22 _ (List.mem_of_getElem? (i := 12) rfl))) rfl ⟨rfl, rfl⟩ (by decide +kernel) ⟨by decide, by decide⟩ (by decide) rfl rfl dX4_comparisonHolds_9 rfl rfl (Nat.le_of_ble_eq_true rfl) ?_
    refine ⟨S, P, V, m, ch2, rfl, th2, fun v5 ev5 => ?_⟩
    refine z_astore_n (pc := 12) (lv' := [(2, AR (ec v5)), (1, AI v1), (0, AR 36)]) dX4_comparisonHolds_12 rfl (by decide) (by unfold ec; split <;> omega) rfl ?_
    refine z_aload_n (pc := 13) (x := (ec v5)) dX4_comparisonHolds_13 rfl 0 rfl ?_
    refine z_getstE (pc := 14) (i := 6) (z := 6) (by decide) rfl (List.mem_cons_of_mem _ (iw33 _ (List.mem_of_getElem? (i := 1) rfl))) dX4_comparisonHolds_14 ?_
    refine z_acmp_eq (pc := 17) (tgt := 44) dX4_comparisonHolds_17 (by decide) (by omega) (by omega) (fun c6 => ?_) (fun c6 => ?_)
    · refine z_aload_n (pc := 44) (x := 36) dX4_comparisonHolds_44 rfl 2 rfl ?_
      refine z_getR (pc := 45) (pl := 35) (f := 0) (ci := 4) (C := RX4) (T := TX4) (N := 5) hu_X4 (by decide) rfl rfl (by decide) rfl (List.mem_cons_of_mem _ (iw4 _ (List.mem_of_getElem? (i := 19) rfl))) rfl dX4_comparisonHolds_45 ?_
      refine z_callV (pc := 48) (kc := kX6_pass) (n := 0) (pl := 29) (ci := 5) (C := RX6) (As := []) (stk := []) ct_X6_pass_TS (gdV rfl rfl (iw32 _ (List.mem_of_getElem? (i := 1) rfl)) (iw23 _ (List.mem_of_getElem? (i := 5) rfl)) (iw23 _ (List.mem_of_getElem? (i := 6) rfl)) (iw2 _ (List.mem_of_getElem? (i := 4) rfl)) (iw23 _ (List.mem_of_getElem? (i := 7) rfl))) rfl ⟨rfl, rfl⟩ (by decide +kernel) ⟨by decide, by decide⟩ (by decide) rfl rfl dX4_comparisonHolds_48 rfl rfl (Nat.le_of_ble_eq_true rfl) ?_
      refine ⟨S, P, V, m, ch2, rfl, ⟨th2, by omega⟩, fun v7 h8 eh8 => ?_⟩
      have frh8 : Fr [29] hi h8 := (Fr.call frh2 eh8.1 (by decide))
      have ff29h8 : FF 29 [6, 7, 8] hi h8 := FF.call ff29h2 (eh8.2.1) (by decide)
      have eph8 := eh8.2.2
      replace eh8 := And.intro eh8.1 (And.intro eh8.2.1 trivial)
      obtain ⟨gh8, th8⟩ := eph8
      refine z_pop (pc := 51) dX4_comparisonHolds_51 rfl ?_
      refine z_aload_n (pc := 52) (x := 36) dX4_comparisonHolds_52 rfl 2 rfl ?_
      refine z_callV (pc := 53) (kc := kX4_total) (n := 0) (pl := 35) (ci := 4) (C := RX4) (As := []) (stk := []) ct_X4_total_TS (gdV rfl rfl (iw33 _ (List.mem_of_getElem? (i := 4) rfl)) (iw33 _ (List.mem_of_getElem? (i := 5) rfl)) (iw33 _ (List.mem_of_getElem? (i := 6) rfl)) (iw2 _ (List.mem_of_getElem? (i := 12) rfl)) (iw33 _ (List.mem_of_getElem? (i := 7) rfl))) rfl ⟨rfl, rfl⟩ (by decide +kernel) ⟨by decide, by decide⟩ (by decide) rfl rfl dX4_comparisonHolds_53 rfl rfl (Nat.le_of_ble_eq_true rfl) ?_
      refine ⟨S, P, V, m, (ch2 + 1), rfl, ⟨th8, by rw [(congrFun (eh8.1 35 (by decide)) 3 : h8 35 3 = h2 35 3), (congrFun (eh2.1 35 (by decide)) 3 : h2 35 3 = hi 35 3), (eh8.1 36 (by decide) : h8 36 = h2 36), (eh2.1 36 (by decide) : h2 36 = hi 36)]; exact ⟨ho, hph, hV⟩⟩, fun v9 h10 eh10 => ?_⟩
      have frh10 : Fr [29] hi h10 := (Fr.call frh8 eh10.1 (by decide))
      have ff29h10 : FF 29 [6, 7, 8] hi h10 := FF.call ff29h8 (eh10.2.1) (by decide)
      rw [(congrFun (eh8.1 35 (by decide)) 3 : h8 35 3 = h2 35 3), (congrFun (eh2.1 35 (by decide)) 3 : h2 35 3 = hi 35 3)] at eh10
      rw [(eh8.1 36 (by decide) : h8 36 = h2 36), (eh2.1 36 (by decide) : h2 36 = hi 36)] at eh10
      have eph10 := eh10.2.2
      replace eh10 := And.intro eh10.1 (And.intro eh10.2.1 trivial)
      obtain ⟨tbh10, eph10⟩ := eph10
      rcases eph10 with ⟨ph10, th10, gsh10⟩ | ⟨ch10, gh10, th10, geh10, gsh10, gch10, gdh10⟩
      · have gsb := gsh10
        have tbb := tbh10
        refine z_istore_n (pc := 56) (lv' := [(3, AI v9), (2, AR (ec v5)), (1, AI v1), (0, AR 36)]) dX4_comparisonHolds_56 rfl (by decide) rfl ?_
        refine z_aload_n (pc := 57) (x := (ec v5)) dX4_comparisonHolds_57 rfl 1 rfl ?_
        refine z_getstE (pc := 58) (i := 6) (z := 6) (by decide) rfl (List.mem_cons_of_mem _ (iw33 _ (List.mem_of_getElem? (i := 1) rfl))) dX4_comparisonHolds_58 ?_
        refine z_acmp_ne (pc := 61) (tgt := 75) dX4_comparisonHolds_61 (by decide) (by omega) (by omega) (fun c11 => ?_) (fun c11 => ?_)
        · refine z_aload_n (pc := 75) (x := (ec v5)) dX4_comparisonHolds_75 rfl 1 rfl ?_
          refine z_getstE (pc := 76) (i := 8) (z := 8) (by decide) rfl (List.mem_cons_of_mem _ (iw33 _ (List.mem_of_getElem? (i := 3) rfl))) dX4_comparisonHolds_76 ?_
          refine z_acmp_ne (pc := 79) (tgt := 95) dX4_comparisonHolds_79 (by decide) (by omega) (by omega) (fun c12 => ?_) (fun c12 => ?_)
          · refine z_iload_n (pc := 95) dX4_comparisonHolds_95 rfl 2 rfl ?_
            refine z_iload_n (pc := 96) dX4_comparisonHolds_96 rfl 0 rfl ?_
            refine z_icmp_ne (pc := 97) (tgt := 104) dX4_comparisonHolds_97 (by decide) ⟨by omega, by omega⟩ ⟨by omega, by omega⟩ (fun c13 => ?_) (fun c13 => ?_)
            · refine z_iconst (pc := 104) (v := 0) dX4_comparisonHolds_104 rfl ?_
              refine z_zret (pc := 105) rfl (by decide) dX4_comparisonHolds_105 ?_
              exact hQ 0 h10 ⟨frh10, ff29h10, by first | exact ⟨by omega, Or.inl ⟨_, th10, cmpF_bad1 gsa⟩⟩ | exact ⟨by omega, Or.inl ⟨_, th10, cmpF_bad2 gsa (by omega)⟩⟩ | exact ⟨by omega, Or.inl ⟨_, th10, cmpF_bad3 gsa (by omega) gsb⟩⟩ | exact ⟨by omega, Or.inr ⟨_, _, th10, cq_lt1 (by omega) ga gb_ (by omega), cmpF_ok gsa (by omega) gsb, by omega, QG.bin gda gdb (by omega)⟩⟩ | exact ⟨by omega, Or.inr ⟨_, _, th10, cq_lt0 (by omega) ga gb_ (by omega), cmpF_ok gsa (by omega) gsb, by omega, QG.bin gda gdb (by omega)⟩⟩ | exact ⟨by omega, Or.inr ⟨_, _, th10, cq_gt1 (by omega) ga gb_ (by omega), cmpF_ok gsa (by omega) gsb, by omega, QG.bin gda gdb (by omega)⟩⟩ | exact ⟨by omega, Or.inr ⟨_, _, th10, cq_gt0 (by omega) ga gb_ (by omega), cmpF_ok gsa (by omega) gsb, by omega, QG.bin gda gdb (by omega)⟩⟩ | exact ⟨by omega, Or.inr ⟨_, _, th10, cq_eq1 (by omega) ga gb_ (by omega), cmpF_ok gsa (by omega) gsb, by omega, QG.bin gda gdb (by omega)⟩⟩ | exact ⟨by omega, Or.inr ⟨_, _, th10, cq_eq0 (by omega) ga gb_ (by omega), cmpF_ok gsa (by omega) gsb, by omega, QG.bin gda gdb (by omega)⟩⟩⟩
            · refine z_iconst (pc := 100) (v := 1) dX4_comparisonHolds_100 rfl ?_
              refine z_goto (pc := 101) (tgt := 105) dX4_comparisonHolds_101 (by decide) ?_
              refine z_zret (pc := 105) rfl (by decide) dX4_comparisonHolds_105 ?_
              exact hQ 1 h10 ⟨frh10, ff29h10, by first | exact ⟨by omega, Or.inl ⟨_, th10, cmpF_bad1 gsa⟩⟩ | exact ⟨by omega, Or.inl ⟨_, th10, cmpF_bad2 gsa (by omega)⟩⟩ | exact ⟨by omega, Or.inl ⟨_, th10, cmpF_bad3 gsa (by omega) gsb⟩⟩ | exact ⟨by omega, Or.inr ⟨_, _, th10, cq_lt1 (by omega) ga gb_ (by omega), cmpF_ok gsa (by omega) gsb, by omega, QG.bin gda gdb (by omega)⟩⟩ | exact ⟨by omega, Or.inr ⟨_, _, th10, cq_lt0 (by omega) ga gb_ (by omega), cmpF_ok gsa (by omega) gsb, by omega, QG.bin gda gdb (by omega)⟩⟩ | exact ⟨by omega, Or.inr ⟨_, _, th10, cq_gt1 (by omega) ga gb_ (by omega), cmpF_ok gsa (by omega) gsb, by omega, QG.bin gda gdb (by omega)⟩⟩ | exact ⟨by omega, Or.inr ⟨_, _, th10, cq_gt0 (by omega) ga gb_ (by omega), cmpF_ok gsa (by omega) gsb, by omega, QG.bin gda gdb (by omega)⟩⟩ | exact ⟨by omega, Or.inr ⟨_, _, th10, cq_eq1 (by omega) ga gb_ (by omega), cmpF_ok gsa (by omega) gsb, by omega, QG.bin gda gdb (by omega)⟩⟩ | exact ⟨by omega, Or.inr ⟨_, _, th10, cq_eq0 (by omega) ga gb_ (by omega), cmpF_ok gsa (by omega) gsb, by omega, QG.bin gda gdb (by omega)⟩⟩⟩
          · refine z_iload_n (pc := 82) dX4_comparisonHolds_82 rfl 2 rfl ?_
            refine z_iload_n (pc := 83) dX4_comparisonHolds_83 rfl 0 rfl ?_
            refine z_icmp_le (pc := 84) (tgt := 91) dX4_comparisonHolds_84 (by decide) ⟨by omega, by omega⟩ ⟨by omega, by omega⟩ (fun c14 => ?_) (fun c14 => ?_)
            · refine z_iconst (pc := 91) (v := 0) dX4_comparisonHolds_91 rfl ?_
              refine z_goto (pc := 92) (tgt := 105) dX4_comparisonHolds_92 (by decide) ?_
              refine z_zret (pc := 105) rfl (by decide) dX4_comparisonHolds_105 ?_
              exact hQ 0 h10 ⟨frh10, ff29h10, by first | exact ⟨by omega, Or.inl ⟨_, th10, cmpF_bad1 gsa⟩⟩ | exact ⟨by omega, Or.inl ⟨_, th10, cmpF_bad2 gsa (by omega)⟩⟩ | exact ⟨by omega, Or.inl ⟨_, th10, cmpF_bad3 gsa (by omega) gsb⟩⟩ | exact ⟨by omega, Or.inr ⟨_, _, th10, cq_lt1 (by omega) ga gb_ (by omega), cmpF_ok gsa (by omega) gsb, by omega, QG.bin gda gdb (by omega)⟩⟩ | exact ⟨by omega, Or.inr ⟨_, _, th10, cq_lt0 (by omega) ga gb_ (by omega), cmpF_ok gsa (by omega) gsb, by omega, QG.bin gda gdb (by omega)⟩⟩ | exact ⟨by omega, Or.inr ⟨_, _, th10, cq_gt1 (by omega) ga gb_ (by omega), cmpF_ok gsa (by omega) gsb, by omega, QG.bin gda gdb (by omega)⟩⟩ | exact ⟨by omega, Or.inr ⟨_, _, th10, cq_gt0 (by omega) ga gb_ (by omega), cmpF_ok gsa (by omega) gsb, by omega, QG.bin gda gdb (by omega)⟩⟩ | exact ⟨by omega, Or.inr ⟨_, _, th10, cq_eq1 (by omega) ga gb_ (by omega), cmpF_ok gsa (by omega) gsb, by omega, QG.bin gda gdb (by omega)⟩⟩ | exact ⟨by omega, Or.inr ⟨_, _, th10, cq_eq0 (by omega) ga gb_ (by omega), cmpF_ok gsa (by omega) gsb, by omega, QG.bin gda gdb (by omega)⟩⟩⟩
            · refine z_iconst (pc := 87) (v := 1) dX4_comparisonHolds_87 rfl ?_
              refine z_goto (pc := 88) (tgt := 105) dX4_comparisonHolds_88 (by decide) ?_
              refine z_zret (pc := 105) rfl (by decide) dX4_comparisonHolds_105 ?_
              exact hQ 1 h10 ⟨frh10, ff29h10, by first | exact ⟨by omega, Or.inl ⟨_, th10, cmpF_bad1 gsa⟩⟩ | exact ⟨by omega, Or.inl ⟨_, th10, cmpF_bad2 gsa (by omega)⟩⟩ | exact ⟨by omega, Or.inl ⟨_, th10, cmpF_bad3 gsa (by omega) gsb⟩⟩ | exact ⟨by omega, Or.inr ⟨_, _, th10, cq_lt1 (by omega) ga gb_ (by omega), cmpF_ok gsa (by omega) gsb, by omega, QG.bin gda gdb (by omega)⟩⟩ | exact ⟨by omega, Or.inr ⟨_, _, th10, cq_lt0 (by omega) ga gb_ (by omega), cmpF_ok gsa (by omega) gsb, by omega, QG.bin gda gdb (by omega)⟩⟩ | exact ⟨by omega, Or.inr ⟨_, _, th10, cq_gt1 (by omega) ga gb_ (by omega), cmpF_ok gsa (by omega) gsb, by omega, QG.bin gda gdb (by omega)⟩⟩ | exact ⟨by omega, Or.inr ⟨_, _, th10, cq_gt0 (by omega) ga gb_ (by omega), cmpF_ok gsa (by omega) gsb, by omega, QG.bin gda gdb (by omega)⟩⟩ | exact ⟨by omega, Or.inr ⟨_, _, th10, cq_eq1 (by omega) ga gb_ (by omega), cmpF_ok gsa (by omega) gsb, by omega, QG.bin gda gdb (by omega)⟩⟩ | exact ⟨by omega, Or.inr ⟨_, _, th10, cq_eq0 (by omega) ga gb_ (by omega), cmpF_ok gsa (by omega) gsb, by omega, QG.bin gda gdb (by omega)⟩⟩⟩
        · refine z_iload_n (pc := 64) dX4_comparisonHolds_64 rfl 2 rfl ?_
          refine z_iload_n (pc := 65) dX4_comparisonHolds_65 rfl 0 rfl ?_
          refine z_icmp_ge (pc := 66) (tgt := 73) dX4_comparisonHolds_66 (by decide) ⟨by omega, by omega⟩ ⟨by omega, by omega⟩ (fun c15 => ?_) (fun c15 => ?_)
          · refine z_iconst (pc := 73) (v := 0) dX4_comparisonHolds_73 rfl ?_
            refine z_zret (pc := 74) rfl (by decide) dX4_comparisonHolds_74 ?_
            exact hQ 0 h10 ⟨frh10, ff29h10, by first | exact ⟨by omega, Or.inl ⟨_, th10, cmpF_bad1 gsa⟩⟩ | exact ⟨by omega, Or.inl ⟨_, th10, cmpF_bad2 gsa (by omega)⟩⟩ | exact ⟨by omega, Or.inl ⟨_, th10, cmpF_bad3 gsa (by omega) gsb⟩⟩ | exact ⟨by omega, Or.inr ⟨_, _, th10, cq_lt1 (by omega) ga gb_ (by omega), cmpF_ok gsa (by omega) gsb, by omega, QG.bin gda gdb (by omega)⟩⟩ | exact ⟨by omega, Or.inr ⟨_, _, th10, cq_lt0 (by omega) ga gb_ (by omega), cmpF_ok gsa (by omega) gsb, by omega, QG.bin gda gdb (by omega)⟩⟩ | exact ⟨by omega, Or.inr ⟨_, _, th10, cq_gt1 (by omega) ga gb_ (by omega), cmpF_ok gsa (by omega) gsb, by omega, QG.bin gda gdb (by omega)⟩⟩ | exact ⟨by omega, Or.inr ⟨_, _, th10, cq_gt0 (by omega) ga gb_ (by omega), cmpF_ok gsa (by omega) gsb, by omega, QG.bin gda gdb (by omega)⟩⟩ | exact ⟨by omega, Or.inr ⟨_, _, th10, cq_eq1 (by omega) ga gb_ (by omega), cmpF_ok gsa (by omega) gsb, by omega, QG.bin gda gdb (by omega)⟩⟩ | exact ⟨by omega, Or.inr ⟨_, _, th10, cq_eq0 (by omega) ga gb_ (by omega), cmpF_ok gsa (by omega) gsb, by omega, QG.bin gda gdb (by omega)⟩⟩⟩
          · refine z_iconst (pc := 69) (v := 1) dX4_comparisonHolds_69 rfl ?_
            refine z_goto (pc := 70) (tgt := 74) dX4_comparisonHolds_70 (by decide) ?_
            refine z_zret (pc := 74) rfl (by decide) dX4_comparisonHolds_74 ?_
            exact hQ 1 h10 ⟨frh10, ff29h10, by first | exact ⟨by omega, Or.inl ⟨_, th10, cmpF_bad1 gsa⟩⟩ | exact ⟨by omega, Or.inl ⟨_, th10, cmpF_bad2 gsa (by omega)⟩⟩ | exact ⟨by omega, Or.inl ⟨_, th10, cmpF_bad3 gsa (by omega) gsb⟩⟩ | exact ⟨by omega, Or.inr ⟨_, _, th10, cq_lt1 (by omega) ga gb_ (by omega), cmpF_ok gsa (by omega) gsb, by omega, QG.bin gda gdb (by omega)⟩⟩ | exact ⟨by omega, Or.inr ⟨_, _, th10, cq_lt0 (by omega) ga gb_ (by omega), cmpF_ok gsa (by omega) gsb, by omega, QG.bin gda gdb (by omega)⟩⟩ | exact ⟨by omega, Or.inr ⟨_, _, th10, cq_gt1 (by omega) ga gb_ (by omega), cmpF_ok gsa (by omega) gsb, by omega, QG.bin gda gdb (by omega)⟩⟩ | exact ⟨by omega, Or.inr ⟨_, _, th10, cq_gt0 (by omega) ga gb_ (by omega), cmpF_ok gsa (by omega) gsb, by omega, QG.bin gda gdb (by omega)⟩⟩ | exact ⟨by omega, Or.inr ⟨_, _, th10, cq_eq1 (by omega) ga gb_ (by omega), cmpF_ok gsa (by omega) gsb, by omega, QG.bin gda gdb (by omega)⟩⟩ | exact ⟨by omega, Or.inr ⟨_, _, th10, cq_eq0 (by omega) ga gb_ (by omega), cmpF_ok gsa (by omega) gsb, by omega, QG.bin gda gdb (by omega)⟩⟩⟩
      · have cmh10 := th10.2.1
        have gb_ := geh10
        have gsb := gsh10
        have gcb := gch10
        have gdb := gdh10
        have tbb := tbh10
        refine z_istore_n (pc := 56) (lv' := [(3, AI v9), (2, AR (ec v5)), (1, AI v1), (0, AR 36)]) dX4_comparisonHolds_56 rfl (by decide) rfl ?_
        refine z_aload_n (pc := 57) (x := (ec v5)) dX4_comparisonHolds_57 rfl 1 rfl ?_
        refine z_getstE (pc := 58) (i := 6) (z := 6) (by decide) rfl (List.mem_cons_of_mem _ (iw33 _ (List.mem_of_getElem? (i := 1) rfl))) dX4_comparisonHolds_58 ?_
        refine z_acmp_ne (pc := 61) (tgt := 75) dX4_comparisonHolds_61 (by decide) (by omega) (by omega) (fun c16 => ?_) (fun c16 => ?_)
        · refine z_aload_n (pc := 75) (x := (ec v5)) dX4_comparisonHolds_75 rfl 1 rfl ?_
          refine z_getstE (pc := 76) (i := 8) (z := 8) (by decide) rfl (List.mem_cons_of_mem _ (iw33 _ (List.mem_of_getElem? (i := 3) rfl))) dX4_comparisonHolds_76 ?_
          refine z_acmp_ne (pc := 79) (tgt := 95) dX4_comparisonHolds_79 (by decide) (by omega) (by omega) (fun c17 => ?_) (fun c17 => ?_)
          · refine z_iload_n (pc := 95) dX4_comparisonHolds_95 rfl 2 rfl ?_
            refine z_iload_n (pc := 96) dX4_comparisonHolds_96 rfl 0 rfl ?_
            refine z_icmp_ne (pc := 97) (tgt := 104) dX4_comparisonHolds_97 (by decide) ⟨by omega, by omega⟩ ⟨by omega, by omega⟩ (fun c18 => ?_) (fun c18 => ?_)
            · refine z_iconst (pc := 104) (v := 0) dX4_comparisonHolds_104 rfl ?_
              refine z_zret (pc := 105) rfl (by decide) dX4_comparisonHolds_105 ?_
              exact hQ 0 h10 ⟨frh10, ff29h10, by first | exact ⟨by omega, Or.inl ⟨_, th10, cmpF_bad1 gsa⟩⟩ | exact ⟨by omega, Or.inl ⟨_, th10, cmpF_bad2 gsa (by omega)⟩⟩ | exact ⟨by omega, Or.inl ⟨_, th10, cmpF_bad3 gsa (by omega) gsb⟩⟩ | exact ⟨by omega, Or.inr ⟨_, _, th10, cq_lt1 (by omega) ga gb_ (by omega), cmpF_ok gsa (by omega) gsb, by omega, QG.bin gda gdb (by omega)⟩⟩ | exact ⟨by omega, Or.inr ⟨_, _, th10, cq_lt0 (by omega) ga gb_ (by omega), cmpF_ok gsa (by omega) gsb, by omega, QG.bin gda gdb (by omega)⟩⟩ | exact ⟨by omega, Or.inr ⟨_, _, th10, cq_gt1 (by omega) ga gb_ (by omega), cmpF_ok gsa (by omega) gsb, by omega, QG.bin gda gdb (by omega)⟩⟩ | exact ⟨by omega, Or.inr ⟨_, _, th10, cq_gt0 (by omega) ga gb_ (by omega), cmpF_ok gsa (by omega) gsb, by omega, QG.bin gda gdb (by omega)⟩⟩ | exact ⟨by omega, Or.inr ⟨_, _, th10, cq_eq1 (by omega) ga gb_ (by omega), cmpF_ok gsa (by omega) gsb, by omega, QG.bin gda gdb (by omega)⟩⟩ | exact ⟨by omega, Or.inr ⟨_, _, th10, cq_eq0 (by omega) ga gb_ (by omega), cmpF_ok gsa (by omega) gsb, by omega, QG.bin gda gdb (by omega)⟩⟩⟩
            · refine z_iconst (pc := 100) (v := 1) dX4_comparisonHolds_100 rfl ?_
              refine z_goto (pc := 101) (tgt := 105) dX4_comparisonHolds_101 (by decide) ?_
              refine z_zret (pc := 105) rfl (by decide) dX4_comparisonHolds_105 ?_
              exact hQ 1 h10 ⟨frh10, ff29h10, by first | exact ⟨by omega, Or.inl ⟨_, th10, cmpF_bad1 gsa⟩⟩ | exact ⟨by omega, Or.inl ⟨_, th10, cmpF_bad2 gsa (by omega)⟩⟩ | exact ⟨by omega, Or.inl ⟨_, th10, cmpF_bad3 gsa (by omega) gsb⟩⟩ | exact ⟨by omega, Or.inr ⟨_, _, th10, cq_lt1 (by omega) ga gb_ (by omega), cmpF_ok gsa (by omega) gsb, by omega, QG.bin gda gdb (by omega)⟩⟩ | exact ⟨by omega, Or.inr ⟨_, _, th10, cq_lt0 (by omega) ga gb_ (by omega), cmpF_ok gsa (by omega) gsb, by omega, QG.bin gda gdb (by omega)⟩⟩ | exact ⟨by omega, Or.inr ⟨_, _, th10, cq_gt1 (by omega) ga gb_ (by omega), cmpF_ok gsa (by omega) gsb, by omega, QG.bin gda gdb (by omega)⟩⟩ | exact ⟨by omega, Or.inr ⟨_, _, th10, cq_gt0 (by omega) ga gb_ (by omega), cmpF_ok gsa (by omega) gsb, by omega, QG.bin gda gdb (by omega)⟩⟩ | exact ⟨by omega, Or.inr ⟨_, _, th10, cq_eq1 (by omega) ga gb_ (by omega), cmpF_ok gsa (by omega) gsb, by omega, QG.bin gda gdb (by omega)⟩⟩ | exact ⟨by omega, Or.inr ⟨_, _, th10, cq_eq0 (by omega) ga gb_ (by omega), cmpF_ok gsa (by omega) gsb, by omega, QG.bin gda gdb (by omega)⟩⟩⟩
          · refine z_iload_n (pc := 82) dX4_comparisonHolds_82 rfl 2 rfl ?_
            refine z_iload_n (pc := 83) dX4_comparisonHolds_83 rfl 0 rfl ?_
            refine z_icmp_le (pc := 84) (tgt := 91) dX4_comparisonHolds_84 (by decide) ⟨by omega, by omega⟩ ⟨by omega, by omega⟩ (fun c19 => ?_) (fun c19 => ?_)
            · refine z_iconst (pc := 91) (v := 0) dX4_comparisonHolds_91 rfl ?_
              refine z_goto (pc := 92) (tgt := 105) dX4_comparisonHolds_92 (by decide) ?_
              refine z_zret (pc := 105) rfl (by decide) dX4_comparisonHolds_105 ?_
              exact hQ 0 h10 ⟨frh10, ff29h10, by first | exact ⟨by omega, Or.inl ⟨_, th10, cmpF_bad1 gsa⟩⟩ | exact ⟨by omega, Or.inl ⟨_, th10, cmpF_bad2 gsa (by omega)⟩⟩ | exact ⟨by omega, Or.inl ⟨_, th10, cmpF_bad3 gsa (by omega) gsb⟩⟩ | exact ⟨by omega, Or.inr ⟨_, _, th10, cq_lt1 (by omega) ga gb_ (by omega), cmpF_ok gsa (by omega) gsb, by omega, QG.bin gda gdb (by omega)⟩⟩ | exact ⟨by omega, Or.inr ⟨_, _, th10, cq_lt0 (by omega) ga gb_ (by omega), cmpF_ok gsa (by omega) gsb, by omega, QG.bin gda gdb (by omega)⟩⟩ | exact ⟨by omega, Or.inr ⟨_, _, th10, cq_gt1 (by omega) ga gb_ (by omega), cmpF_ok gsa (by omega) gsb, by omega, QG.bin gda gdb (by omega)⟩⟩ | exact ⟨by omega, Or.inr ⟨_, _, th10, cq_gt0 (by omega) ga gb_ (by omega), cmpF_ok gsa (by omega) gsb, by omega, QG.bin gda gdb (by omega)⟩⟩ | exact ⟨by omega, Or.inr ⟨_, _, th10, cq_eq1 (by omega) ga gb_ (by omega), cmpF_ok gsa (by omega) gsb, by omega, QG.bin gda gdb (by omega)⟩⟩ | exact ⟨by omega, Or.inr ⟨_, _, th10, cq_eq0 (by omega) ga gb_ (by omega), cmpF_ok gsa (by omega) gsb, by omega, QG.bin gda gdb (by omega)⟩⟩⟩
            · refine z_iconst (pc := 87) (v := 1) dX4_comparisonHolds_87 rfl ?_
              refine z_goto (pc := 88) (tgt := 105) dX4_comparisonHolds_88 (by decide) ?_
              refine z_zret (pc := 105) rfl (by decide) dX4_comparisonHolds_105 ?_
              exact hQ 1 h10 ⟨frh10, ff29h10, by first | exact ⟨by omega, Or.inl ⟨_, th10, cmpF_bad1 gsa⟩⟩ | exact ⟨by omega, Or.inl ⟨_, th10, cmpF_bad2 gsa (by omega)⟩⟩ | exact ⟨by omega, Or.inl ⟨_, th10, cmpF_bad3 gsa (by omega) gsb⟩⟩ | exact ⟨by omega, Or.inr ⟨_, _, th10, cq_lt1 (by omega) ga gb_ (by omega), cmpF_ok gsa (by omega) gsb, by omega, QG.bin gda gdb (by omega)⟩⟩ | exact ⟨by omega, Or.inr ⟨_, _, th10, cq_lt0 (by omega) ga gb_ (by omega), cmpF_ok gsa (by omega) gsb, by omega, QG.bin gda gdb (by omega)⟩⟩ | exact ⟨by omega, Or.inr ⟨_, _, th10, cq_gt1 (by omega) ga gb_ (by omega), cmpF_ok gsa (by omega) gsb, by omega, QG.bin gda gdb (by omega)⟩⟩ | exact ⟨by omega, Or.inr ⟨_, _, th10, cq_gt0 (by omega) ga gb_ (by omega), cmpF_ok gsa (by omega) gsb, by omega, QG.bin gda gdb (by omega)⟩⟩ | exact ⟨by omega, Or.inr ⟨_, _, th10, cq_eq1 (by omega) ga gb_ (by omega), cmpF_ok gsa (by omega) gsb, by omega, QG.bin gda gdb (by omega)⟩⟩ | exact ⟨by omega, Or.inr ⟨_, _, th10, cq_eq0 (by omega) ga gb_ (by omega), cmpF_ok gsa (by omega) gsb, by omega, QG.bin gda gdb (by omega)⟩⟩⟩
        · refine z_iload_n (pc := 64) dX4_comparisonHolds_64 rfl 2 rfl ?_
          refine z_iload_n (pc := 65) dX4_comparisonHolds_65 rfl 0 rfl ?_
          refine z_icmp_ge (pc := 66) (tgt := 73) dX4_comparisonHolds_66 (by decide) ⟨by omega, by omega⟩ ⟨by omega, by omega⟩ (fun c20 => ?_) (fun c20 => ?_)
          · refine z_iconst (pc := 73) (v := 0) dX4_comparisonHolds_73 rfl ?_
            refine z_zret (pc := 74) rfl (by decide) dX4_comparisonHolds_74 ?_
            exact hQ 0 h10 ⟨frh10, ff29h10, by first | exact ⟨by omega, Or.inl ⟨_, th10, cmpF_bad1 gsa⟩⟩ | exact ⟨by omega, Or.inl ⟨_, th10, cmpF_bad2 gsa (by omega)⟩⟩ | exact ⟨by omega, Or.inl ⟨_, th10, cmpF_bad3 gsa (by omega) gsb⟩⟩ | exact ⟨by omega, Or.inr ⟨_, _, th10, cq_lt1 (by omega) ga gb_ (by omega), cmpF_ok gsa (by omega) gsb, by omega, QG.bin gda gdb (by omega)⟩⟩ | exact ⟨by omega, Or.inr ⟨_, _, th10, cq_lt0 (by omega) ga gb_ (by omega), cmpF_ok gsa (by omega) gsb, by omega, QG.bin gda gdb (by omega)⟩⟩ | exact ⟨by omega, Or.inr ⟨_, _, th10, cq_gt1 (by omega) ga gb_ (by omega), cmpF_ok gsa (by omega) gsb, by omega, QG.bin gda gdb (by omega)⟩⟩ | exact ⟨by omega, Or.inr ⟨_, _, th10, cq_gt0 (by omega) ga gb_ (by omega), cmpF_ok gsa (by omega) gsb, by omega, QG.bin gda gdb (by omega)⟩⟩ | exact ⟨by omega, Or.inr ⟨_, _, th10, cq_eq1 (by omega) ga gb_ (by omega), cmpF_ok gsa (by omega) gsb, by omega, QG.bin gda gdb (by omega)⟩⟩ | exact ⟨by omega, Or.inr ⟨_, _, th10, cq_eq0 (by omega) ga gb_ (by omega), cmpF_ok gsa (by omega) gsb, by omega, QG.bin gda gdb (by omega)⟩⟩⟩
          · refine z_iconst (pc := 69) (v := 1) dX4_comparisonHolds_69 rfl ?_
            refine z_goto (pc := 70) (tgt := 74) dX4_comparisonHolds_70 (by decide) ?_
            refine z_zret (pc := 74) rfl (by decide) dX4_comparisonHolds_74 ?_
            exact hQ 1 h10 ⟨frh10, ff29h10, by first | exact ⟨by omega, Or.inl ⟨_, th10, cmpF_bad1 gsa⟩⟩ | exact ⟨by omega, Or.inl ⟨_, th10, cmpF_bad2 gsa (by omega)⟩⟩ | exact ⟨by omega, Or.inl ⟨_, th10, cmpF_bad3 gsa (by omega) gsb⟩⟩ | exact ⟨by omega, Or.inr ⟨_, _, th10, cq_lt1 (by omega) ga gb_ (by omega), cmpF_ok gsa (by omega) gsb, by omega, QG.bin gda gdb (by omega)⟩⟩ | exact ⟨by omega, Or.inr ⟨_, _, th10, cq_lt0 (by omega) ga gb_ (by omega), cmpF_ok gsa (by omega) gsb, by omega, QG.bin gda gdb (by omega)⟩⟩ | exact ⟨by omega, Or.inr ⟨_, _, th10, cq_gt1 (by omega) ga gb_ (by omega), cmpF_ok gsa (by omega) gsb, by omega, QG.bin gda gdb (by omega)⟩⟩ | exact ⟨by omega, Or.inr ⟨_, _, th10, cq_gt0 (by omega) ga gb_ (by omega), cmpF_ok gsa (by omega) gsb, by omega, QG.bin gda gdb (by omega)⟩⟩ | exact ⟨by omega, Or.inr ⟨_, _, th10, cq_eq1 (by omega) ga gb_ (by omega), cmpF_ok gsa (by omega) gsb, by omega, QG.bin gda gdb (by omega)⟩⟩ | exact ⟨by omega, Or.inr ⟨_, _, th10, cq_eq0 (by omega) ga gb_ (by omega), cmpF_ok gsa (by omega) gsb, by omega, QG.bin gda gdb (by omega)⟩⟩⟩
    · refine z_aload_n (pc := 20) (x := (ec v5)) dX4_comparisonHolds_20 rfl 0 rfl ?_
      refine z_getstE (pc := 21) (i := 7) (z := 7) (by decide) rfl (List.mem_cons_of_mem _ (iw33 _ (List.mem_of_getElem? (i := 2) rfl))) dX4_comparisonHolds_21 ?_
      refine z_acmp_eq (pc := 24) (tgt := 44) dX4_comparisonHolds_24 (by decide) (by omega) (by omega) (fun c21 => ?_) (fun c21 => ?_)
      · refine z_aload_n (pc := 44) (x := 36) dX4_comparisonHolds_44 rfl 2 rfl ?_
        refine z_getR (pc := 45) (pl := 35) (f := 0) (ci := 4) (C := RX4) (T := TX4) (N := 5) hu_X4 (by decide) rfl rfl (by decide) rfl (List.mem_cons_of_mem _ (iw4 _ (List.mem_of_getElem? (i := 19) rfl))) rfl dX4_comparisonHolds_45 ?_
        refine z_callV (pc := 48) (kc := kX6_pass) (n := 0) (pl := 29) (ci := 5) (C := RX6) (As := []) (stk := []) ct_X6_pass_TS (gdV rfl rfl (iw32 _ (List.mem_of_getElem? (i := 1) rfl)) (iw23 _ (List.mem_of_getElem? (i := 5) rfl)) (iw23 _ (List.mem_of_getElem? (i := 6) rfl)) (iw2 _ (List.mem_of_getElem? (i := 4) rfl)) (iw23 _ (List.mem_of_getElem? (i := 7) rfl))) rfl ⟨rfl, rfl⟩ (by decide +kernel) ⟨by decide, by decide⟩ (by decide) rfl rfl dX4_comparisonHolds_48 rfl rfl (Nat.le_of_ble_eq_true rfl) ?_
        refine ⟨S, P, V, m, ch2, rfl, ⟨th2, by omega⟩, fun v22 h23 eh23 => ?_⟩
        have frh23 : Fr [29] hi h23 := (Fr.call frh2 eh23.1 (by decide))
        have ff29h23 : FF 29 [6, 7, 8] hi h23 := FF.call ff29h2 (eh23.2.1) (by decide)
        have eph23 := eh23.2.2
        replace eh23 := And.intro eh23.1 (And.intro eh23.2.1 trivial)
        obtain ⟨gh23, th23⟩ := eph23
        refine z_pop (pc := 51) dX4_comparisonHolds_51 rfl ?_
        refine z_aload_n (pc := 52) (x := 36) dX4_comparisonHolds_52 rfl 2 rfl ?_
        refine z_callV (pc := 53) (kc := kX4_total) (n := 0) (pl := 35) (ci := 4) (C := RX4) (As := []) (stk := []) ct_X4_total_TS (gdV rfl rfl (iw33 _ (List.mem_of_getElem? (i := 4) rfl)) (iw33 _ (List.mem_of_getElem? (i := 5) rfl)) (iw33 _ (List.mem_of_getElem? (i := 6) rfl)) (iw2 _ (List.mem_of_getElem? (i := 12) rfl)) (iw33 _ (List.mem_of_getElem? (i := 7) rfl))) rfl ⟨rfl, rfl⟩ (by decide +kernel) ⟨by decide, by decide⟩ (by decide) rfl rfl dX4_comparisonHolds_53 rfl rfl (Nat.le_of_ble_eq_true rfl) ?_
        refine ⟨S, P, V, m, (ch2 + 1), rfl, ⟨th23, by rw [(congrFun (eh23.1 35 (by decide)) 3 : h23 35 3 = h2 35 3), (congrFun (eh2.1 35 (by decide)) 3 : h2 35 3 = hi 35 3), (eh23.1 36 (by decide) : h23 36 = h2 36), (eh2.1 36 (by decide) : h2 36 = hi 36)]; exact ⟨ho, hph, hV⟩⟩, fun v24 h25 eh25 => ?_⟩
        have frh25 : Fr [29] hi h25 := (Fr.call frh23 eh25.1 (by decide))
        have ff29h25 : FF 29 [6, 7, 8] hi h25 := FF.call ff29h23 (eh25.2.1) (by decide)
        rw [(congrFun (eh23.1 35 (by decide)) 3 : h23 35 3 = h2 35 3), (congrFun (eh2.1 35 (by decide)) 3 : h2 35 3 = hi 35 3)] at eh25
        rw [(eh23.1 36 (by decide) : h23 36 = h2 36), (eh2.1 36 (by decide) : h2 36 = hi 36)] at eh25
        have eph25 := eh25.2.2
        replace eh25 := And.intro eh25.1 (And.intro eh25.2.1 trivial)
        obtain ⟨tbh25, eph25⟩ := eph25
        rcases eph25 with ⟨ph25, th25, gsh25⟩ | ⟨ch25, gh25, th25, geh25, gsh25, gch25, gdh25⟩
        · have gsb := gsh25
          have tbb := tbh25
          refine z_istore_n (pc := 56) (lv' := [(3, AI v24), (2, AR (ec v5)), (1, AI v1), (0, AR 36)]) dX4_comparisonHolds_56 rfl (by decide) rfl ?_
          refine z_aload_n (pc := 57) (x := (ec v5)) dX4_comparisonHolds_57 rfl 1 rfl ?_
          refine z_getstE (pc := 58) (i := 6) (z := 6) (by decide) rfl (List.mem_cons_of_mem _ (iw33 _ (List.mem_of_getElem? (i := 1) rfl))) dX4_comparisonHolds_58 ?_
          refine z_acmp_ne (pc := 61) (tgt := 75) dX4_comparisonHolds_61 (by decide) (by omega) (by omega) (fun c26 => ?_) (fun c26 => ?_)
          · refine z_aload_n (pc := 75) (x := (ec v5)) dX4_comparisonHolds_75 rfl 1 rfl ?_
            refine z_getstE (pc := 76) (i := 8) (z := 8) (by decide) rfl (List.mem_cons_of_mem _ (iw33 _ (List.mem_of_getElem? (i := 3) rfl))) dX4_comparisonHolds_76 ?_
            refine z_acmp_ne (pc := 79) (tgt := 95) dX4_comparisonHolds_79 (by decide) (by omega) (by omega) (fun c27 => ?_) (fun c27 => ?_)
            · refine z_iload_n (pc := 95) dX4_comparisonHolds_95 rfl 2 rfl ?_
              refine z_iload_n (pc := 96) dX4_comparisonHolds_96 rfl 0 rfl ?_
              refine z_icmp_ne (pc := 97) (tgt := 104) dX4_comparisonHolds_97 (by decide) ⟨by omega, by omega⟩ ⟨by omega, by omega⟩ (fun c28 => ?_) (fun c28 => ?_)
              · refine z_iconst (pc := 104) (v := 0) dX4_comparisonHolds_104 rfl ?_
                refine z_zret (pc := 105) rfl (by decide) dX4_comparisonHolds_105 ?_
                exact hQ 0 h25 ⟨frh25, ff29h25, by first | exact ⟨by omega, Or.inl ⟨_, th25, cmpF_bad1 gsa⟩⟩ | exact ⟨by omega, Or.inl ⟨_, th25, cmpF_bad2 gsa (by omega)⟩⟩ | exact ⟨by omega, Or.inl ⟨_, th25, cmpF_bad3 gsa (by omega) gsb⟩⟩ | exact ⟨by omega, Or.inr ⟨_, _, th25, cq_lt1 (by omega) ga gb_ (by omega), cmpF_ok gsa (by omega) gsb, by omega, QG.bin gda gdb (by omega)⟩⟩ | exact ⟨by omega, Or.inr ⟨_, _, th25, cq_lt0 (by omega) ga gb_ (by omega), cmpF_ok gsa (by omega) gsb, by omega, QG.bin gda gdb (by omega)⟩⟩ | exact ⟨by omega, Or.inr ⟨_, _, th25, cq_gt1 (by omega) ga gb_ (by omega), cmpF_ok gsa (by omega) gsb, by omega, QG.bin gda gdb (by omega)⟩⟩ | exact ⟨by omega, Or.inr ⟨_, _, th25, cq_gt0 (by omega) ga gb_ (by omega), cmpF_ok gsa (by omega) gsb, by omega, QG.bin gda gdb (by omega)⟩⟩ | exact ⟨by omega, Or.inr ⟨_, _, th25, cq_eq1 (by omega) ga gb_ (by omega), cmpF_ok gsa (by omega) gsb, by omega, QG.bin gda gdb (by omega)⟩⟩ | exact ⟨by omega, Or.inr ⟨_, _, th25, cq_eq0 (by omega) ga gb_ (by omega), cmpF_ok gsa (by omega) gsb, by omega, QG.bin gda gdb (by omega)⟩⟩⟩
              · refine z_iconst (pc := 100) (v := 1) dX4_comparisonHolds_100 rfl ?_
                refine z_goto (pc := 101) (tgt := 105) dX4_comparisonHolds_101 (by decide) ?_
                refine z_zret (pc := 105) rfl (by decide) dX4_comparisonHolds_105 ?_
                exact hQ 1 h25 ⟨frh25, ff29h25, by first | exact ⟨by omega, Or.inl ⟨_, th25, cmpF_bad1 gsa⟩⟩ | exact ⟨by omega, Or.inl ⟨_, th25, cmpF_bad2 gsa (by omega)⟩⟩ | exact ⟨by omega, Or.inl ⟨_, th25, cmpF_bad3 gsa (by omega) gsb⟩⟩ | exact ⟨by omega, Or.inr ⟨_, _, th25, cq_lt1 (by omega) ga gb_ (by omega), cmpF_ok gsa (by omega) gsb, by omega, QG.bin gda gdb (by omega)⟩⟩ | exact ⟨by omega, Or.inr ⟨_, _, th25, cq_lt0 (by omega) ga gb_ (by omega), cmpF_ok gsa (by omega) gsb, by omega, QG.bin gda gdb (by omega)⟩⟩ | exact ⟨by omega, Or.inr ⟨_, _, th25, cq_gt1 (by omega) ga gb_ (by omega), cmpF_ok gsa (by omega) gsb, by omega, QG.bin gda gdb (by omega)⟩⟩ | exact ⟨by omega, Or.inr ⟨_, _, th25, cq_gt0 (by omega) ga gb_ (by omega), cmpF_ok gsa (by omega) gsb, by omega, QG.bin gda gdb (by omega)⟩⟩ | exact ⟨by omega, Or.inr ⟨_, _, th25, cq_eq1 (by omega) ga gb_ (by omega), cmpF_ok gsa (by omega) gsb, by omega, QG.bin gda gdb (by omega)⟩⟩ | exact ⟨by omega, Or.inr ⟨_, _, th25, cq_eq0 (by omega) ga gb_ (by omega), cmpF_ok gsa (by omega) gsb, by omega, QG.bin gda gdb (by omega)⟩⟩⟩
            · refine z_iload_n (pc := 82) dX4_comparisonHolds_82 rfl 2 rfl ?_
              refine z_iload_n (pc := 83) dX4_comparisonHolds_83 rfl 0 rfl ?_
              refine z_icmp_le (pc := 84) (tgt := 91) dX4_comparisonHolds_84 (by decide) ⟨by omega, by omega⟩ ⟨by omega, by omega⟩ (fun c29 => ?_) (fun c29 => ?_)
              · refine z_iconst (pc := 91) (v := 0) dX4_comparisonHolds_91 rfl ?_
                refine z_goto (pc := 92) (tgt := 105) dX4_comparisonHolds_92 (by decide) ?_
                refine z_zret (pc := 105) rfl (by decide) dX4_comparisonHolds_105 ?_
                exact hQ 0 h25 ⟨frh25, ff29h25, by first | exact ⟨by omega, Or.inl ⟨_, th25, cmpF_bad1 gsa⟩⟩ | exact ⟨by omega, Or.inl ⟨_, th25, cmpF_bad2 gsa (by omega)⟩⟩ | exact ⟨by omega, Or.inl ⟨_, th25, cmpF_bad3 gsa (by omega) gsb⟩⟩ | exact ⟨by omega, Or.inr ⟨_, _, th25, cq_lt1 (by omega) ga gb_ (by omega), cmpF_ok gsa (by omega) gsb, by omega, QG.bin gda gdb (by omega)⟩⟩ | exact ⟨by omega, Or.inr ⟨_, _, th25, cq_lt0 (by omega) ga gb_ (by omega), cmpF_ok gsa (by omega) gsb, by omega, QG.bin gda gdb (by omega)⟩⟩ | exact ⟨by omega, Or.inr ⟨_, _, th25, cq_gt1 (by omega) ga gb_ (by omega), cmpF_ok gsa (by omega) gsb, by omega, QG.bin gda gdb (by omega)⟩⟩ | exact ⟨by omega, Or.inr ⟨_, _, th25, cq_gt0 (by omega) ga gb_ (by omega), cmpF_ok gsa (by omega) gsb, by omega, QG.bin gda gdb (by omega)⟩⟩ | exact ⟨by omega, Or.inr ⟨_, _, th25, cq_eq1 (by omega) ga gb_ (by omega), cmpF_ok gsa (by omega) gsb, by omega, QG.bin gda gdb (by omega)⟩⟩ | exact ⟨by omega, Or.inr ⟨_, _, th25, cq_eq0 (by omega) ga gb_ (by omega), cmpF_ok gsa (by omega) gsb, by omega, QG.bin gda gdb (by omega)⟩⟩⟩
              · refine z_iconst (pc := 87) (v := 1) dX4_comparisonHolds_87 rfl ?_
                refine z_goto (pc := 88) (tgt := 105) dX4_comparisonHolds_88 (by decide) ?_
                refine z_zret (pc := 105) rfl (by decide) dX4_comparisonHolds_105 ?_
                exact hQ 1 h25 ⟨frh25, ff29h25, by first | exact ⟨by omega, Or.inl ⟨_, th25, cmpF_bad1 gsa⟩⟩ | exact ⟨by omega, Or.inl ⟨_, th25, cmpF_bad2 gsa (by omega)⟩⟩ | exact ⟨by omega, Or.inl ⟨_, th25, cmpF_bad3 gsa (by omega) gsb⟩⟩ | exact ⟨by omega, Or.inr ⟨_, _, th25, cq_lt1 (by omega) ga gb_ (by omega), cmpF_ok gsa (by omega) gsb, by omega, QG.bin gda gdb (by omega)⟩⟩ | exact ⟨by omega, Or.inr ⟨_, _, th25, cq_lt0 (by omega) ga gb_ (by omega), cmpF_ok gsa (by omega) gsb, by omega, QG.bin gda gdb (by omega)⟩⟩ | exact ⟨by omega, Or.inr ⟨_, _, th25, cq_gt1 (by omega) ga gb_ (by omega), cmpF_ok gsa (by omega) gsb, by omega, QG.bin gda gdb (by omega)⟩⟩ | exact ⟨by omega, Or.inr ⟨_, _, th25, cq_gt0 (by omega) ga gb_ (by omega), cmpF_ok gsa (by omega) gsb, by omega, QG.bin gda gdb (by omega)⟩⟩ | exact ⟨by omega, Or.inr ⟨_, _, th25, cq_eq1 (by omega) ga gb_ (by omega), cmpF_ok gsa (by omega) gsb, by omega, QG.bin gda gdb (by omega)⟩⟩ | exact ⟨by omega, Or.inr ⟨_, _, th25, cq_eq0 (by omega) ga gb_ (by omega), cmpF_ok gsa (by omega) gsb, by omega, QG.bin gda gdb (by omega)⟩⟩⟩
          · refine z_iload_n (pc := 64) dX4_comparisonHolds_64 rfl 2 rfl ?_
            refine z_iload_n (pc := 65) dX4_comparisonHolds_65 rfl 0 rfl ?_
            refine z_icmp_ge (pc := 66) (tgt := 73) dX4_comparisonHolds_66 (by decide) ⟨by omega, by omega⟩ ⟨by omega, by omega⟩ (fun c30 => ?_) (fun c30 => ?_)
            · refine z_iconst (pc := 73) (v := 0) dX4_comparisonHolds_73 rfl ?_
              refine z_zret (pc := 74) rfl (by decide) dX4_comparisonHolds_74 ?_
              exact hQ 0 h25 ⟨frh25, ff29h25, by first | exact ⟨by omega, Or.inl ⟨_, th25, cmpF_bad1 gsa⟩⟩ | exact ⟨by omega, Or.inl ⟨_, th25, cmpF_bad2 gsa (by omega)⟩⟩ | exact ⟨by omega, Or.inl ⟨_, th25, cmpF_bad3 gsa (by omega) gsb⟩⟩ | exact ⟨by omega, Or.inr ⟨_, _, th25, cq_lt1 (by omega) ga gb_ (by omega), cmpF_ok gsa (by omega) gsb, by omega, QG.bin gda gdb (by omega)⟩⟩ | exact ⟨by omega, Or.inr ⟨_, _, th25, cq_lt0 (by omega) ga gb_ (by omega), cmpF_ok gsa (by omega) gsb, by omega, QG.bin gda gdb (by omega)⟩⟩ | exact ⟨by omega, Or.inr ⟨_, _, th25, cq_gt1 (by omega) ga gb_ (by omega), cmpF_ok gsa (by omega) gsb, by omega, QG.bin gda gdb (by omega)⟩⟩ | exact ⟨by omega, Or.inr ⟨_, _, th25, cq_gt0 (by omega) ga gb_ (by omega), cmpF_ok gsa (by omega) gsb, by omega, QG.bin gda gdb (by omega)⟩⟩ | exact ⟨by omega, Or.inr ⟨_, _, th25, cq_eq1 (by omega) ga gb_ (by omega), cmpF_ok gsa (by omega) gsb, by omega, QG.bin gda gdb (by omega)⟩⟩ | exact ⟨by omega, Or.inr ⟨_, _, th25, cq_eq0 (by omega) ga gb_ (by omega), cmpF_ok gsa (by omega) gsb, by omega, QG.bin gda gdb (by omega)⟩⟩⟩
            · refine z_iconst (pc := 69) (v := 1) dX4_comparisonHolds_69 rfl ?_
              refine z_goto (pc := 70) (tgt := 74) dX4_comparisonHolds_70 (by decide) ?_
              refine z_zret (pc := 74) rfl (by decide) dX4_comparisonHolds_74 ?_
              exact hQ 1 h25 ⟨frh25, ff29h25, by first | exact ⟨by omega, Or.inl ⟨_, th25, cmpF_bad1 gsa⟩⟩ | exact ⟨by omega, Or.inl ⟨_, th25, cmpF_bad2 gsa (by omega)⟩⟩ | exact ⟨by omega, Or.inl ⟨_, th25, cmpF_bad3 gsa (by omega) gsb⟩⟩ | exact ⟨by omega, Or.inr ⟨_, _, th25, cq_lt1 (by omega) ga gb_ (by omega), cmpF_ok gsa (by omega) gsb, by omega, QG.bin gda gdb (by omega)⟩⟩ | exact ⟨by omega, Or.inr ⟨_, _, th25, cq_lt0 (by omega) ga gb_ (by omega), cmpF_ok gsa (by omega) gsb, by omega, QG.bin gda gdb (by omega)⟩⟩ | exact ⟨by omega, Or.inr ⟨_, _, th25, cq_gt1 (by omega) ga gb_ (by omega), cmpF_ok gsa (by omega) gsb, by omega, QG.bin gda gdb (by omega)⟩⟩ | exact ⟨by omega, Or.inr ⟨_, _, th25, cq_gt0 (by omega) ga gb_ (by omega), cmpF_ok gsa (by omega) gsb, by omega, QG.bin gda gdb (by omega)⟩⟩ | exact ⟨by omega, Or.inr ⟨_, _, th25, cq_eq1 (by omega) ga gb_ (by omega), cmpF_ok gsa (by omega) gsb, by omega, QG.bin gda gdb (by omega)⟩⟩ | exact ⟨by omega, Or.inr ⟨_, _, th25, cq_eq0 (by omega) ga gb_ (by omega), cmpF_ok gsa (by omega) gsb, by omega, QG.bin gda gdb (by omega)⟩⟩⟩
        · have cmh25 := th25.2.1
          have gb_ := geh25
          have gsb := gsh25
          have gcb := gch25
          have gdb := gdh25
          have tbb := tbh25
          refine z_istore_n (pc := 56) (lv' := [(3, AI v24), (2, AR (ec v5)), (1, AI v1), (0, AR 36)]) dX4_comparisonHolds_56 rfl (by decide) rfl ?_
          refine z_aload_n (pc := 57) (x := (ec v5)) dX4_comparisonHolds_57 rfl 1 rfl ?_
          refine z_getstE (pc := 58) (i := 6) (z := 6) (by decide) rfl (List.mem_cons_of_mem _ (iw33 _ (List.mem_of_getElem? (i := 1) rfl))) dX4_comparisonHolds_58 ?_
          refine z_acmp_ne (pc := 61) (tgt := 75) dX4_comparisonHolds_61 (by decide) (by omega) (by omega) (fun c31 => ?_) (fun c31 => ?_)
          · refine z_aload_n (pc := 75) (x := (ec v5)) dX4_comparisonHolds_75 rfl 1 rfl ?_
            refine z_getstE (pc := 76) (i := 8) (z := 8) (by decide) rfl (List.mem_cons_of_mem _ (iw33 _ (List.mem_of_getElem? (i := 3) rfl))) dX4_comparisonHolds_76 ?_
            refine z_acmp_ne (pc := 79) (tgt := 95) dX4_comparisonHolds_79 (by decide) (by omega) (by omega) (fun c32 => ?_) (fun c32 => ?_)
            · refine z_iload_n (pc := 95) dX4_comparisonHolds_95 rfl 2 rfl ?_
              refine z_iload_n (pc := 96) dX4_comparisonHolds_96 rfl 0 rfl ?_
              refine z_icmp_ne (pc := 97) (tgt := 104) dX4_comparisonHolds_97 (by decide) ⟨by omega, by omega⟩ ⟨by omega, by omega⟩ (fun c33 => ?_) (fun c33 => ?_)
              · refine z_iconst (pc := 104) (v := 0) dX4_comparisonHolds_104 rfl ?_
                refine z_zret (pc := 105) rfl (by decide) dX4_comparisonHolds_105 ?_
                exact hQ 0 h25 ⟨frh25, ff29h25, by first | exact ⟨by omega, Or.inl ⟨_, th25, cmpF_bad1 gsa⟩⟩ | exact ⟨by omega, Or.inl ⟨_, th25, cmpF_bad2 gsa (by omega)⟩⟩ | exact ⟨by omega, Or.inl ⟨_, th25, cmpF_bad3 gsa (by omega) gsb⟩⟩ | exact ⟨by omega, Or.inr ⟨_, _, th25, cq_lt1 (by omega) ga gb_ (by omega), cmpF_ok gsa (by omega) gsb, by omega, QG.bin gda gdb (by omega)⟩⟩ | exact ⟨by omega, Or.inr ⟨_, _, th25, cq_lt0 (by omega) ga gb_ (by omega), cmpF_ok gsa (by omega) gsb, by omega, QG.bin gda gdb (by omega)⟩⟩ | exact ⟨by omega, Or.inr ⟨_, _, th25, cq_gt1 (by omega) ga gb_ (by omega), cmpF_ok gsa (by omega) gsb, by omega, QG.bin gda gdb (by omega)⟩⟩ | exact ⟨by omega, Or.inr ⟨_, _, th25, cq_gt0 (by omega) ga gb_ (by omega), cmpF_ok gsa (by omega) gsb, by omega, QG.bin gda gdb (by omega)⟩⟩ | exact ⟨by omega, Or.inr ⟨_, _, th25, cq_eq1 (by omega) ga gb_ (by omega), cmpF_ok gsa (by omega) gsb, by omega, QG.bin gda gdb (by omega)⟩⟩ | exact ⟨by omega, Or.inr ⟨_, _, th25, cq_eq0 (by omega) ga gb_ (by omega), cmpF_ok gsa (by omega) gsb, by omega, QG.bin gda gdb (by omega)⟩⟩⟩
              · refine z_iconst (pc := 100) (v := 1) dX4_comparisonHolds_100 rfl ?_
                refine z_goto (pc := 101) (tgt := 105) dX4_comparisonHolds_101 (by decide) ?_
                refine z_zret (pc := 105) rfl (by decide) dX4_comparisonHolds_105 ?_
                exact hQ 1 h25 ⟨frh25, ff29h25, by first | exact ⟨by omega, Or.inl ⟨_, th25, cmpF_bad1 gsa⟩⟩ | exact ⟨by omega, Or.inl ⟨_, th25, cmpF_bad2 gsa (by omega)⟩⟩ | exact ⟨by omega, Or.inl ⟨_, th25, cmpF_bad3 gsa (by omega) gsb⟩⟩ | exact ⟨by omega, Or.inr ⟨_, _, th25, cq_lt1 (by omega) ga gb_ (by omega), cmpF_ok gsa (by omega) gsb, by omega, QG.bin gda gdb (by omega)⟩⟩ | exact ⟨by omega, Or.inr ⟨_, _, th25, cq_lt0 (by omega) ga gb_ (by omega), cmpF_ok gsa (by omega) gsb, by omega, QG.bin gda gdb (by omega)⟩⟩ | exact ⟨by omega, Or.inr ⟨_, _, th25, cq_gt1 (by omega) ga gb_ (by omega), cmpF_ok gsa (by omega) gsb, by omega, QG.bin gda gdb (by omega)⟩⟩ | exact ⟨by omega, Or.inr ⟨_, _, th25, cq_gt0 (by omega) ga gb_ (by omega), cmpF_ok gsa (by omega) gsb, by omega, QG.bin gda gdb (by omega)⟩⟩ | exact ⟨by omega, Or.inr ⟨_, _, th25, cq_eq1 (by omega) ga gb_ (by omega), cmpF_ok gsa (by omega) gsb, by omega, QG.bin gda gdb (by omega)⟩⟩ | exact ⟨by omega, Or.inr ⟨_, _, th25, cq_eq0 (by omega) ga gb_ (by omega), cmpF_ok gsa (by omega) gsb, by omega, QG.bin gda gdb (by omega)⟩⟩⟩
            · refine z_iload_n (pc := 82) dX4_comparisonHolds_82 rfl 2 rfl ?_
              refine z_iload_n (pc := 83) dX4_comparisonHolds_83 rfl 0 rfl ?_
              refine z_icmp_le (pc := 84) (tgt := 91) dX4_comparisonHolds_84 (by decide) ⟨by omega, by omega⟩ ⟨by omega, by omega⟩ (fun c34 => ?_) (fun c34 => ?_)
              · refine z_iconst (pc := 91) (v := 0) dX4_comparisonHolds_91 rfl ?_
                refine z_goto (pc := 92) (tgt := 105) dX4_comparisonHolds_92 (by decide) ?_
                refine z_zret (pc := 105) rfl (by decide) dX4_comparisonHolds_105 ?_
                exact hQ 0 h25 ⟨frh25, ff29h25, by first | exact ⟨by omega, Or.inl ⟨_, th25, cmpF_bad1 gsa⟩⟩ | exact ⟨by omega, Or.inl ⟨_, th25, cmpF_bad2 gsa (by omega)⟩⟩ | exact ⟨by omega, Or.inl ⟨_, th25, cmpF_bad3 gsa (by omega) gsb⟩⟩ | exact ⟨by omega, Or.inr ⟨_, _, th25, cq_lt1 (by omega) ga gb_ (by omega), cmpF_ok gsa (by omega) gsb, by omega, QG.bin gda gdb (by omega)⟩⟩ | exact ⟨by omega, Or.inr ⟨_, _, th25, cq_lt0 (by omega) ga gb_ (by omega), cmpF_ok gsa (by omega) gsb, by omega, QG.bin gda gdb (by omega)⟩⟩ | exact ⟨by omega, Or.inr ⟨_, _, th25, cq_gt1 (by omega) ga gb_ (by omega), cmpF_ok gsa (by omega) gsb, by omega, QG.bin gda gdb (by omega)⟩⟩ | exact ⟨by omega, Or.inr ⟨_, _, th25, cq_gt0 (by omega) ga gb_ (by omega), cmpF_ok gsa (by omega) gsb, by omega, QG.bin gda gdb (by omega)⟩⟩ | exact ⟨by omega, Or.inr ⟨_, _, th25, cq_eq1 (by omega) ga gb_ (by omega), cmpF_ok gsa (by omega) gsb, by omega, QG.bin gda gdb (by omega)⟩⟩ | exact ⟨by omega, Or.inr ⟨_, _, th25, cq_eq0 (by omega) ga gb_ (by omega), cmpF_ok gsa (by omega) gsb, by omega, QG.bin gda gdb (by omega)⟩⟩⟩
              · refine z_iconst (pc := 87) (v := 1) dX4_comparisonHolds_87 rfl ?_
                refine z_goto (pc := 88) (tgt := 105) dX4_comparisonHolds_88 (by decide) ?_
                refine z_zret (pc := 105) rfl (by decide) dX4_comparisonHolds_105 ?_
                exact hQ 1 h25 ⟨frh25, ff29h25, by first | exact ⟨by omega, Or.inl ⟨_, th25, cmpF_bad1 gsa⟩⟩ | exact ⟨by omega, Or.inl ⟨_, th25, cmpF_bad2 gsa (by omega)⟩⟩ | exact ⟨by omega, Or.inl ⟨_, th25, cmpF_bad3 gsa (by omega) gsb⟩⟩ | exact ⟨by omega, Or.inr ⟨_, _, th25, cq_lt1 (by omega) ga gb_ (by omega), cmpF_ok gsa (by omega) gsb, by omega, QG.bin gda gdb (by omega)⟩⟩ | exact ⟨by omega, Or.inr ⟨_, _, th25, cq_lt0 (by omega) ga gb_ (by omega), cmpF_ok gsa (by omega) gsb, by omega, QG.bin gda gdb (by omega)⟩⟩ | exact ⟨by omega, Or.inr ⟨_, _, th25, cq_gt1 (by omega) ga gb_ (by omega), cmpF_ok gsa (by omega) gsb, by omega, QG.bin gda gdb (by omega)⟩⟩ | exact ⟨by omega, Or.inr ⟨_, _, th25, cq_gt0 (by omega) ga gb_ (by omega), cmpF_ok gsa (by omega) gsb, by omega, QG.bin gda gdb (by omega)⟩⟩ | exact ⟨by omega, Or.inr ⟨_, _, th25, cq_eq1 (by omega) ga gb_ (by omega), cmpF_ok gsa (by omega) gsb, by omega, QG.bin gda gdb (by omega)⟩⟩ | exact ⟨by omega, Or.inr ⟨_, _, th25, cq_eq0 (by omega) ga gb_ (by omega), cmpF_ok gsa (by omega) gsb, by omega, QG.bin gda gdb (by omega)⟩⟩⟩
          · refine z_iload_n (pc := 64) dX4_comparisonHolds_64 rfl 2 rfl ?_
            refine z_iload_n (pc := 65) dX4_comparisonHolds_65 rfl 0 rfl ?_
            refine z_icmp_ge (pc := 66) (tgt := 73) dX4_comparisonHolds_66 (by decide) ⟨by omega, by omega⟩ ⟨by omega, by omega⟩ (fun c35 => ?_) (fun c35 => ?_)
            · refine z_iconst (pc := 73) (v := 0) dX4_comparisonHolds_73 rfl ?_
              refine z_zret (pc := 74) rfl (by decide) dX4_comparisonHolds_74 ?_
              exact hQ 0 h25 ⟨frh25, ff29h25, by first | exact ⟨by omega, Or.inl ⟨_, th25, cmpF_bad1 gsa⟩⟩ | exact ⟨by omega, Or.inl ⟨_, th25, cmpF_bad2 gsa (by omega)⟩⟩ | exact ⟨by omega, Or.inl ⟨_, th25, cmpF_bad3 gsa (by omega) gsb⟩⟩ | exact ⟨by omega, Or.inr ⟨_, _, th25, cq_lt1 (by omega) ga gb_ (by omega), cmpF_ok gsa (by omega) gsb, by omega, QG.bin gda gdb (by omega)⟩⟩ | exact ⟨by omega, Or.inr ⟨_, _, th25, cq_lt0 (by omega) ga gb_ (by omega), cmpF_ok gsa (by omega) gsb, by omega, QG.bin gda gdb (by omega)⟩⟩ | exact ⟨by omega, Or.inr ⟨_, _, th25, cq_gt1 (by omega) ga gb_ (by omega), cmpF_ok gsa (by omega) gsb, by omega, QG.bin gda gdb (by omega)⟩⟩ | exact ⟨by omega, Or.inr ⟨_, _, th25, cq_gt0 (by omega) ga gb_ (by omega), cmpF_ok gsa (by omega) gsb, by omega, QG.bin gda gdb (by omega)⟩⟩ | exact ⟨by omega, Or.inr ⟨_, _, th25, cq_eq1 (by omega) ga gb_ (by omega), cmpF_ok gsa (by omega) gsb, by omega, QG.bin gda gdb (by omega)⟩⟩ | exact ⟨by omega, Or.inr ⟨_, _, th25, cq_eq0 (by omega) ga gb_ (by omega), cmpF_ok gsa (by omega) gsb, by omega, QG.bin gda gdb (by omega)⟩⟩⟩
            · refine z_iconst (pc := 69) (v := 1) dX4_comparisonHolds_69 rfl ?_
              refine z_goto (pc := 70) (tgt := 74) dX4_comparisonHolds_70 (by decide) ?_
              refine z_zret (pc := 74) rfl (by decide) dX4_comparisonHolds_74 ?_
              exact hQ 1 h25 ⟨frh25, ff29h25, by first | exact ⟨by omega, Or.inl ⟨_, th25, cmpF_bad1 gsa⟩⟩ | exact ⟨by omega, Or.inl ⟨_, th25, cmpF_bad2 gsa (by omega)⟩⟩ | exact ⟨by omega, Or.inl ⟨_, th25, cmpF_bad3 gsa (by omega) gsb⟩⟩ | exact ⟨by omega, Or.inr ⟨_, _, th25, cq_lt1 (by omega) ga gb_ (by omega), cmpF_ok gsa (by omega) gsb, by omega, QG.bin gda gdb (by omega)⟩⟩ | exact ⟨by omega, Or.inr ⟨_, _, th25, cq_lt0 (by omega) ga gb_ (by omega), cmpF_ok gsa (by omega) gsb, by omega, QG.bin gda gdb (by omega)⟩⟩ | exact ⟨by omega, Or.inr ⟨_, _, th25, cq_gt1 (by omega) ga gb_ (by omega), cmpF_ok gsa (by omega) gsb, by omega, QG.bin gda gdb (by omega)⟩⟩ | exact ⟨by omega, Or.inr ⟨_, _, th25, cq_gt0 (by omega) ga gb_ (by omega), cmpF_ok gsa (by omega) gsb, by omega, QG.bin gda gdb (by omega)⟩⟩ | exact ⟨by omega, Or.inr ⟨_, _, th25, cq_eq1 (by omega) ga gb_ (by omega), cmpF_ok gsa (by omega) gsb, by omega, QG.bin gda gdb (by omega)⟩⟩ | exact ⟨by omega, Or.inr ⟨_, _, th25, cq_eq0 (by omega) ga gb_ (by omega), cmpF_ok gsa (by omega) gsb, by omega, QG.bin gda gdb (by omega)⟩⟩⟩
      · refine z_aload_n (pc := 27) (x := (ec v5)) dX4_comparisonHolds_27 rfl 0 rfl ?_
        refine z_getstE (pc := 28) (i := 8) (z := 8) (by decide) rfl (List.mem_cons_of_mem _ (iw33 _ (List.mem_of_getElem? (i := 3) rfl))) dX4_comparisonHolds_28 ?_
        refine z_acmp_eq (pc := 31) (tgt := 44) dX4_comparisonHolds_31 (by decide) (by omega) (by omega) (fun c36 => ?_) (fun c36 => ?_)
        · refine z_aload_n (pc := 44) (x := 36) dX4_comparisonHolds_44 rfl 2 rfl ?_
          refine z_getR (pc := 45) (pl := 35) (f := 0) (ci := 4) (C := RX4) (T := TX4) (N := 5) hu_X4 (by decide) rfl rfl (by decide) rfl (List.mem_cons_of_mem _ (iw4 _ (List.mem_of_getElem? (i := 19) rfl))) rfl dX4_comparisonHolds_45 ?_
          refine z_callV (pc := 48) (kc := kX6_pass) (n := 0) (pl := 29) (ci := 5) (C := RX6) (As := []) (stk := []) ct_X6_pass_TS (gdV rfl rfl (iw32 _ (List.mem_of_getElem? (i := 1) rfl)) (iw23 _ (List.mem_of_getElem? (i := 5) rfl)) (iw23 _ (List.mem_of_getElem? (i := 6) rfl)) (iw2 _ (List.mem_of_getElem? (i := 4) rfl)) (iw23 _ (List.mem_of_getElem? (i := 7) rfl))) rfl ⟨rfl, rfl⟩ (by decide +kernel) ⟨by decide, by decide⟩ (by decide) rfl rfl dX4_comparisonHolds_48 rfl rfl (Nat.le_of_ble_eq_true rfl) ?_
          refine ⟨S, P, V, m, ch2, rfl, ⟨th2, by omega⟩, fun v37 h38 eh38 => ?_⟩
          have frh38 : Fr [29] hi h38 := (Fr.call frh2 eh38.1 (by decide))
          have ff29h38 : FF 29 [6, 7, 8] hi h38 := FF.call ff29h2 (eh38.2.1) (by decide)
          have eph38 := eh38.2.2
          replace eh38 := And.intro eh38.1 (And.intro eh38.2.1 trivial)
          obtain ⟨gh38, th38⟩ := eph38
          refine z_pop (pc := 51) dX4_comparisonHolds_51 rfl ?_
          refine z_aload_n (pc := 52) (x := 36) dX4_comparisonHolds_52 rfl 2 rfl ?_
          refine z_callV (pc := 53) (kc := kX4_total) (n := 0) (pl := 35) (ci := 4) (C := RX4) (As := []) (stk := []) ct_X4_total_TS (gdV rfl rfl (iw33 _ (List.mem_of_getElem? (i := 4) rfl)) (iw33 _ (List.mem_of_getElem? (i := 5) rfl)) (iw33 _ (List.mem_of_getElem? (i := 6) rfl)) (iw2 _ (List.mem_of_getElem? (i := 12) rfl)) (iw33 _ (List.mem_of_getElem? (i := 7) rfl))) rfl ⟨rfl, rfl⟩ (by decide +kernel) ⟨by decide, by decide⟩ (by decide) rfl rfl dX4_comparisonHolds_53 rfl rfl (Nat.le_of_ble_eq_true rfl) ?_
          refine ⟨S, P, V, m, (ch2 + 1), rfl, ⟨th38, by rw [(congrFun (eh38.1 35 (by decide)) 3 : h38 35 3 = h2 35 3), (congrFun (eh2.1 35 (by decide)) 3 : h2 35 3 = hi 35 3), (eh38.1 36 (by decide) : h38 36 = h2 36), (eh2.1 36 (by decide) : h2 36 = hi 36)]; exact ⟨ho, hph, hV⟩⟩, fun v39 h40 eh40 => ?_⟩
          have frh40 : Fr [29] hi h40 := (Fr.call frh38 eh40.1 (by decide))
          have ff29h40 : FF 29 [6, 7, 8] hi h40 := FF.call ff29h38 (eh40.2.1) (by decide)
          rw [(congrFun (eh38.1 35 (by decide)) 3 : h38 35 3 = h2 35 3), (congrFun (eh2.1 35 (by decide)) 3 : h2 35 3 = hi 35 3)] at eh40
          rw [(eh38.1 36 (by decide) : h38 36 = h2 36), (eh2.1 36 (by decide) : h2 36 = hi 36)] at eh40
          have eph40 := eh40.2.2
          replace eh40 := And.intro eh40.1 (And.intro eh40.2.1 trivial)
          obtain ⟨tbh40, eph40⟩ := eph40
          rcases eph40 with ⟨ph40, th40, gsh40⟩ | ⟨ch40, gh40, th40, geh40, gsh40, gch40, gdh40⟩
          · have gsb := gsh40
            have tbb := tbh40
            refine z_istore_n (pc := 56) (lv' := [(3, AI v39), (2, AR (ec v5)), (1, AI v1), (0, AR 36)]) dX4_comparisonHolds_56 rfl (by decide) rfl ?_
            refine z_aload_n (pc := 57) (x := (ec v5)) dX4_comparisonHolds_57 rfl 1 rfl ?_
            refine z_getstE (pc := 58) (i := 6) (z := 6) (by decide) rfl (List.mem_cons_of_mem _ (iw33 _ (List.mem_of_getElem? (i := 1) rfl))) dX4_comparisonHolds_58 ?_
            refine z_acmp_ne (pc := 61) (tgt := 75) dX4_comparisonHolds_61 (by decide) (by omega) (by omega) (fun c41 => ?_) (fun c41 => ?_)
            · refine z_aload_n (pc := 75) (x := (ec v5)) dX4_comparisonHolds_75 rfl 1 rfl ?_
              refine z_getstE (pc := 76) (i := 8) (z := 8) (by decide) rfl (List.mem_cons_of_mem _ (iw33 _ (List.mem_of_getElem? (i := 3) rfl))) dX4_comparisonHolds_76 ?_
              refine z_acmp_ne (pc := 79) (tgt := 95) dX4_comparisonHolds_79 (by decide) (by omega) (by omega) (fun c42 => ?_) (fun c42 => ?_)
              · refine z_iload_n (pc := 95) dX4_comparisonHolds_95 rfl 2 rfl ?_
                refine z_iload_n (pc := 96) dX4_comparisonHolds_96 rfl 0 rfl ?_
                refine z_icmp_ne (pc := 97) (tgt := 104) dX4_comparisonHolds_97 (by decide) ⟨by omega, by omega⟩ ⟨by omega, by omega⟩ (fun c43 => ?_) (fun c43 => ?_)
                · refine z_iconst (pc := 104) (v := 0) dX4_comparisonHolds_104 rfl ?_
                  refine z_zret (pc := 105) rfl (by decide) dX4_comparisonHolds_105 ?_
                  exact hQ 0 h40 ⟨frh40, ff29h40, by first | exact ⟨by omega, Or.inl ⟨_, th40, cmpF_bad1 gsa⟩⟩ | exact ⟨by omega, Or.inl ⟨_, th40, cmpF_bad2 gsa (by omega)⟩⟩ | exact ⟨by omega, Or.inl ⟨_, th40, cmpF_bad3 gsa (by omega) gsb⟩⟩ | exact ⟨by omega, Or.inr ⟨_, _, th40, cq_lt1 (by omega) ga gb_ (by omega), cmpF_ok gsa (by omega) gsb, by omega, QG.bin gda gdb (by omega)⟩⟩ | exact ⟨by omega, Or.inr ⟨_, _, th40, cq_lt0 (by omega) ga gb_ (by omega), cmpF_ok gsa (by omega) gsb, by omega, QG.bin gda gdb (by omega)⟩⟩ | exact ⟨by omega, Or.inr ⟨_, _, th40, cq_gt1 (by omega) ga gb_ (by omega), cmpF_ok gsa (by omega) gsb, by omega, QG.bin gda gdb (by omega)⟩⟩ | exact ⟨by omega, Or.inr ⟨_, _, th40, cq_gt0 (by omega) ga gb_ (by omega), cmpF_ok gsa (by omega) gsb, by omega, QG.bin gda gdb (by omega)⟩⟩ | exact ⟨by omega, Or.inr ⟨_, _, th40, cq_eq1 (by omega) ga gb_ (by omega), cmpF_ok gsa (by omega) gsb, by omega, QG.bin gda gdb (by omega)⟩⟩ | exact ⟨by omega, Or.inr ⟨_, _, th40, cq_eq0 (by omega) ga gb_ (by omega), cmpF_ok gsa (by omega) gsb, by omega, QG.bin gda gdb (by omega)⟩⟩⟩
                · refine z_iconst (pc := 100) (v := 1) dX4_comparisonHolds_100 rfl ?_
                  refine z_goto (pc := 101) (tgt := 105) dX4_comparisonHolds_101 (by decide) ?_
                  refine z_zret (pc := 105) rfl (by decide) dX4_comparisonHolds_105 ?_
                  exact hQ 1 h40 ⟨frh40, ff29h40, by first | exact ⟨by omega, Or.inl ⟨_, th40, cmpF_bad1 gsa⟩⟩ | exact ⟨by omega, Or.inl ⟨_, th40, cmpF_bad2 gsa (by omega)⟩⟩ | exact ⟨by omega, Or.inl ⟨_, th40, cmpF_bad3 gsa (by omega) gsb⟩⟩ | exact ⟨by omega, Or.inr ⟨_, _, th40, cq_lt1 (by omega) ga gb_ (by omega), cmpF_ok gsa (by omega) gsb, by omega, QG.bin gda gdb (by omega)⟩⟩ | exact ⟨by omega, Or.inr ⟨_, _, th40, cq_lt0 (by omega) ga gb_ (by omega), cmpF_ok gsa (by omega) gsb, by omega, QG.bin gda gdb (by omega)⟩⟩ | exact ⟨by omega, Or.inr ⟨_, _, th40, cq_gt1 (by omega) ga gb_ (by omega), cmpF_ok gsa (by omega) gsb, by omega, QG.bin gda gdb (by omega)⟩⟩ | exact ⟨by omega, Or.inr ⟨_, _, th40, cq_gt0 (by omega) ga gb_ (by omega), cmpF_ok gsa (by omega) gsb, by omega, QG.bin gda gdb (by omega)⟩⟩ | exact ⟨by omega, Or.inr ⟨_, _, th40, cq_eq1 (by omega) ga gb_ (by omega), cmpF_ok gsa (by omega) gsb, by omega, QG.bin gda gdb (by omega)⟩⟩ | exact ⟨by omega, Or.inr ⟨_, _, th40, cq_eq0 (by omega) ga gb_ (by omega), cmpF_ok gsa (by omega) gsb, by omega, QG.bin gda gdb (by omega)⟩⟩⟩
              · refine z_iload_n (pc := 82) dX4_comparisonHolds_82 rfl 2 rfl ?_
                refine z_iload_n (pc := 83) dX4_comparisonHolds_83 rfl 0 rfl ?_
                refine z_icmp_le (pc := 84) (tgt := 91) dX4_comparisonHolds_84 (by decide) ⟨by omega, by omega⟩ ⟨by omega, by omega⟩ (fun c44 => ?_) (fun c44 => ?_)
                · refine z_iconst (pc := 91) (v := 0) dX4_comparisonHolds_91 rfl ?_
                  refine z_goto (pc := 92) (tgt := 105) dX4_comparisonHolds_92 (by decide) ?_
                  refine z_zret (pc := 105) rfl (by decide) dX4_comparisonHolds_105 ?_
                  exact hQ 0 h40 ⟨frh40, ff29h40, by first | exact ⟨by omega, Or.inl ⟨_, th40, cmpF_bad1 gsa⟩⟩ | exact ⟨by omega, Or.inl ⟨_, th40, cmpF_bad2 gsa (by omega)⟩⟩ | exact ⟨by omega, Or.inl ⟨_, th40, cmpF_bad3 gsa (by omega) gsb⟩⟩ | exact ⟨by omega, Or.inr ⟨_, _, th40, cq_lt1 (by omega) ga gb_ (by omega), cmpF_ok gsa (by omega) gsb, by omega, QG.bin gda gdb (by omega)⟩⟩ | exact ⟨by omega, Or.inr ⟨_, _, th40, cq_lt0 (by omega) ga gb_ (by omega), cmpF_ok gsa (by omega) gsb, by omega, QG.bin gda gdb (by omega)⟩⟩ | exact ⟨by omega, Or.inr ⟨_, _, th40, cq_gt1 (by omega) ga gb_ (by omega), cmpF_ok gsa (by omega) gsb, by omega, QG.bin gda gdb (by omega)⟩⟩ | exact ⟨by omega, Or.inr ⟨_, _, th40, cq_gt0 (by omega) ga gb_ (by omega), cmpF_ok gsa (by omega) gsb, by omega, QG.bin gda gdb (by omega)⟩⟩ | exact ⟨by omega, Or.inr ⟨_, _, th40, cq_eq1 (by omega) ga gb_ (by omega), cmpF_ok gsa (by omega) gsb, by omega, QG.bin gda gdb (by omega)⟩⟩ | exact ⟨by omega, Or.inr ⟨_, _, th40, cq_eq0 (by omega) ga gb_ (by omega), cmpF_ok gsa (by omega) gsb, by omega, QG.bin gda gdb (by omega)⟩⟩⟩
                · refine z_iconst (pc := 87) (v := 1) dX4_comparisonHolds_87 rfl ?_
                  refine z_goto (pc := 88) (tgt := 105) dX4_comparisonHolds_88 (by decide) ?_
                  refine z_zret (pc := 105) rfl (by decide) dX4_comparisonHolds_105 ?_
                  exact hQ 1 h40 ⟨frh40, ff29h40, by first | exact ⟨by omega, Or.inl ⟨_, th40, cmpF_bad1 gsa⟩⟩ | exact ⟨by omega, Or.inl ⟨_, th40, cmpF_bad2 gsa (by omega)⟩⟩ | exact ⟨by omega, Or.inl ⟨_, th40, cmpF_bad3 gsa (by omega) gsb⟩⟩ | exact ⟨by omega, Or.inr ⟨_, _, th40, cq_lt1 (by omega) ga gb_ (by omega), cmpF_ok gsa (by omega) gsb, by omega, QG.bin gda gdb (by omega)⟩⟩ | exact ⟨by omega, Or.inr ⟨_, _, th40, cq_lt0 (by omega) ga gb_ (by omega), cmpF_ok gsa (by omega) gsb, by omega, QG.bin gda gdb (by omega)⟩⟩ | exact ⟨by omega, Or.inr ⟨_, _, th40, cq_gt1 (by omega) ga gb_ (by omega), cmpF_ok gsa (by omega) gsb, by omega, QG.bin gda gdb (by omega)⟩⟩ | exact ⟨by omega, Or.inr ⟨_, _, th40, cq_gt0 (by omega) ga gb_ (by omega), cmpF_ok gsa (by omega) gsb, by omega, QG.bin gda gdb (by omega)⟩⟩ | exact ⟨by omega, Or.inr ⟨_, _, th40, cq_eq1 (by omega) ga gb_ (by omega), cmpF_ok gsa (by omega) gsb, by omega, QG.bin gda gdb (by omega)⟩⟩ | exact ⟨by omega, Or.inr ⟨_, _, th40, cq_eq0 (by omega) ga gb_ (by omega), cmpF_ok gsa (by omega) gsb, by omega, QG.bin gda gdb (by omega)⟩⟩⟩
            · refine z_iload_n (pc := 64) dX4_comparisonHolds_64 rfl 2 rfl ?_
              refine z_iload_n (pc := 65) dX4_comparisonHolds_65 rfl 0 rfl ?_
              refine z_icmp_ge (pc := 66) (tgt := 73) dX4_comparisonHolds_66 (by decide) ⟨by omega, by omega⟩ ⟨by omega, by omega⟩ (fun c45 => ?_) (fun c45 => ?_)
              · refine z_iconst (pc := 73) (v := 0) dX4_comparisonHolds_73 rfl ?_
                refine z_zret (pc := 74) rfl (by decide) dX4_comparisonHolds_74 ?_
                exact hQ 0 h40 ⟨frh40, ff29h40, by first | exact ⟨by omega, Or.inl ⟨_, th40, cmpF_bad1 gsa⟩⟩ | exact ⟨by omega, Or.inl ⟨_, th40, cmpF_bad2 gsa (by omega)⟩⟩ | exact ⟨by omega, Or.inl ⟨_, th40, cmpF_bad3 gsa (by omega) gsb⟩⟩ | exact ⟨by omega, Or.inr ⟨_, _, th40, cq_lt1 (by omega) ga gb_ (by omega), cmpF_ok gsa (by omega) gsb, by omega, QG.bin gda gdb (by omega)⟩⟩ | exact ⟨by omega, Or.inr ⟨_, _, th40, cq_lt0 (by omega) ga gb_ (by omega), cmpF_ok gsa (by omega) gsb, by omega, QG.bin gda gdb (by omega)⟩⟩ | exact ⟨by omega, Or.inr ⟨_, _, th40, cq_gt1 (by omega) ga gb_ (by omega), cmpF_ok gsa (by omega) gsb, by omega, QG.bin gda gdb (by omega)⟩⟩ | exact ⟨by omega, Or.inr ⟨_, _, th40, cq_gt0 (by omega) ga gb_ (by omega), cmpF_ok gsa (by omega) gsb, by omega, QG.bin gda gdb (by omega)⟩⟩ | exact ⟨by omega, Or.inr ⟨_, _, th40, cq_eq1 (by omega) ga gb_ (by omega), cmpF_ok gsa (by omega) gsb, by omega, QG.bin gda gdb (by omega)⟩⟩ | exact ⟨by omega, Or.inr ⟨_, _, th40, cq_eq0 (by omega) ga gb_ (by omega), cmpF_ok gsa (by omega) gsb, by omega, QG.bin gda gdb (by omega)⟩⟩⟩
              · refine z_iconst (pc := 69) (v := 1) dX4_comparisonHolds_69 rfl ?_
                refine z_goto (pc := 70) (tgt := 74) dX4_comparisonHolds_70 (by decide) ?_
                refine z_zret (pc := 74) rfl (by decide) dX4_comparisonHolds_74 ?_
                exact hQ 1 h40 ⟨frh40, ff29h40, by first | exact ⟨by omega, Or.inl ⟨_, th40, cmpF_bad1 gsa⟩⟩ | exact ⟨by omega, Or.inl ⟨_, th40, cmpF_bad2 gsa (by omega)⟩⟩ | exact ⟨by omega, Or.inl ⟨_, th40, cmpF_bad3 gsa (by omega) gsb⟩⟩ | exact ⟨by omega, Or.inr ⟨_, _, th40, cq_lt1 (by omega) ga gb_ (by omega), cmpF_ok gsa (by omega) gsb, by omega, QG.bin gda gdb (by omega)⟩⟩ | exact ⟨by omega, Or.inr ⟨_, _, th40, cq_lt0 (by omega) ga gb_ (by omega), cmpF_ok gsa (by omega) gsb, by omega, QG.bin gda gdb (by omega)⟩⟩ | exact ⟨by omega, Or.inr ⟨_, _, th40, cq_gt1 (by omega) ga gb_ (by omega), cmpF_ok gsa (by omega) gsb, by omega, QG.bin gda gdb (by omega)⟩⟩ | exact ⟨by omega, Or.inr ⟨_, _, th40, cq_gt0 (by omega) ga gb_ (by omega), cmpF_ok gsa (by omega) gsb, by omega, QG.bin gda gdb (by omega)⟩⟩ | exact ⟨by omega, Or.inr ⟨_, _, th40, cq_eq1 (by omega) ga gb_ (by omega), cmpF_ok gsa (by omega) gsb, by omega, QG.bin gda gdb (by omega)⟩⟩ | exact ⟨by omega, Or.inr ⟨_, _, th40, cq_eq0 (by omega) ga gb_ (by omega), cmpF_ok gsa (by omega) gsb, by omega, QG.bin gda gdb (by omega)⟩⟩⟩
          · have cmh40 := th40.2.1
            have gb_ := geh40
            have gsb := gsh40
            have gcb := gch40
            have gdb := gdh40
            have tbb := tbh40
            refine z_istore_n (pc := 56) (lv' := [(3, AI v39), (2, AR (ec v5)), (1, AI v1), (0, AR 36)]) dX4_comparisonHolds_56 rfl (by decide) rfl ?_
            refine z_aload_n (pc := 57) (x := (ec v5)) dX4_comparisonHolds_57 rfl 1 rfl ?_
            refine z_getstE (pc := 58) (i := 6) (z := 6) (by decide) rfl (List.mem_cons_of_mem _ (iw33 _ (List.mem_of_getElem? (i := 1) rfl))) dX4_comparisonHolds_58 ?_
            refine z_acmp_ne (pc := 61) (tgt := 75) dX4_comparisonHolds_61 (by decide) (by omega) (by omega) (fun c46 => ?_) (fun c46 => ?_)
            · refine z_aload_n (pc := 75) (x := (ec v5)) dX4_comparisonHolds_75 rfl 1 rfl ?_
              refine z_getstE (pc := 76) (i := 8) (z := 8) (by decide) rfl (List.mem_cons_of_mem _ (iw33 _ (List.mem_of_getElem? (i := 3) rfl))) dX4_comparisonHolds_76 ?_
              refine z_acmp_ne (pc := 79) (tgt := 95) dX4_comparisonHolds_79 (by decide) (by omega) (by omega) (fun c47 => ?_) (fun c47 => ?_)
              · refine z_iload_n (pc := 95) dX4_comparisonHolds_95 rfl 2 rfl ?_
                refine z_iload_n (pc := 96) dX4_comparisonHolds_96 rfl 0 rfl ?_
                refine z_icmp_ne (pc := 97) (tgt := 104) dX4_comparisonHolds_97 (by decide) ⟨by omega, by omega⟩ ⟨by omega, by omega⟩ (fun c48 => ?_) (fun c48 => ?_)
                · refine z_iconst (pc := 104) (v := 0) dX4_comparisonHolds_104 rfl ?_
                  refine z_zret (pc := 105) rfl (by decide) dX4_comparisonHolds_105 ?_
                  exact hQ 0 h40 ⟨frh40, ff29h40, by first | exact ⟨by omega, Or.inl ⟨_, th40, cmpF_bad1 gsa⟩⟩ | exact ⟨by omega, Or.inl ⟨_, th40, cmpF_bad2 gsa (by omega)⟩⟩ | exact ⟨by omega, Or.inl ⟨_, th40, cmpF_bad3 gsa (by omega) gsb⟩⟩ | exact ⟨by omega, Or.inr ⟨_, _, th40, cq_lt1 (by omega) ga gb_ (by omega), cmpF_ok gsa (by omega) gsb, by omega, QG.bin gda gdb (by omega)⟩⟩ | exact ⟨by omega, Or.inr ⟨_, _, th40, cq_lt0 (by omega) ga gb_ (by omega), cmpF_ok gsa (by omega) gsb, by omega, QG.bin gda gdb (by omega)⟩⟩ | exact ⟨by omega, Or.inr ⟨_, _, th40, cq_gt1 (by omega) ga gb_ (by omega), cmpF_ok gsa (by omega) gsb, by omega, QG.bin gda gdb (by omega)⟩⟩ | exact ⟨by omega, Or.inr ⟨_, _, th40, cq_gt0 (by omega) ga gb_ (by omega), cmpF_ok gsa (by omega) gsb, by omega, QG.bin gda gdb (by omega)⟩⟩ | exact ⟨by omega, Or.inr ⟨_, _, th40, cq_eq1 (by omega) ga gb_ (by omega), cmpF_ok gsa (by omega) gsb, by omega, QG.bin gda gdb (by omega)⟩⟩ | exact ⟨by omega, Or.inr ⟨_, _, th40, cq_eq0 (by omega) ga gb_ (by omega), cmpF_ok gsa (by omega) gsb, by omega, QG.bin gda gdb (by omega)⟩⟩⟩
                · refine z_iconst (pc := 100) (v := 1) dX4_comparisonHolds_100 rfl ?_
                  refine z_goto (pc := 101) (tgt := 105) dX4_comparisonHolds_101 (by decide) ?_
                  refine z_zret (pc := 105) rfl (by decide) dX4_comparisonHolds_105 ?_
                  exact hQ 1 h40 ⟨frh40, ff29h40, by first | exact ⟨by omega, Or.inl ⟨_, th40, cmpF_bad1 gsa⟩⟩ | exact ⟨by omega, Or.inl ⟨_, th40, cmpF_bad2 gsa (by omega)⟩⟩ | exact ⟨by omega, Or.inl ⟨_, th40, cmpF_bad3 gsa (by omega) gsb⟩⟩ | exact ⟨by omega, Or.inr ⟨_, _, th40, cq_lt1 (by omega) ga gb_ (by omega), cmpF_ok gsa (by omega) gsb, by omega, QG.bin gda gdb (by omega)⟩⟩ | exact ⟨by omega, Or.inr ⟨_, _, th40, cq_lt0 (by omega) ga gb_ (by omega), cmpF_ok gsa (by omega) gsb, by omega, QG.bin gda gdb (by omega)⟩⟩ | exact ⟨by omega, Or.inr ⟨_, _, th40, cq_gt1 (by omega) ga gb_ (by omega), cmpF_ok gsa (by omega) gsb, by omega, QG.bin gda gdb (by omega)⟩⟩ | exact ⟨by omega, Or.inr ⟨_, _, th40, cq_gt0 (by omega) ga gb_ (by omega), cmpF_ok gsa (by omega) gsb, by omega, QG.bin gda gdb (by omega)⟩⟩ | exact ⟨by omega, Or.inr ⟨_, _, th40, cq_eq1 (by omega) ga gb_ (by omega), cmpF_ok gsa (by omega) gsb, by omega, QG.bin gda gdb (by omega)⟩⟩ | exact ⟨by omega, Or.inr ⟨_, _, th40, cq_eq0 (by omega) ga gb_ (by omega), cmpF_ok gsa (by omega) gsb, by omega, QG.bin gda gdb (by omega)⟩⟩⟩
              · refine z_iload_n (pc := 82) dX4_comparisonHolds_82 rfl 2 rfl ?_
                refine z_iload_n (pc := 83) dX4_comparisonHolds_83 rfl 0 rfl ?_
                refine z_icmp_le (pc := 84) (tgt := 91) dX4_comparisonHolds_84 (by decide) ⟨by omega, by omega⟩ ⟨by omega, by omega⟩ (fun c49 => ?_) (fun c49 => ?_)
                · refine z_iconst (pc := 91) (v := 0) dX4_comparisonHolds_91 rfl ?_
                  refine z_goto (pc := 92) (tgt := 105) dX4_comparisonHolds_92 (by decide) ?_
                  refine z_zret (pc := 105) rfl (by decide) dX4_comparisonHolds_105 ?_
                  exact hQ 0 h40 ⟨frh40, ff29h40, by first | exact ⟨by omega, Or.inl ⟨_, th40, cmpF_bad1 gsa⟩⟩ | exact ⟨by omega, Or.inl ⟨_, th40, cmpF_bad2 gsa (by omega)⟩⟩ | exact ⟨by omega, Or.inl ⟨_, th40, cmpF_bad3 gsa (by omega) gsb⟩⟩ | exact ⟨by omega, Or.inr ⟨_, _, th40, cq_lt1 (by omega) ga gb_ (by omega), cmpF_ok gsa (by omega) gsb, by omega, QG.bin gda gdb (by omega)⟩⟩ | exact ⟨by omega, Or.inr ⟨_, _, th40, cq_lt0 (by omega) ga gb_ (by omega), cmpF_ok gsa (by omega) gsb, by omega, QG.bin gda gdb (by omega)⟩⟩ | exact ⟨by omega, Or.inr ⟨_, _, th40, cq_gt1 (by omega) ga gb_ (by omega), cmpF_ok gsa (by omega) gsb, by omega, QG.bin gda gdb (by omega)⟩⟩ | exact ⟨by omega, Or.inr ⟨_, _, th40, cq_gt0 (by omega) ga gb_ (by omega), cmpF_ok gsa (by omega) gsb, by omega, QG.bin gda gdb (by omega)⟩⟩ | exact ⟨by omega, Or.inr ⟨_, _, th40, cq_eq1 (by omega) ga gb_ (by omega), cmpF_ok gsa (by omega) gsb, by omega, QG.bin gda gdb (by omega)⟩⟩ | exact ⟨by omega, Or.inr ⟨_, _, th40, cq_eq0 (by omega) ga gb_ (by omega), cmpF_ok gsa (by omega) gsb, by omega, QG.bin gda gdb (by omega)⟩⟩⟩
                · refine z_iconst (pc := 87) (v := 1) dX4_comparisonHolds_87 rfl ?_
                  refine z_goto (pc := 88) (tgt := 105) dX4_comparisonHolds_88 (by decide) ?_
                  refine z_zret (pc := 105) rfl (by decide) dX4_comparisonHolds_105 ?_
                  exact hQ 1 h40 ⟨frh40, ff29h40, by first | exact ⟨by omega, Or.inl ⟨_, th40, cmpF_bad1 gsa⟩⟩ | exact ⟨by omega, Or.inl ⟨_, th40, cmpF_bad2 gsa (by omega)⟩⟩ | exact ⟨by omega, Or.inl ⟨_, th40, cmpF_bad3 gsa (by omega) gsb⟩⟩ | exact ⟨by omega, Or.inr ⟨_, _, th40, cq_lt1 (by omega) ga gb_ (by omega), cmpF_ok gsa (by omega) gsb, by omega, QG.bin gda gdb (by omega)⟩⟩ | exact ⟨by omega, Or.inr ⟨_, _, th40, cq_lt0 (by omega) ga gb_ (by omega), cmpF_ok gsa (by omega) gsb, by omega, QG.bin gda gdb (by omega)⟩⟩ | exact ⟨by omega, Or.inr ⟨_, _, th40, cq_gt1 (by omega) ga gb_ (by omega), cmpF_ok gsa (by omega) gsb, by omega, QG.bin gda gdb (by omega)⟩⟩ | exact ⟨by omega, Or.inr ⟨_, _, th40, cq_gt0 (by omega) ga gb_ (by omega), cmpF_ok gsa (by omega) gsb, by omega, QG.bin gda gdb (by omega)⟩⟩ | exact ⟨by omega, Or.inr ⟨_, _, th40, cq_eq1 (by omega) ga gb_ (by omega), cmpF_ok gsa (by omega) gsb, by omega, QG.bin gda gdb (by omega)⟩⟩ | exact ⟨by omega, Or.inr ⟨_, _, th40, cq_eq0 (by omega) ga gb_ (by omega), cmpF_ok gsa (by omega) gsb, by omega, QG.bin gda gdb (by omega)⟩⟩⟩
            · refine z_iload_n (pc := 64) dX4_comparisonHolds_64 rfl 2 rfl ?_
              refine z_iload_n (pc := 65) dX4_comparisonHolds_65 rfl 0 rfl ?_
              refine z_icmp_ge (pc := 66) (tgt := 73) dX4_comparisonHolds_66 (by decide) ⟨by omega, by omega⟩ ⟨by omega, by omega⟩ (fun c50 => ?_) (fun c50 => ?_)
              · refine z_iconst (pc := 73) (v := 0) dX4_comparisonHolds_73 rfl ?_
                refine z_zret (pc := 74) rfl (by decide) dX4_comparisonHolds_74 ?_
                exact hQ 0 h40 ⟨frh40, ff29h40, by first | exact ⟨by omega, Or.inl ⟨_, th40, cmpF_bad1 gsa⟩⟩ | exact ⟨by omega, Or.inl ⟨_, th40, cmpF_bad2 gsa (by omega)⟩⟩ | exact ⟨by omega, Or.inl ⟨_, th40, cmpF_bad3 gsa (by omega) gsb⟩⟩ | exact ⟨by omega, Or.inr ⟨_, _, th40, cq_lt1 (by omega) ga gb_ (by omega), cmpF_ok gsa (by omega) gsb, by omega, QG.bin gda gdb (by omega)⟩⟩ | exact ⟨by omega, Or.inr ⟨_, _, th40, cq_lt0 (by omega) ga gb_ (by omega), cmpF_ok gsa (by omega) gsb, by omega, QG.bin gda gdb (by omega)⟩⟩ | exact ⟨by omega, Or.inr ⟨_, _, th40, cq_gt1 (by omega) ga gb_ (by omega), cmpF_ok gsa (by omega) gsb, by omega, QG.bin gda gdb (by omega)⟩⟩ | exact ⟨by omega, Or.inr ⟨_, _, th40, cq_gt0 (by omega) ga gb_ (by omega), cmpF_ok gsa (by omega) gsb, by omega, QG.bin gda gdb (by omega)⟩⟩ | exact ⟨by omega, Or.inr ⟨_, _, th40, cq_eq1 (by omega) ga gb_ (by omega), cmpF_ok gsa (by omega) gsb, by omega, QG.bin gda gdb (by omega)⟩⟩ | exact ⟨by omega, Or.inr ⟨_, _, th40, cq_eq0 (by omega) ga gb_ (by omega), cmpF_ok gsa (by omega) gsb, by omega, QG.bin gda gdb (by omega)⟩⟩⟩
              · refine z_iconst (pc := 69) (v := 1) dX4_comparisonHolds_69 rfl ?_
                refine z_goto (pc := 70) (tgt := 74) dX4_comparisonHolds_70 (by decide) ?_
                refine z_zret (pc := 74) rfl (by decide) dX4_comparisonHolds_74 ?_
                exact hQ 1 h40 ⟨frh40, ff29h40, by first | exact ⟨by omega, Or.inl ⟨_, th40, cmpF_bad1 gsa⟩⟩ | exact ⟨by omega, Or.inl ⟨_, th40, cmpF_bad2 gsa (by omega)⟩⟩ | exact ⟨by omega, Or.inl ⟨_, th40, cmpF_bad3 gsa (by omega) gsb⟩⟩ | exact ⟨by omega, Or.inr ⟨_, _, th40, cq_lt1 (by omega) ga gb_ (by omega), cmpF_ok gsa (by omega) gsb, by omega, QG.bin gda gdb (by omega)⟩⟩ | exact ⟨by omega, Or.inr ⟨_, _, th40, cq_lt0 (by omega) ga gb_ (by omega), cmpF_ok gsa (by omega) gsb, by omega, QG.bin gda gdb (by omega)⟩⟩ | exact ⟨by omega, Or.inr ⟨_, _, th40, cq_gt1 (by omega) ga gb_ (by omega), cmpF_ok gsa (by omega) gsb, by omega, QG.bin gda gdb (by omega)⟩⟩ | exact ⟨by omega, Or.inr ⟨_, _, th40, cq_gt0 (by omega) ga gb_ (by omega), cmpF_ok gsa (by omega) gsb, by omega, QG.bin gda gdb (by omega)⟩⟩ | exact ⟨by omega, Or.inr ⟨_, _, th40, cq_eq1 (by omega) ga gb_ (by omega), cmpF_ok gsa (by omega) gsb, by omega, QG.bin gda gdb (by omega)⟩⟩ | exact ⟨by omega, Or.inr ⟨_, _, th40, cq_eq0 (by omega) ga gb_ (by omega), cmpF_ok gsa (by omega) gsb, by omega, QG.bin gda gdb (by omega)⟩⟩⟩
        · refine z_aload_n (pc := 34) (x := 36) dX4_comparisonHolds_34 rfl 2 rfl ?_
          refine z_getR (pc := 35) (pl := 35) (f := 0) (ci := 4) (C := RX4) (T := TX4) (N := 5) hu_X4 (by decide) rfl rfl (by decide) rfl (List.mem_cons_of_mem _ (iw4 _ (List.mem_of_getElem? (i := 19) rfl))) rfl dX4_comparisonHolds_35 ?_
          refine z_iconst (pc := 38) (v := 1) dX4_comparisonHolds_38 rfl ?_
          refine z_callV (pc := 39) (kc := kX6_fail) (n := 1) (pl := 29) (ci := 5) (C := RX6) (As := [AI 1]) (stk := []) ct_X6_fail_TS (gdV rfl rfl (iw32 _ (List.mem_of_getElem? (i := 0) rfl)) (iw23 _ (List.mem_of_getElem? (i := 13) rfl)) (iw23 _ (List.mem_of_getElem? (i := 14) rfl)) (iw2 _ (List.mem_of_getElem? (i := 4) rfl)) (iw23 _ (List.mem_of_getElem? (i := 15) rfl))) rfl ⟨rfl, rfl⟩ (by decide +kernel) ⟨by decide, by decide⟩ (by decide) rfl rfl dX4_comparisonHolds_39 rfl rfl (Nat.le_of_ble_eq_true rfl) ?_
          refine ⟨_, S, P, V, m, ch2, rfl, ⟨th2, ⟨by decide, by decide⟩, by decide⟩, fun h51 eh51 => ?_⟩
          have frh51 : Fr [29] hi h51 := (Fr.call frh2 eh51.1 (by decide))
          have ff29h51 : FF 29 [6, 7, 8] hi h51 := FF.call ff29h2 (eh51.2.1) (by decide)
          have eph51 := eh51.2.2
          replace eh51 := And.intro eh51.1 (And.intro eh51.2.1 trivial)
          have th51 := eph51
          refine z_iconst (pc := 42) (v := 0) dX4_comparisonHolds_42 rfl ?_
          refine z_zret (pc := 43) rfl (by decide) dX4_comparisonHolds_43 ?_
          exact hQ 0 h51 ⟨frh51, ff29h51, by first | exact ⟨by omega, Or.inl ⟨_, th51, cmpF_bad1 gsa⟩⟩ | exact ⟨by omega, Or.inl ⟨_, th51, cmpF_bad2 gsa (by omega)⟩⟩ | exact ⟨by omega, Or.inl ⟨_, th51, cmpF_bad3 gsa (by omega) gsb⟩⟩ | exact ⟨by omega, Or.inr ⟨_, _, th51, cq_lt1 (by omega) ga gb_ (by omega), cmpF_ok gsa (by omega) gsb, by omega, QG.bin gda gdb (by omega)⟩⟩ | exact ⟨by omega, Or.inr ⟨_, _, th51, cq_lt0 (by omega) ga gb_ (by omega), cmpF_ok gsa (by omega) gsb, by omega, QG.bin gda gdb (by omega)⟩⟩ | exact ⟨by omega, Or.inr ⟨_, _, th51, cq_gt1 (by omega) ga gb_ (by omega), cmpF_ok gsa (by omega) gsb, by omega, QG.bin gda gdb (by omega)⟩⟩ | exact ⟨by omega, Or.inr ⟨_, _, th51, cq_gt0 (by omega) ga gb_ (by omega), cmpF_ok gsa (by omega) gsb, by omega, QG.bin gda gdb (by omega)⟩⟩ | exact ⟨by omega, Or.inr ⟨_, _, th51, cq_eq1 (by omega) ga gb_ (by omega), cmpF_ok gsa (by omega) gsb, by omega, QG.bin gda gdb (by omega)⟩⟩ | exact ⟨by omega, Or.inr ⟨_, _, th51, cq_eq0 (by omega) ga gb_ (by omega), cmpF_ok gsa (by omega) gsb, by omega, QG.bin gda gdb (by omega)⟩⟩⟩

theorem ct_X4_comparisonHolds_TF : Ct kX4_comparisonHolds yX4_comparisonHolds (fun a hi Q => ∃ S : Nat → Int, ∃ P : Nat → Int, ∃ V : Nat → Int, ∃ m : Nat, ∃ k : Int, ∃ p : Int, a = [AR 36] ∧ ((TF hi S P V m k p) ∧ True) ∧ ∀ (v : Int) (h2 : HI), (Fr [29] hi h2 ∧ FF 29 [6, 7, 8] hi h2 ∧ ((v = 0 ∨ v = 1) ∧ TF h2 S P V m k p)) → Q (AI v) h2) := by
  refine Ct.of (ws' := _) (by decide +kernel) rfl rfl ?_
  intro a hi Q hT
  obtain ⟨S, P, V, m, k, p, rfl, hpre, hQ⟩ := hT
  refine ⟨Nat.le_of_ble_eq_true rfl, ?_⟩
  show Z kX4_comparisonHolds Q 0 [(0, AR 36)] [] hi
  have t0 := hpre.1
  refine z_aload_n (pc := 0) (x := 36) dX4_comparisonHolds_0 rfl 0 rfl ?_
  refine z_callV (pc := 1) (kc := kX4_total) (n := 0) (pl := 35) (ci := 4) (C := RX4) (As := []) (stk := []) ct_X4_total_TF (gdV rfl rfl (iw33 _ (List.mem_of_getElem? (i := 4) rfl)) (iw33 _ (List.mem_of_getElem? (i := 5) rfl)) (iw33 _ (List.mem_of_getElem? (i := 6) rfl)) (iw2 _ (List.mem_of_getElem? (i := 12) rfl)) (iw33 _ (List.mem_of_getElem? (i := 7) rfl))) rfl ⟨rfl, rfl⟩ (by decide +kernel) ⟨by decide, by decide⟩ (by decide) rfl rfl dX4_comparisonHolds_1 rfl rfl (Nat.le_of_ble_eq_true rfl) ?_
  refine ⟨S, P, V, m, k, p, rfl, ⟨t0, trivial⟩, fun v1 h2 eh2 => ?_⟩
  have frh2 : Fr [29] hi h2 := (Fr.call (Fr.rf) eh2.1 (by decide))
  have ff29h2 : FF 29 [6, 7, 8] hi h2 := FF.call (FF.rf) (eh2.2.1) (by decide)
  have eph2 := eh2.2.2
  replace eh2 := And.intro eh2.1 (And.intro eh2.2.1 trivial)
  obtain ⟨tbh2, th2⟩ := eph2
  refine z_istore_n (pc := 4) (lv' := [(1, AI v1), (0, AR 36)]) dX4_comparisonHolds_4 rfl (by decide) rfl ?_
  refine z_aload_n (pc := 5) (x := 36) dX4_comparisonHolds_5 rfl 1 rfl ?_
  refine z_getR (pc := 6) (pl := 35) (f := 0) (ci := 4) (C := RX4) (T := TX4) (N := 5) hu_X4 (by decide) rfl rfl (by decide) rfl (List.mem_cons_of_mem _ (iw4 _ (List.mem_of_getElem? (i := 19) rfl))) rfl dX4_comparisonHolds_6 ?_
  refine z_callV (pc := 9) (kc := kX6_sign) (n := 0) (pl := 29) (ci := 5) (C := RX6) (As := []) (stk := []) ct_X6_sign_TF (gdV rfl rfl (iw31 _ (List.mem_of_getElem? (i := 23) rfl)) (iw22 _ (List.mem_of_getElem? (i := 10) rfl)) (iw22 _ (List.mem_of_getElem? (i := 11) rfl)) (iw2 _ (List.mem_of_getElem? (i := 4) rfl)) (iw22 _ (List.mem_of_getElem? (i := 12) rfl))) rfl ⟨rfl, rfl⟩ (by decide +kernel) ⟨by decide, by decide⟩ (by decide) rfl rfl dX4_comparisonHolds_9 rfl rfl (Nat.le_of_ble_eq_true rfl) ?_
  refine ⟨S, P, V, m, k, p, rfl, th2, fun v3 ev3 => ?_⟩
  obtain rfl := ev3
  refine z_astore_n (pc := 12) (lv' := [(2, AR (ec 1)), (1, AI v1), (0, AR 36)]) dX4_comparisonHolds_12 rfl (by decide) (by unfold ec; split <;> omega) rfl ?_
  refine z_aload_n (pc := 13) (x := (ec 1)) dX4_comparisonHolds_13 rfl 0 rfl ?_
  refine z_getstE (pc := 14) (i := 6) (z := 6) (by decide) rfl (List.mem_cons_of_mem _ (iw33 _ (List.mem_of_getElem? (i := 1) rfl))) dX4_comparisonHolds_14 ?_
  refine z_acmp_eq (pc := 17) (tgt := 44) dX4_comparisonHolds_17 (by decide) (by decide) (by decide) (fun q => absurd q (by decide)) (fun _ => ?_)
  refine z_aload_n (pc := 20) (x := (ec 1)) dX4_comparisonHolds_20 rfl 0 rfl ?_
  refine z_getstE (pc := 21) (i := 7) (z := 7) (by decide) rfl (List.mem_cons_of_mem _ (iw33 _ (List.mem_of_getElem? (i := 2) rfl))) dX4_comparisonHolds_21 ?_
  refine z_acmp_eq (pc := 24) (tgt := 44) dX4_comparisonHolds_24 (by decide) (by decide) (by decide) (fun q => absurd q (by decide)) (fun _ => ?_)
  refine z_aload_n (pc := 27) (x := (ec 1)) dX4_comparisonHolds_27 rfl 0 rfl ?_
  refine z_getstE (pc := 28) (i := 8) (z := 8) (by decide) rfl (List.mem_cons_of_mem _ (iw33 _ (List.mem_of_getElem? (i := 3) rfl))) dX4_comparisonHolds_28 ?_
  refine z_acmp_eq (pc := 31) (tgt := 44) dX4_comparisonHolds_31 (by decide) (by decide) (by decide) (fun q => absurd q (by decide)) (fun _ => ?_)
  refine z_aload_n (pc := 34) (x := 36) dX4_comparisonHolds_34 rfl 2 rfl ?_
  refine z_getR (pc := 35) (pl := 35) (f := 0) (ci := 4) (C := RX4) (T := TX4) (N := 5) hu_X4 (by decide) rfl rfl (by decide) rfl (List.mem_cons_of_mem _ (iw4 _ (List.mem_of_getElem? (i := 19) rfl))) rfl dX4_comparisonHolds_35 ?_
  refine z_iconst (pc := 38) (v := 1) dX4_comparisonHolds_38 rfl ?_
  refine z_callV (pc := 39) (kc := kX6_fail) (n := 1) (pl := 29) (ci := 5) (C := RX6) (As := [AI 1]) (stk := []) ct_X6_fail_TF (gdV rfl rfl (iw32 _ (List.mem_of_getElem? (i := 0) rfl)) (iw23 _ (List.mem_of_getElem? (i := 13) rfl)) (iw23 _ (List.mem_of_getElem? (i := 14) rfl)) (iw2 _ (List.mem_of_getElem? (i := 4) rfl)) (iw23 _ (List.mem_of_getElem? (i := 15) rfl))) rfl ⟨rfl, rfl⟩ (by decide +kernel) ⟨by decide, by decide⟩ (by decide) rfl rfl dX4_comparisonHolds_39 rfl rfl (Nat.le_of_ble_eq_true rfl) ?_
  refine ⟨_, S, P, V, m, k, p, rfl, ⟨th2, ⟨by decide, by decide⟩⟩, fun h4 eh4 => ?_⟩
  have frh4 : Fr [29] hi h4 := (Fr.call frh2 eh4.1 (by decide))
  have ff29h4 : FF 29 [6, 7, 8] hi h4 := FF.call ff29h2 (eh4.2.1) (by decide)
  have eph4 := eh4.2.2
  replace eh4 := And.intro eh4.1 (And.intro eh4.2.1 trivial)
  have th4 := eph4
  refine z_iconst (pc := 42) (v := 0) dX4_comparisonHolds_42 rfl ?_
  refine z_zret (pc := 43) rfl (by decide) dX4_comparisonHolds_43 ?_
  exact hQ 0 h4 ⟨frh4, ff29h4, ⟨by omega, th4⟩⟩

theorem ct_X4_factHolds_TS (d : Nat) (hF : ∀ e, e + 1 = d → Ct (kX4_factHolds e) yX4_factHolds (fun a hi Q => ∃ o : Int, ∃ S : Nat → Int, ∃ P : Nat → Int, ∃ V : Nat → Int, ∃ m : Nat, ∃ c : Nat, ∃ W : List Int, ∃ G : List Ex, a = [AR 36, AI o] ∧ ((TS hi S P V m c) ∧ ((hi 35 3 = 0 ∨ hi 35 3 = 1) ∧ (∀ j : Nat, j < 6 → -4000 ≤ hi 36 j ∧ hi 36 j ≤ 4000) ∧ (∀ i : Nat, i ≤ m → S i = 2 → 0 ≤ V i ∧ V i ≤ 999)) ∧ (o + e = 5 ∧ (opn W : Int) = o ∧ 0 ≤ o)) ∧ ∀ (v : Int) (h2 : HI), (Fr [29] hi h2 ∧ FF 29 [6, 7, 8] hi h2 ∧ ((v = 0 ∨ v = 1) ∧ ((∃ k p, TF h2 S P V m k p ∧ res (hi 35 3) S P V (0, c, W, G) = .inl (k, p)) ∨ (∃ (c2 : Nat) (g : Ex), TS h2 S P V m c2 ∧ c < c2 ∧ v = g (hi 36) ∧ QG (hi 35 3) g ∧ res (hi 35 3) S P V (0, c, W, G) = res (hi 35 3) S P V (1, c2, W, g :: G))))) → Q (AI v) h2)) (hC : ∀ e, e + 1 = d → Ct (kX4_condHolds e) yX4_condHolds (fun a hi Q => ∃ o : Int, ∃ S : Nat → Int, ∃ P : Nat → Int, ∃ V : Nat → Int, ∃ m : Nat, ∃ c : Nat, ∃ W : List Int, ∃ G : List Ex, a = [AR 36, AI o] ∧ ((TS hi S P V m c) ∧ ((hi 35 3 = 0 ∨ hi 35 3 = 1) ∧ (∀ j : Nat, j < 6 → -4000 ≤ hi 36 j ∧ hi 36 j ≤ 4000) ∧ (∀ i : Nat, i ≤ m → S i = 2 → 0 ≤ V i ∧ V i ≤ 999)) ∧ (o + e = 5 ∧ (opn W : Int) = o ∧ 0 ≤ o) ∧ (topW W ≠ 7 ∧ topW W ≠ 8 ∧ topW W ≠ 9)) ∧ ∀ (v : Int) (h2 : HI), (Fr [29] hi h2 ∧ FF 29 [6, 7, 8] hi h2 ∧ ((v = 0 ∨ v = 1) ∧ ((∃ k p, TF h2 S P V m k p ∧ res (hi 35 3) S P V (0, c, W, G) = .inl (k, p)) ∨ (∃ (c2 : Nat) (g : Ex), TS h2 S P V m c2 ∧ c < c2 ∧ v = g (hi 36) ∧ QG (hi 35 3) g ∧ (S c2 ≠ 27 ∧ S c2 ≠ 28) ∧ res (hi 35 3) S P V (0, c, W, G) = res (hi 35 3) S P V (1, c2, W, g :: G))))) → Q (AI v) h2)) : Ct (kX4_factHolds d) yX4_factHolds (fun a hi Q => ∃ o : Int, ∃ S : Nat → Int, ∃ P : Nat → Int, ∃ V : Nat → Int, ∃ m : Nat, ∃ c : Nat, ∃ W : List Int, ∃ G : List Ex, a = [AR 36, AI o] ∧ ((TS hi S P V m c) ∧ ((hi 35 3 = 0 ∨ hi 35 3 = 1) ∧ (∀ j : Nat, j < 6 → -4000 ≤ hi 36 j ∧ hi 36 j ≤ 4000) ∧ (∀ i : Nat, i ≤ m → S i = 2 → 0 ≤ V i ∧ V i ≤ 999)) ∧ (o + d = 5 ∧ (opn W : Int) = o ∧ 0 ≤ o)) ∧ ∀ (v : Int) (h2 : HI), (Fr [29] hi h2 ∧ FF 29 [6, 7, 8] hi h2 ∧ ((v = 0 ∨ v = 1) ∧ ((∃ k p, TF h2 S P V m k p ∧ res (hi 35 3) S P V (0, c, W, G) = .inl (k, p)) ∨ (∃ (c2 : Nat) (g : Ex), TS h2 S P V m c2 ∧ c < c2 ∧ v = g (hi 36) ∧ QG (hi 35 3) g ∧ res (hi 35 3) S P V (0, c, W, G) = res (hi 35 3) S P V (1, c2, W, g :: G))))) → Q (AI v) h2) := by
  refine Ct.of (ws' := _) (by decide +kernel) rfl rfl ?_
  intro a hi Q hT
  obtain ⟨o, S, P, V, m, c, W, G, rfl, hpre, hQ⟩ := hT
  refine ⟨Nat.le_of_ble_eq_true rfl, ?_⟩
  show Z (kX4_factHolds d) Q 0 [(0, AR 36), (1, AI o)] [] hi
  have t0 := hpre.1
  have hoh := hpre.2.1
  obtain ⟨ho, hph, hV⟩ := hoh
  have cm := t0.2.1
  have mb := t0.1.2.1
  have ho5 := hpre.2.2
  refine z_aload_n (pc := 0) (x := 36) dX4_factHolds_0 rfl 0 rfl ?_
  refine z_getR (pc := 1) (pl := 35) (f := 0) (ci := 4) (C := RX4) (T := TX4) (N := 5) hu_X4 (by decide) rfl rfl (by decide) rfl (List.mem_cons_of_mem _ (iw4 _ (List.mem_of_getElem? (i := 19) rfl))) rfl dX4_factHolds_1 ?_
  refine z_callV (pc := 4) (kc := kX6_sign) (n := 0) (pl := 29) (ci := 5) (C := RX6) (As := []) (stk := []) ct_X6_sign_TS (gdV rfl rfl (iw31 _ (List.mem_of_getElem? (i := 23) rfl)) (iw22 _ (List.mem_of_getElem? (i := 10) rfl)) (iw22 _ (List.mem_of_getElem? (i := 11) rfl)) (iw2 _ (List.mem_of_getElem? (i := 4) rfl)) (iw22 _ (List.mem_of_getElem? (i := 12) rfl))) rfl ⟨rfl, rfl⟩ (by decide +kernel) ⟨by show 1 + 1 ≤ 5 + 2 * d; omega, by show 8 + (1 + 11) + 48 * 1 ≤ 48 * (5 + 2 * d); omega⟩ (by decide) rfl rfl dX4_factHolds_4 rfl rfl (Nat.le_of_ble_eq_true rfl) ?_
  refine ⟨S, P, V, m, c, rfl, t0, fun v1 ev1 => ?_⟩
  have sb := ev1.2
  refine z_astore_n (pc := 7) (lv' := [(2, AR (ec v1)), (0, AR 36), (1, AI o)]) dX4_factHolds_7 rfl (by show _ < 4; decide) (by unfold ec; split <;> omega) rfl ?_
  refine z_aload_n (pc := 8) (x := (ec v1)) dX4_factHolds_8 rfl 0 rfl ?_
  refine z_getstE (pc := 9) (i := 29) (z := 29) (by decide) rfl (List.mem_cons_of_mem _ (iw32 _ (List.mem_of_getElem? (i := 18) rfl))) dX4_factHolds_9 ?_
  refine z_acmp_eq (pc := 12) (tgt := 27) dX4_factHolds_12 (by decide) (by omega) (by omega) (fun c2 => ?_) (fun c2 => ?_)
  · refine z_iload_n (pc := 27) dX4_factHolds_27 rfl 2 rfl ?_
    refine z_iconst (pc := 28) (v := 5) dX4_factHolds_28 rfl ?_
    refine z_icmp_lt (pc := 29) (tgt := 42) dX4_factHolds_29 (by decide) ⟨by omega, by omega⟩ ⟨by decide, by decide⟩ (fun c3 => ?_) (fun c3 => ?_)
    · obtain ⟨e, he⟩ : ∃ e : Nat, e + 1 = d := ⟨d - 1, by omega⟩
      refine z_aload_n (pc := 42) (x := 36) dX4_factHolds_42 rfl 1 rfl ?_
      refine z_getR (pc := 43) (pl := 35) (f := 0) (ci := 4) (C := RX4) (T := TX4) (N := 5) hu_X4 (by decide) rfl rfl (by decide) rfl (List.mem_cons_of_mem _ (iw4 _ (List.mem_of_getElem? (i := 19) rfl))) rfl dX4_factHolds_43 ?_
      refine z_callV (pc := 46) (kc := kX6_pass) (n := 0) (pl := 29) (ci := 5) (C := RX6) (As := []) (stk := []) ct_X6_pass_TS (gdV rfl rfl (iw32 _ (List.mem_of_getElem? (i := 1) rfl)) (iw23 _ (List.mem_of_getElem? (i := 5) rfl)) (iw23 _ (List.mem_of_getElem? (i := 6) rfl)) (iw2 _ (List.mem_of_getElem? (i := 4) rfl)) (iw23 _ (List.mem_of_getElem? (i := 7) rfl))) rfl ⟨rfl, rfl⟩ (by decide +kernel) ⟨by show 1 + 1 ≤ 5 + 2 * d; omega, by show 8 + (2 + 11) + 48 * 1 ≤ 48 * (5 + 2 * d); omega⟩ (by decide) rfl rfl dX4_factHolds_46 rfl rfl (Nat.le_of_ble_eq_true rfl) ?_
      refine ⟨S, P, V, m, c, rfl, ⟨t0, by omega⟩, fun v4 h5 eh5 => ?_⟩
      have frh5 : Fr [29] hi h5 := (Fr.call (Fr.rf) eh5.1 (by decide))
      have ff29h5 : FF 29 [6, 7, 8] hi h5 := FF.call (FF.rf) (eh5.2.1) (by decide)
      have eph5 := eh5.2.2
      replace eh5 := And.intro eh5.1 (And.intro eh5.2.1 trivial)
      obtain ⟨gh5, th5⟩ := eph5
      refine z_pop (pc := 49) dX4_factHolds_49 rfl ?_
      refine z_aload_n (pc := 50) (x := (ec v1)) dX4_factHolds_50 rfl 0 rfl ?_
      refine z_getstE (pc := 51) (i := 29) (z := 29) (by decide) rfl (List.mem_cons_of_mem _ (iw32 _ (List.mem_of_getElem? (i := 18) rfl))) dX4_factHolds_51 ?_
      refine z_acmp_ne (pc := 54) (tgt := 73) dX4_factHolds_54 (by decide) (by omega) (by omega) (fun c6 => ?_) (fun c6 => ?_)
      · refine z_aload_n (pc := 73) (x := 36) dX4_factHolds_73 rfl 1 rfl ?_
        refine z_iload_n (pc := 74) dX4_factHolds_74 rfl 2 rfl ?_
        refine z_iconst (pc := 75) (v := 1) dX4_factHolds_75 rfl ?_
        refine z_iadd (pc := 76) dX4_factHolds_76 (fun v7 ev7 => ?_)
        refine z_callV (pc := 77) (kc := (kX4_condHolds e)) (n := 1) (pl := 35) (ci := 4) (C := RX4) (As := [AI v7]) (stk := []) (hC e he) (gdV rfl rfl (iw32 _ (List.mem_of_getElem? (i := 7) rfl)) (iw32 _ (List.mem_of_getElem? (i := 8) rfl)) (iw32 _ (List.mem_of_getElem? (i := 9) rfl)) (iw2 _ (List.mem_of_getElem? (i := 12) rfl)) (iw32 _ (List.mem_of_getElem? (i := 10) rfl))) rfl ⟨rfl, rfl⟩ (by decide +kernel) ⟨by show 6 + 2 * e + 1 ≤ 5 + 2 * d; omega, by show 8 + (5 + 11) + 48 * (6 + 2 * e) ≤ 48 * (5 + 2 * d); omega⟩ (by decide) rfl rfl dX4_factHolds_77 rfl rfl (Nat.le_of_ble_eq_true rfl) ?_
        refine ⟨_, S, P, V, m, ((c + 1)), (10 :: W), G, rfl, ⟨th5, by rw [(congrFun (eh5.1 35 (by decide)) 3 : h5 35 3 = hi 35 3), (eh5.1 36 (by decide) : h5 36 = hi 36)]; exact ⟨ho, hph, hV⟩, ⟨by omega, by rw [opn_10]; omega, by omega⟩, by show (10 : Int) ≠ 7; decide, by show (10 : Int) ≠ 8; decide, by show (10 : Int) ≠ 9; decide⟩, fun v8 h9 eh9 => ?_⟩
        have frh9 : Fr [29] hi h9 := (Fr.call frh5 eh9.1 (by decide))
        have ff29h9 : FF 29 [6, 7, 8] hi h9 := FF.call ff29h5 (eh9.2.1) (by decide)
        rw [(congrFun (eh5.1 35 (by decide)) 3 : h5 35 3 = hi 35 3)] at eh9
        rw [(eh5.1 36 (by decide) : h5 36 = hi 36)] at eh9
        have eph9 := eh9.2.2
        replace eh9 := And.intro eh9.1 (And.intro eh9.2.1 trivial)
        obtain ⟨tbh9, eph9⟩ := eph9
        rcases eph9 with ⟨kh9, ph9, th9, hrh9⟩ | ⟨ch9, gh9, th9, gch9, geh9, gdh9, ⟨g27h9, g28h9⟩, hrh9⟩
        · have hra := hrh9
          have tba := tbh9
          refine z_istore_n (pc := 80) (lv' := [(3, AI v8), (2, AR (ec v1)), (0, AR 36), (1, AI o)]) dX4_factHolds_80 rfl (by show _ < 4; decide) rfl ?_
          refine z_aload_n (pc := 81) (x := 36) dX4_factHolds_81 rfl 2 rfl ?_
          refine z_getR (pc := 82) (pl := 35) (f := 0) (ci := 4) (C := RX4) (T := TX4) (N := 5) hu_X4 (by decide) rfl rfl (by decide) rfl (List.mem_cons_of_mem _ (iw4 _ (List.mem_of_getElem? (i := 19) rfl))) rfl dX4_factHolds_82 ?_
          refine z_getstE (pc := 85) (i := 10) (z := 10) (by decide) rfl (List.mem_cons_of_mem _ (iw32 _ (List.mem_of_getElem? (i := 20) rfl))) dX4_factHolds_85 ?_
          refine z_callV (pc := 88) (kc := kX6_expect) (n := 1) (pl := 29) (ci := 5) (C := RX6) (As := [AR (ec 10)]) (stk := []) ct_X6_expect_TF (gdV rfl rfl (iw32 _ (List.mem_of_getElem? (i := 2) rfl)) (iw24 _ (List.mem_of_getElem? (i := 12) rfl)) (iw24 _ (List.mem_of_getElem? (i := 13) rfl)) (iw2 _ (List.mem_of_getElem? (i := 4) rfl)) (iw24 _ (List.mem_of_getElem? (i := 14) rfl))) rfl ⟨rfl, rfl⟩ (by decide +kernel) ⟨by show 3 + 1 ≤ 5 + 2 * d; omega, by show 8 + (2 + 11) + 48 * 3 ≤ 48 * (5 + 2 * d); omega⟩ (by decide) rfl rfl dX4_factHolds_88 rfl rfl (Nat.le_of_ble_eq_true rfl) ?_
          refine ⟨_, S, P, V, m, kh9, ph9, rfl, ⟨th9, by decide, by decide⟩, fun h10 eh10 => ?_⟩
          have frh10 : Fr [29] hi h10 := (Fr.call frh9 eh10.1 (by decide))
          have ff29h10 : FF 29 [6, 7, 8] hi h10 := FF.call ff29h9 (eh10.2.1) (by decide)
          have eph10 := eh10.2.2
          replace eh10 := And.intro eh10.1 (And.intro eh10.2.1 trivial)
          have th10 := eph10
          refine z_iload_n (pc := 91) dX4_factHolds_91 rfl 0 rfl ?_
          refine z_zret (pc := 92) rfl (by omega) dX4_factHolds_92 ?_
          exact hQ v8 h10 ⟨frh10, ff29h10, by first | (exfalso; omega) | exact ⟨by omega, Or.inl ⟨_, _, th10, r_cmpF (by omega) gsa⟩⟩ | exact ⟨by omega, Or.inr ⟨_, _, th10, gca, gea, gda, r_cmp (by omega) gsa gca (by omega)⟩⟩ | exact ⟨by omega, Or.inl ⟨_, _, th10, r_deep (by omega) (by omega)⟩⟩ | exact ⟨by omega, Or.inl ⟨_, _, th10, (r_push (Or.inl (by omega)) (by omega) (by omega)).trans (by rw [if_pos (by omega)]; exact hra)⟩⟩ | exact ⟨by omega, Or.inr ⟨_, nt _, th10, by omega, by show _ = 1 - _; omega, gda.nt, (r_push (Or.inl (by omega)) (by omega) (by omega)).trans (by rw [if_pos (by omega)]; exact hra.trans r_nt)⟩⟩ | exact ⟨by omega, Or.inl ⟨_, _, th10, (r_push (Or.inr (by omega)) (by omega) (by omega)).trans (by rw [if_neg (by omega)]; exact hra)⟩⟩ | exact ⟨by omega, Or.inr ⟨_, _, th10, by omega, gea, gda, (r_push (Or.inr (by omega)) (by omega) (by omega)).trans (by rw [if_neg (by omega)]; exact hra.trans (r_pop (by omega) (by omega)))⟩⟩ | exact ⟨by omega, Or.inl ⟨_, _, th10, (r_push (Or.inr (by omega)) (by omega) (by omega)).trans (by rw [if_neg (by omega)]; exact hra.trans (r_bad (by show (10 : Int) ≠ 7; decide) (by show (10 : Int) ≠ 8; decide) z27 z28 (by rintro (z | z); omega; exact z.2 List.mem_cons_self)))⟩⟩⟩
        · have cmh9 := th9.2.1
          have hra := hrh9
          have gca := gch9
          have gda := gdh9
          have gea := geh9
          have tba := tbh9
          have bq := gdh9.1 (hi 36)
          have z27 := g27h9
          have z28 := g28h9
          refine z_istore_n (pc := 80) (lv' := [(3, AI v8), (2, AR (ec v1)), (0, AR 36), (1, AI o)]) dX4_factHolds_80 rfl (by show _ < 4; decide) rfl ?_
          refine z_aload_n (pc := 81) (x := 36) dX4_factHolds_81 rfl 2 rfl ?_
          refine z_getR (pc := 82) (pl := 35) (f := 0) (ci := 4) (C := RX4) (T := TX4) (N := 5) hu_X4 (by decide) rfl rfl (by decide) rfl (List.mem_cons_of_mem _ (iw4 _ (List.mem_of_getElem? (i := 19) rfl))) rfl dX4_factHolds_82 ?_
          refine z_getstE (pc := 85) (i := 10) (z := 10) (by decide) rfl (List.mem_cons_of_mem _ (iw32 _ (List.mem_of_getElem? (i := 20) rfl))) dX4_factHolds_85 ?_
          refine z_callV (pc := 88) (kc := kX6_expect) (n := 1) (pl := 29) (ci := 5) (C := RX6) (As := [AR (ec 10)]) (stk := []) ct_X6_expect_TS (gdV rfl rfl (iw32 _ (List.mem_of_getElem? (i := 2) rfl)) (iw24 _ (List.mem_of_getElem? (i := 12) rfl)) (iw24 _ (List.mem_of_getElem? (i := 13) rfl)) (iw2 _ (List.mem_of_getElem? (i := 4) rfl)) (iw24 _ (List.mem_of_getElem? (i := 14) rfl))) rfl ⟨rfl, rfl⟩ (by decide +kernel) ⟨by show 3 + 1 ≤ 5 + 2 * d; omega, by show 8 + (2 + 11) + 48 * 3 ≤ 48 * (5 + 2 * d); omega⟩ (by decide) rfl rfl dX4_factHolds_88 rfl rfl (Nat.le_of_ble_eq_true rfl) ?_
          refine ⟨_, S, P, V, m, ch9, rfl, ⟨th9, by decide, by decide⟩, fun h11 eh11 => ?_⟩
          have frh11 : Fr [29] hi h11 := (Fr.call frh9 eh11.1 (by decide))
          have ff29h11 : FF 29 [6, 7, 8] hi h11 := FF.call ff29h9 (eh11.2.1) (by decide)
          have eph11 := eh11.2.2
          replace eh11 := And.intro eh11.1 (And.intro eh11.2.1 trivial)
          rcases eph11 with ⟨sh11, th11⟩ | ⟨sh11, th11⟩
          · skip
            refine z_iload_n (pc := 91) dX4_factHolds_91 rfl 0 rfl ?_
            refine z_zret (pc := 92) rfl (by omega) dX4_factHolds_92 ?_
            exact hQ v8 h11 ⟨frh11, ff29h11, by first | (exfalso; omega) | exact ⟨by omega, Or.inl ⟨_, _, th11, r_cmpF (by omega) gsa⟩⟩ | exact ⟨by omega, Or.inr ⟨_, _, th11, gca, gea, gda, r_cmp (by omega) gsa gca (by omega)⟩⟩ | exact ⟨by omega, Or.inl ⟨_, _, th11, r_deep (by omega) (by omega)⟩⟩ | exact ⟨by omega, Or.inl ⟨_, _, th11, (r_push (Or.inl (by omega)) (by omega) (by omega)).trans (by rw [if_pos (by omega)]; exact hra)⟩⟩ | exact ⟨by omega, Or.inr ⟨_, nt _, th11, by omega, by show _ = 1 - _; omega, gda.nt, (r_push (Or.inl (by omega)) (by omega) (by omega)).trans (by rw [if_pos (by omega)]; exact hra.trans r_nt)⟩⟩ | exact ⟨by omega, Or.inl ⟨_, _, th11, (r_push (Or.inr (by omega)) (by omega) (by omega)).trans (by rw [if_neg (by omega)]; exact hra)⟩⟩ | exact ⟨by omega, Or.inr ⟨_, _, th11, by omega, gea, gda, (r_push (Or.inr (by omega)) (by omega) (by omega)).trans (by rw [if_neg (by omega)]; exact hra.trans (r_pop (by omega) (by omega)))⟩⟩ | exact ⟨by omega, Or.inl ⟨_, _, th11, (r_push (Or.inr (by omega)) (by omega) (by omega)).trans (by rw [if_neg (by omega)]; exact hra.trans (r_bad (by show (10 : Int) ≠ 7; decide) (by show (10 : Int) ≠ 8; decide) z27 z28 (by rintro (z | z); omega; exact z.2 List.mem_cons_self)))⟩⟩⟩
          · skip
            refine z_iload_n (pc := 91) dX4_factHolds_91 rfl 0 rfl ?_
            refine z_zret (pc := 92) rfl (by omega) dX4_factHolds_92 ?_
            exact hQ v8 h11 ⟨frh11, ff29h11, by first | (exfalso; omega) | exact ⟨by omega, Or.inl ⟨_, _, th11, r_cmpF (by omega) gsa⟩⟩ | exact ⟨by omega, Or.inr ⟨_, _, th11, gca, gea, gda, r_cmp (by omega) gsa gca (by omega)⟩⟩ | exact ⟨by omega, Or.inl ⟨_, _, th11, r_deep (by omega) (by omega)⟩⟩ | exact ⟨by omega, Or.inl ⟨_, _, th11, (r_push (Or.inl (by omega)) (by omega) (by omega)).trans (by rw [if_pos (by omega)]; exact hra)⟩⟩ | exact ⟨by omega, Or.inr ⟨_, nt _, th11, by omega, by show _ = 1 - _; omega, gda.nt, (r_push (Or.inl (by omega)) (by omega) (by omega)).trans (by rw [if_pos (by omega)]; exact hra.trans r_nt)⟩⟩ | exact ⟨by omega, Or.inl ⟨_, _, th11, (r_push (Or.inr (by omega)) (by omega) (by omega)).trans (by rw [if_neg (by omega)]; exact hra)⟩⟩ | exact ⟨by omega, Or.inr ⟨_, _, th11, by omega, gea, gda, (r_push (Or.inr (by omega)) (by omega) (by omega)).trans (by rw [if_neg (by omega)]; exact hra.trans (r_pop (by omega) (by omega)))⟩⟩ | exact ⟨by omega, Or.inl ⟨_, _, th11, (r_push (Or.inr (by omega)) (by omega) (by omega)).trans (by rw [if_neg (by omega)]; exact hra.trans (r_bad (by show (10 : Int) ≠ 7; decide) (by show (10 : Int) ≠ 8; decide) z27 z28 (by rintro (z | z); omega; exact z.2 List.mem_cons_self)))⟩⟩⟩
      · refine z_aload_n (pc := 57) (x := 36) dX4_factHolds_57 rfl 1 rfl ?_
        refine z_iload_n (pc := 58) dX4_factHolds_58 rfl 2 rfl ?_
        refine z_iconst (pc := 59) (v := 1) dX4_factHolds_59 rfl ?_
        refine z_iadd (pc := 60) dX4_factHolds_60 (fun v12 ev12 => ?_)
        refine z_callV (pc := 61) (kc := (kX4_factHolds e)) (n := 1) (pl := 35) (ci := 4) (C := RX4) (As := [AI v12]) (stk := []) (hF e he) (gdV rfl rfl (iw32 _ (List.mem_of_getElem? (i := 13) rfl)) (iw32 _ (List.mem_of_getElem? (i := 14) rfl)) (iw32 _ (List.mem_of_getElem? (i := 15) rfl)) (iw2 _ (List.mem_of_getElem? (i := 12) rfl)) (iw32 _ (List.mem_of_getElem? (i := 17) rfl))) rfl ⟨rfl, rfl⟩ (by decide +kernel) ⟨by show 5 + 2 * e + 1 ≤ 5 + 2 * d; omega, by show 8 + (4 + 11) + 48 * (5 + 2 * e) ≤ 48 * (5 + 2 * d); omega⟩ (by decide) rfl rfl dX4_factHolds_61 rfl rfl (Nat.le_of_ble_eq_true rfl) ?_
        refine ⟨_, S, P, V, m, ((c + 1)), (7 :: W), G, rfl, ⟨th5, by rw [(congrFun (eh5.1 35 (by decide)) 3 : h5 35 3 = hi 35 3), (eh5.1 36 (by decide) : h5 36 = hi 36)]; exact ⟨ho, hph, hV⟩, by omega, by rw [opn_7]; omega, by omega⟩, fun v13 h14 eh14 => ?_⟩
        have frh14 : Fr [29] hi h14 := (Fr.call frh5 eh14.1 (by decide))
        have ff29h14 : FF 29 [6, 7, 8] hi h14 := FF.call ff29h5 (eh14.2.1) (by decide)
        rw [(congrFun (eh5.1 35 (by decide)) 3 : h5 35 3 = hi 35 3)] at eh14
        rw [(eh5.1 36 (by decide) : h5 36 = hi 36)] at eh14
        have eph14 := eh14.2.2
        replace eh14 := And.intro eh14.1 (And.intro eh14.2.1 trivial)
        obtain ⟨tbh14, eph14⟩ := eph14
        rcases eph14 with ⟨kh14, ph14, th14, hrh14⟩ | ⟨ch14, gh14, th14, gch14, geh14, gdh14, hrh14⟩
        · have hra := hrh14
          have tba := tbh14
          refine z_if_ne (pc := 64) (tgt := 71) dX4_factHolds_64 (by decide) ⟨by omega, by omega⟩ (fun c15 => ?_) (fun c15 => ?_)
          · refine z_iconst (pc := 71) (v := 0) dX4_factHolds_71 rfl ?_
            refine z_zret (pc := 72) rfl (by decide) dX4_factHolds_72 ?_
            exact hQ 0 h14 ⟨frh14, ff29h14, by first | (exfalso; omega) | exact ⟨by omega, Or.inl ⟨_, _, th14, r_cmpF (by omega) gsa⟩⟩ | exact ⟨by omega, Or.inr ⟨_, _, th14, gca, gea, gda, r_cmp (by omega) gsa gca (by omega)⟩⟩ | exact ⟨by omega, Or.inl ⟨_, _, th14, r_deep (by omega) (by omega)⟩⟩ | exact ⟨by omega, Or.inl ⟨_, _, th14, (r_push (Or.inl (by omega)) (by omega) (by omega)).trans (by rw [if_pos (by omega)]; exact hra)⟩⟩ | exact ⟨by omega, Or.inr ⟨_, nt _, th14, by omega, by show _ = 1 - _; omega, gda.nt, (r_push (Or.inl (by omega)) (by omega) (by omega)).trans (by rw [if_pos (by omega)]; exact hra.trans r_nt)⟩⟩ | exact ⟨by omega, Or.inl ⟨_, _, th14, (r_push (Or.inr (by omega)) (by omega) (by omega)).trans (by rw [if_neg (by omega)]; exact hra)⟩⟩ | exact ⟨by omega, Or.inr ⟨_, _, th14, by omega, gea, gda, (r_push (Or.inr (by omega)) (by omega) (by omega)).trans (by rw [if_neg (by omega)]; exact hra.trans (r_pop (by omega) (by omega)))⟩⟩ | exact ⟨by omega, Or.inl ⟨_, _, th14, (r_push (Or.inr (by omega)) (by omega) (by omega)).trans (by rw [if_neg (by omega)]; exact hra.trans (r_bad (by show (10 : Int) ≠ 7; decide) (by show (10 : Int) ≠ 8; decide) z27 z28 (by rintro (z | z); omega; exact z.2 List.mem_cons_self)))⟩⟩⟩
          · refine z_iconst (pc := 67) (v := 1) dX4_factHolds_67 rfl ?_
            refine z_goto (pc := 68) (tgt := 72) dX4_factHolds_68 (by decide) ?_
            refine z_zret (pc := 72) rfl (by decide) dX4_factHolds_72 ?_
            exact hQ 1 h14 ⟨frh14, ff29h14, by first | (exfalso; omega) | exact ⟨by omega, Or.inl ⟨_, _, th14, r_cmpF (by omega) gsa⟩⟩ | exact ⟨by omega, Or.inr ⟨_, _, th14, gca, gea, gda, r_cmp (by omega) gsa gca (by omega)⟩⟩ | exact ⟨by omega, Or.inl ⟨_, _, th14, r_deep (by omega) (by omega)⟩⟩ | exact ⟨by omega, Or.inl ⟨_, _, th14, (r_push (Or.inl (by omega)) (by omega) (by omega)).trans (by rw [if_pos (by omega)]; exact hra)⟩⟩ | exact ⟨by omega, Or.inr ⟨_, nt _, th14, by omega, by show _ = 1 - _; omega, gda.nt, (r_push (Or.inl (by omega)) (by omega) (by omega)).trans (by rw [if_pos (by omega)]; exact hra.trans r_nt)⟩⟩ | exact ⟨by omega, Or.inl ⟨_, _, th14, (r_push (Or.inr (by omega)) (by omega) (by omega)).trans (by rw [if_neg (by omega)]; exact hra)⟩⟩ | exact ⟨by omega, Or.inr ⟨_, _, th14, by omega, gea, gda, (r_push (Or.inr (by omega)) (by omega) (by omega)).trans (by rw [if_neg (by omega)]; exact hra.trans (r_pop (by omega) (by omega)))⟩⟩ | exact ⟨by omega, Or.inl ⟨_, _, th14, (r_push (Or.inr (by omega)) (by omega) (by omega)).trans (by rw [if_neg (by omega)]; exact hra.trans (r_bad (by show (10 : Int) ≠ 7; decide) (by show (10 : Int) ≠ 8; decide) z27 z28 (by rintro (z | z); omega; exact z.2 List.mem_cons_self)))⟩⟩⟩
        · have cmh14 := th14.2.1
          have hra := hrh14
          have gca := gch14
          have gda := gdh14
          have gea := geh14
          have tba := tbh14
          have bq := gdh14.1 (hi 36)
          refine z_if_ne (pc := 64) (tgt := 71) dX4_factHolds_64 (by decide) ⟨by omega, by omega⟩ (fun c16 => ?_) (fun c16 => ?_)
          · refine z_iconst (pc := 71) (v := 0) dX4_factHolds_71 rfl ?_
            refine z_zret (pc := 72) rfl (by decide) dX4_factHolds_72 ?_
            exact hQ 0 h14 ⟨frh14, ff29h14, by first | (exfalso; omega) | exact ⟨by omega, Or.inl ⟨_, _, th14, r_cmpF (by omega) gsa⟩⟩ | exact ⟨by omega, Or.inr ⟨_, _, th14, gca, gea, gda, r_cmp (by omega) gsa gca (by omega)⟩⟩ | exact ⟨by omega, Or.inl ⟨_, _, th14, r_deep (by omega) (by omega)⟩⟩ | exact ⟨by omega, Or.inl ⟨_, _, th14, (r_push (Or.inl (by omega)) (by omega) (by omega)).trans (by rw [if_pos (by omega)]; exact hra)⟩⟩ | exact ⟨by omega, Or.inr ⟨_, nt _, th14, by omega, by show _ = 1 - _; omega, gda.nt, (r_push (Or.inl (by omega)) (by omega) (by omega)).trans (by rw [if_pos (by omega)]; exact hra.trans r_nt)⟩⟩ | exact ⟨by omega, Or.inl ⟨_, _, th14, (r_push (Or.inr (by omega)) (by omega) (by omega)).trans (by rw [if_neg (by omega)]; exact hra)⟩⟩ | exact ⟨by omega, Or.inr ⟨_, _, th14, by omega, gea, gda, (r_push (Or.inr (by omega)) (by omega) (by omega)).trans (by rw [if_neg (by omega)]; exact hra.trans (r_pop (by omega) (by omega)))⟩⟩ | exact ⟨by omega, Or.inl ⟨_, _, th14, (r_push (Or.inr (by omega)) (by omega) (by omega)).trans (by rw [if_neg (by omega)]; exact hra.trans (r_bad (by show (10 : Int) ≠ 7; decide) (by show (10 : Int) ≠ 8; decide) z27 z28 (by rintro (z | z); omega; exact z.2 List.mem_cons_self)))⟩⟩⟩
          · refine z_iconst (pc := 67) (v := 1) dX4_factHolds_67 rfl ?_
            refine z_goto (pc := 68) (tgt := 72) dX4_factHolds_68 (by decide) ?_
            refine z_zret (pc := 72) rfl (by decide) dX4_factHolds_72 ?_
            exact hQ 1 h14 ⟨frh14, ff29h14, by first | (exfalso; omega) | exact ⟨by omega, Or.inl ⟨_, _, th14, r_cmpF (by omega) gsa⟩⟩ | exact ⟨by omega, Or.inr ⟨_, _, th14, gca, gea, gda, r_cmp (by omega) gsa gca (by omega)⟩⟩ | exact ⟨by omega, Or.inl ⟨_, _, th14, r_deep (by omega) (by omega)⟩⟩ | exact ⟨by omega, Or.inl ⟨_, _, th14, (r_push (Or.inl (by omega)) (by omega) (by omega)).trans (by rw [if_pos (by omega)]; exact hra)⟩⟩ | exact ⟨by omega, Or.inr ⟨_, nt _, th14, by omega, by show _ = 1 - _; omega, gda.nt, (r_push (Or.inl (by omega)) (by omega) (by omega)).trans (by rw [if_pos (by omega)]; exact hra.trans r_nt)⟩⟩ | exact ⟨by omega, Or.inl ⟨_, _, th14, (r_push (Or.inr (by omega)) (by omega) (by omega)).trans (by rw [if_neg (by omega)]; exact hra)⟩⟩ | exact ⟨by omega, Or.inr ⟨_, _, th14, by omega, gea, gda, (r_push (Or.inr (by omega)) (by omega) (by omega)).trans (by rw [if_neg (by omega)]; exact hra.trans (r_pop (by omega) (by omega)))⟩⟩ | exact ⟨by omega, Or.inl ⟨_, _, th14, (r_push (Or.inr (by omega)) (by omega) (by omega)).trans (by rw [if_neg (by omega)]; exact hra.trans (r_bad (by show (10 : Int) ≠ 7; decide) (by show (10 : Int) ≠ 8; decide) z27 z28 (by rintro (z | z); omega; exact z.2 List.mem_cons_self)))⟩⟩⟩
    · refine z_aload_n (pc := 32) (x := 36) dX4_factHolds_32 rfl 1 rfl ?_
      refine z_getR (pc := 33) (pl := 35) (f := 0) (ci := 4) (C := RX4) (T := TX4) (N := 5) hu_X4 (by decide) rfl rfl (by decide) rfl (List.mem_cons_of_mem _ (iw4 _ (List.mem_of_getElem? (i := 19) rfl))) rfl dX4_factHolds_33 ?_
      refine z_iconst (pc := 36) (v := 2) dX4_factHolds_36 rfl ?_
      refine z_callV (pc := 37) (kc := kX6_fail) (n := 1) (pl := 29) (ci := 5) (C := RX6) (As := [AI 2]) (stk := []) ct_X6_fail_TS (gdV rfl rfl (iw32 _ (List.mem_of_getElem? (i := 0) rfl)) (iw23 _ (List.mem_of_getElem? (i := 13) rfl)) (iw23 _ (List.mem_of_getElem? (i := 14) rfl)) (iw2 _ (List.mem_of_getElem? (i := 4) rfl)) (iw23 _ (List.mem_of_getElem? (i := 15) rfl))) rfl ⟨rfl, rfl⟩ (by decide +kernel) ⟨by show 1 + 1 ≤ 5 + 2 * d; omega, by show 8 + (2 + 11) + 48 * 1 ≤ 48 * (5 + 2 * d); omega⟩ (by decide) rfl rfl dX4_factHolds_37 rfl rfl (Nat.le_of_ble_eq_true rfl) ?_
      refine ⟨_, S, P, V, m, c, rfl, ⟨t0, ⟨by decide, by decide⟩, by decide⟩, fun h17 eh17 => ?_⟩
      have frh17 : Fr [29] hi h17 := (Fr.call (Fr.rf) eh17.1 (by decide))
      have ff29h17 : FF 29 [6, 7, 8] hi h17 := FF.call (FF.rf) (eh17.2.1) (by decide)
      have eph17 := eh17.2.2
      replace eh17 := And.intro eh17.1 (And.intro eh17.2.1 trivial)
      have th17 := eph17
      refine z_iconst (pc := 40) (v := 0) dX4_factHolds_40 rfl ?_
      refine z_zret (pc := 41) rfl (by decide) dX4_factHolds_41 ?_
      exact hQ 0 h17 ⟨frh17, ff29h17, by first | (exfalso; omega) | exact ⟨by omega, Or.inl ⟨_, _, th17, r_cmpF (by omega) gsa⟩⟩ | exact ⟨by omega, Or.inr ⟨_, _, th17, gca, gea, gda, r_cmp (by omega) gsa gca (by omega)⟩⟩ | exact ⟨by omega, Or.inl ⟨_, _, th17, r_deep (by omega) (by omega)⟩⟩ | exact ⟨by omega, Or.inl ⟨_, _, th17, (r_push (Or.inl (by omega)) (by omega) (by omega)).trans (by rw [if_pos (by omega)]; exact hra)⟩⟩ | exact ⟨by omega, Or.inr ⟨_, nt _, th17, by omega, by show _ = 1 - _; omega, gda.nt, (r_push (Or.inl (by omega)) (by omega) (by omega)).trans (by rw [if_pos (by omega)]; exact hra.trans r_nt)⟩⟩ | exact ⟨by omega, Or.inl ⟨_, _, th17, (r_push (Or.inr (by omega)) (by omega) (by omega)).trans (by rw [if_neg (by omega)]; exact hra)⟩⟩ | exact ⟨by omega, Or.inr ⟨_, _, th17, by omega, gea, gda, (r_push (Or.inr (by omega)) (by omega) (by omega)).trans (by rw [if_neg (by omega)]; exact hra.trans (r_pop (by omega) (by omega)))⟩⟩ | exact ⟨by omega, Or.inl ⟨_, _, th17, (r_push (Or.inr (by omega)) (by omega) (by omega)).trans (by rw [if_neg (by omega)]; exact hra.trans (r_bad (by show (10 : Int) ≠ 7; decide) (by show (10 : Int) ≠ 8; decide) z27 z28 (by rintro (z | z); omega; exact z.2 List.mem_cons_self)))⟩⟩⟩
  · refine z_aload_n (pc := 15) (x := (ec v1)) dX4_factHolds_15 rfl 0 rfl ?_
    refine z_getstE (pc := 16) (i := 9) (z := 9) (by decide) rfl (List.mem_cons_of_mem _ (iw32 _ (List.mem_of_getElem? (i := 19) rfl))) dX4_factHolds_16 ?_
    refine z_acmp_eq (pc := 19) (tgt := 27) dX4_factHolds_19 (by decide) (by omega) (by omega) (fun c18 => ?_) (fun c18 => ?_)
    · refine z_iload_n (pc := 27) dX4_factHolds_27 rfl 2 rfl ?_
      refine z_iconst (pc := 28) (v := 5) dX4_factHolds_28 rfl ?_
      refine z_icmp_lt (pc := 29) (tgt := 42) dX4_factHolds_29 (by decide) ⟨by omega, by omega⟩ ⟨by decide, by decide⟩ (fun c19 => ?_) (fun c19 => ?_)
      · obtain ⟨e, he⟩ : ∃ e : Nat, e + 1 = d := ⟨d - 1, by omega⟩
        refine z_aload_n (pc := 42) (x := 36) dX4_factHolds_42 rfl 1 rfl ?_
        refine z_getR (pc := 43) (pl := 35) (f := 0) (ci := 4) (C := RX4) (T := TX4) (N := 5) hu_X4 (by decide) rfl rfl (by decide) rfl (List.mem_cons_of_mem _ (iw4 _ (List.mem_of_getElem? (i := 19) rfl))) rfl dX4_factHolds_43 ?_
        refine z_callV (pc := 46) (kc := kX6_pass) (n := 0) (pl := 29) (ci := 5) (C := RX6) (As := []) (stk := []) ct_X6_pass_TS (gdV rfl rfl (iw32 _ (List.mem_of_getElem? (i := 1) rfl)) (iw23 _ (List.mem_of_getElem? (i := 5) rfl)) (iw23 _ (List.mem_of_getElem? (i := 6) rfl)) (iw2 _ (List.mem_of_getElem? (i := 4) rfl)) (iw23 _ (List.mem_of_getElem? (i := 7) rfl))) rfl ⟨rfl, rfl⟩ (by decide +kernel) ⟨by show 1 + 1 ≤ 5 + 2 * d; omega, by show 8 + (2 + 11) + 48 * 1 ≤ 48 * (5 + 2 * d); omega⟩ (by decide) rfl rfl dX4_factHolds_46 rfl rfl (Nat.le_of_ble_eq_true rfl) ?_
        refine ⟨S, P, V, m, c, rfl, ⟨t0, by omega⟩, fun v20 h21 eh21 => ?_⟩
        have frh21 : Fr [29] hi h21 := (Fr.call (Fr.rf) eh21.1 (by decide))
        have ff29h21 : FF 29 [6, 7, 8] hi h21 := FF.call (FF.rf) (eh21.2.1) (by decide)
        have eph21 := eh21.2.2
        replace eh21 := And.intro eh21.1 (And.intro eh21.2.1 trivial)
        obtain ⟨gh21, th21⟩ := eph21
        refine z_pop (pc := 49) dX4_factHolds_49 rfl ?_
        refine z_aload_n (pc := 50) (x := (ec v1)) dX4_factHolds_50 rfl 0 rfl ?_
        refine z_getstE (pc := 51) (i := 29) (z := 29) (by decide) rfl (List.mem_cons_of_mem _ (iw32 _ (List.mem_of_getElem? (i := 18) rfl))) dX4_factHolds_51 ?_
        refine z_acmp_ne (pc := 54) (tgt := 73) dX4_factHolds_54 (by decide) (by omega) (by omega) (fun c22 => ?_) (fun c22 => ?_)
        · refine z_aload_n (pc := 73) (x := 36) dX4_factHolds_73 rfl 1 rfl ?_
          refine z_iload_n (pc := 74) dX4_factHolds_74 rfl 2 rfl ?_
          refine z_iconst (pc := 75) (v := 1) dX4_factHolds_75 rfl ?_
          refine z_iadd (pc := 76) dX4_factHolds_76 (fun v23 ev23 => ?_)
          refine z_callV (pc := 77) (kc := (kX4_condHolds e)) (n := 1) (pl := 35) (ci := 4) (C := RX4) (As := [AI v23]) (stk := []) (hC e he) (gdV rfl rfl (iw32 _ (List.mem_of_getElem? (i := 7) rfl)) (iw32 _ (List.mem_of_getElem? (i := 8) rfl)) (iw32 _ (List.mem_of_getElem? (i := 9) rfl)) (iw2 _ (List.mem_of_getElem? (i := 12) rfl)) (iw32 _ (List.mem_of_getElem? (i := 10) rfl))) rfl ⟨rfl, rfl⟩ (by decide +kernel) ⟨by show 6 + 2 * e + 1 ≤ 5 + 2 * d; omega, by show 8 + (5 + 11) + 48 * (6 + 2 * e) ≤ 48 * (5 + 2 * d); omega⟩ (by decide) rfl rfl dX4_factHolds_77 rfl rfl (Nat.le_of_ble_eq_true rfl) ?_
          refine ⟨_, S, P, V, m, ((c + 1)), (10 :: W), G, rfl, ⟨th21, by rw [(congrFun (eh21.1 35 (by decide)) 3 : h21 35 3 = hi 35 3), (eh21.1 36 (by decide) : h21 36 = hi 36)]; exact ⟨ho, hph, hV⟩, ⟨by omega, by rw [opn_10]; omega, by omega⟩, by show (10 : Int) ≠ 7; decide, by show (10 : Int) ≠ 8; decide, by show (10 : Int) ≠ 9; decide⟩, fun v24 h25 eh25 => ?_⟩
          have frh25 : Fr [29] hi h25 := (Fr.call frh21 eh25.1 (by decide))
          have ff29h25 : FF 29 [6, 7, 8] hi h25 := FF.call ff29h21 (eh25.2.1) (by decide)
          rw [(congrFun (eh21.1 35 (by decide)) 3 : h21 35 3 = hi 35 3)] at eh25
          rw [(eh21.1 36 (by decide) : h21 36 = hi 36)] at eh25
          have eph25 := eh25.2.2
          replace eh25 := And.intro eh25.1 (And.intro eh25.2.1 trivial)
          obtain ⟨tbh25, eph25⟩ := eph25
          rcases eph25 with ⟨kh25, ph25, th25, hrh25⟩ | ⟨ch25, gh25, th25, gch25, geh25, gdh25, ⟨g27h25, g28h25⟩, hrh25⟩
          · have hra := hrh25
            have tba := tbh25
            refine z_istore_n (pc := 80) (lv' := [(3, AI v24), (2, AR (ec v1)), (0, AR 36), (1, AI o)]) dX4_factHolds_80 rfl (by show _ < 4; decide) rfl ?_
            refine z_aload_n (pc := 81) (x := 36) dX4_factHolds_81 rfl 2 rfl ?_
            refine z_getR (pc := 82) (pl := 35) (f := 0) (ci := 4) (C := RX4) (T := TX4) (N := 5) hu_X4 (by decide) rfl rfl (by decide) rfl (List.mem_cons_of_mem _ (iw4 _ (List.mem_of_getElem? (i := 19) rfl))) rfl dX4_factHolds_82 ?_
            refine z_getstE (pc := 85) (i := 10) (z := 10) (by decide) rfl (List.mem_cons_of_mem _ (iw32 _ (List.mem_of_getElem? (i := 20) rfl))) dX4_factHolds_85 ?_
            refine z_callV (pc := 88) (kc := kX6_expect) (n := 1) (pl := 29) (ci := 5) (C := RX6) (As := [AR (ec 10)]) (stk := []) ct_X6_expect_TF (gdV rfl rfl (iw32 _ (List.mem_of_getElem? (i := 2) rfl)) (iw24 _ (List.mem_of_getElem? (i := 12) rfl)) (iw24 _ (List.mem_of_getElem? (i := 13) rfl)) (iw2 _ (List.mem_of_getElem? (i := 4) rfl)) (iw24 _ (List.mem_of_getElem? (i := 14) rfl))) rfl ⟨rfl, rfl⟩ (by decide +kernel) ⟨by show 3 + 1 ≤ 5 + 2 * d; omega, by show 8 + (2 + 11) + 48 * 3 ≤ 48 * (5 + 2 * d); omega⟩ (by decide) rfl rfl dX4_factHolds_88 rfl rfl (Nat.le_of_ble_eq_true rfl) ?_
            refine ⟨_, S, P, V, m, kh25, ph25, rfl, ⟨th25, by decide, by decide⟩, fun h26 eh26 => ?_⟩
            have frh26 : Fr [29] hi h26 := (Fr.call frh25 eh26.1 (by decide))
            have ff29h26 : FF 29 [6, 7, 8] hi h26 := FF.call ff29h25 (eh26.2.1) (by decide)
            have eph26 := eh26.2.2
            replace eh26 := And.intro eh26.1 (And.intro eh26.2.1 trivial)
            have th26 := eph26
            refine z_iload_n (pc := 91) dX4_factHolds_91 rfl 0 rfl ?_
            refine z_zret (pc := 92) rfl (by omega) dX4_factHolds_92 ?_
            exact hQ v24 h26 ⟨frh26, ff29h26, by first | (exfalso; omega) | exact ⟨by omega, Or.inl ⟨_, _, th26, r_cmpF (by omega) gsa⟩⟩ | exact ⟨by omega, Or.inr ⟨_, _, th26, gca, gea, gda, r_cmp (by omega) gsa gca (by omega)⟩⟩ | exact ⟨by omega, Or.inl ⟨_, _, th26, r_deep (by omega) (by omega)⟩⟩ | exact ⟨by omega, Or.inl ⟨_, _, th26, (r_push (Or.inl (by omega)) (by omega) (by omega)).trans (by rw [if_pos (by omega)]; exact hra)⟩⟩ | exact ⟨by omega, Or.inr ⟨_, nt _, th26, by omega, by show _ = 1 - _; omega, gda.nt, (r_push (Or.inl (by omega)) (by omega) (by omega)).trans (by rw [if_pos (by omega)]; exact hra.trans r_nt)⟩⟩ | exact ⟨by omega, Or.inl ⟨_, _, th26, (r_push (Or.inr (by omega)) (by omega) (by omega)).trans (by rw [if_neg (by omega)]; exact hra)⟩⟩ | exact ⟨by omega, Or.inr ⟨_, _, th26, by omega, gea, gda, (r_push (Or.inr (by omega)) (by omega) (by omega)).trans (by rw [if_neg (by omega)]; exact hra.trans (r_pop (by omega) (by omega)))⟩⟩ | exact ⟨by omega, Or.inl ⟨_, _, th26, (r_push (Or.inr (by omega)) (by omega) (by omega)).trans (by rw [if_neg (by omega)]; exact hra.trans (r_bad (by show (10 : Int) ≠ 7; decide) (by show (10 : Int) ≠ 8; decide) z27 z28 (by rintro (z | z); omega; exact z.2 List.mem_cons_self)))⟩⟩⟩
          · have cmh25 := th25.2.1
            have hra := hrh25
            have gca := gch25
            have gda := gdh25
            have gea := geh25
            have tba := tbh25
            have bq := gdh25.1 (hi 36)
            have z27 := g27h25
            have z28 := g28h25
            refine z_istore_n (pc := 80) (lv' := [(3, AI v24), (2, AR (ec v1)), (0, AR 36), (1, AI o)]) dX4_factHolds_80 rfl (by show _ < 4; decide) rfl ?_
            refine z_aload_n (pc := 81) (x := 36) dX4_factHolds_81 rfl 2 rfl ?_
            refine z_getR (pc := 82) (pl := 35) (f := 0) (ci := 4) (C := RX4) (T := TX4) (N := 5) hu_X4 (by decide) rfl rfl (by decide) rfl (List.mem_cons_of_mem _ (iw4 _ (List.mem_of_getElem? (i := 19) rfl))) rfl dX4_factHolds_82 ?_
            refine z_getstE (pc := 85) (i := 10) (z := 10) (by decide) rfl (List.mem_cons_of_mem _ (iw32 _ (List.mem_of_getElem? (i := 20) rfl))) dX4_factHolds_85 ?_
            refine z_callV (pc := 88) (kc := kX6_expect) (n := 1) (pl := 29) (ci := 5) (C := RX6) (As := [AR (ec 10)]) (stk := []) ct_X6_expect_TS (gdV rfl rfl (iw32 _ (List.mem_of_getElem? (i := 2) rfl)) (iw24 _ (List.mem_of_getElem? (i := 12) rfl)) (iw24 _ (List.mem_of_getElem? (i := 13) rfl)) (iw2 _ (List.mem_of_getElem? (i := 4) rfl)) (iw24 _ (List.mem_of_getElem? (i := 14) rfl))) rfl ⟨rfl, rfl⟩ (by decide +kernel) ⟨by show 3 + 1 ≤ 5 + 2 * d; omega, by show 8 + (2 + 11) + 48 * 3 ≤ 48 * (5 + 2 * d); omega⟩ (by decide) rfl rfl dX4_factHolds_88 rfl rfl (Nat.le_of_ble_eq_true rfl) ?_
            refine ⟨_, S, P, V, m, ch25, rfl, ⟨th25, by decide, by decide⟩, fun h27 eh27 => ?_⟩
            have frh27 : Fr [29] hi h27 := (Fr.call frh25 eh27.1 (by decide))
            have ff29h27 : FF 29 [6, 7, 8] hi h27 := FF.call ff29h25 (eh27.2.1) (by decide)
            have eph27 := eh27.2.2
            replace eh27 := And.intro eh27.1 (And.intro eh27.2.1 trivial)
            rcases eph27 with ⟨sh27, th27⟩ | ⟨sh27, th27⟩
            · skip
              refine z_iload_n (pc := 91) dX4_factHolds_91 rfl 0 rfl ?_
              refine z_zret (pc := 92) rfl (by omega) dX4_factHolds_92 ?_
              exact hQ v24 h27 ⟨frh27, ff29h27, by first | (exfalso; omega) | exact ⟨by omega, Or.inl ⟨_, _, th27, r_cmpF (by omega) gsa⟩⟩ | exact ⟨by omega, Or.inr ⟨_, _, th27, gca, gea, gda, r_cmp (by omega) gsa gca (by omega)⟩⟩ | exact ⟨by omega, Or.inl ⟨_, _, th27, r_deep (by omega) (by omega)⟩⟩ | exact ⟨by omega, Or.inl ⟨_, _, th27, (r_push (Or.inl (by omega)) (by omega) (by omega)).trans (by rw [if_pos (by omega)]; exact hra)⟩⟩ | exact ⟨by omega, Or.inr ⟨_, nt _, th27, by omega, by show _ = 1 - _; omega, gda.nt, (r_push (Or.inl (by omega)) (by omega) (by omega)).trans (by rw [if_pos (by omega)]; exact hra.trans r_nt)⟩⟩ | exact ⟨by omega, Or.inl ⟨_, _, th27, (r_push (Or.inr (by omega)) (by omega) (by omega)).trans (by rw [if_neg (by omega)]; exact hra)⟩⟩ | exact ⟨by omega, Or.inr ⟨_, _, th27, by omega, gea, gda, (r_push (Or.inr (by omega)) (by omega) (by omega)).trans (by rw [if_neg (by omega)]; exact hra.trans (r_pop (by omega) (by omega)))⟩⟩ | exact ⟨by omega, Or.inl ⟨_, _, th27, (r_push (Or.inr (by omega)) (by omega) (by omega)).trans (by rw [if_neg (by omega)]; exact hra.trans (r_bad (by show (10 : Int) ≠ 7; decide) (by show (10 : Int) ≠ 8; decide) z27 z28 (by rintro (z | z); omega; exact z.2 List.mem_cons_self)))⟩⟩⟩
            · skip
              refine z_iload_n (pc := 91) dX4_factHolds_91 rfl 0 rfl ?_
              refine z_zret (pc := 92) rfl (by omega) dX4_factHolds_92 ?_
              exact hQ v24 h27 ⟨frh27, ff29h27, by first | (exfalso; omega) | exact ⟨by omega, Or.inl ⟨_, _, th27, r_cmpF (by omega) gsa⟩⟩ | exact ⟨by omega, Or.inr ⟨_, _, th27, gca, gea, gda, r_cmp (by omega) gsa gca (by omega)⟩⟩ | exact ⟨by omega, Or.inl ⟨_, _, th27, r_deep (by omega) (by omega)⟩⟩ | exact ⟨by omega, Or.inl ⟨_, _, th27, (r_push (Or.inl (by omega)) (by omega) (by omega)).trans (by rw [if_pos (by omega)]; exact hra)⟩⟩ | exact ⟨by omega, Or.inr ⟨_, nt _, th27, by omega, by show _ = 1 - _; omega, gda.nt, (r_push (Or.inl (by omega)) (by omega) (by omega)).trans (by rw [if_pos (by omega)]; exact hra.trans r_nt)⟩⟩ | exact ⟨by omega, Or.inl ⟨_, _, th27, (r_push (Or.inr (by omega)) (by omega) (by omega)).trans (by rw [if_neg (by omega)]; exact hra)⟩⟩ | exact ⟨by omega, Or.inr ⟨_, _, th27, by omega, gea, gda, (r_push (Or.inr (by omega)) (by omega) (by omega)).trans (by rw [if_neg (by omega)]; exact hra.trans (r_pop (by omega) (by omega)))⟩⟩ | exact ⟨by omega, Or.inl ⟨_, _, th27, (r_push (Or.inr (by omega)) (by omega) (by omega)).trans (by rw [if_neg (by omega)]; exact hra.trans (r_bad (by show (10 : Int) ≠ 7; decide) (by show (10 : Int) ≠ 8; decide) z27 z28 (by rintro (z | z); omega; exact z.2 List.mem_cons_self)))⟩⟩⟩
        · refine z_aload_n (pc := 57) (x := 36) dX4_factHolds_57 rfl 1 rfl ?_
          refine z_iload_n (pc := 58) dX4_factHolds_58 rfl 2 rfl ?_
          refine z_iconst (pc := 59) (v := 1) dX4_factHolds_59 rfl ?_
          refine z_iadd (pc := 60) dX4_factHolds_60 (fun v28 ev28 => ?_)
          refine z_callV (pc := 61) (kc := (kX4_factHolds e)) (n := 1) (pl := 35) (ci := 4) (C := RX4) (As := [AI v28]) (stk := []) (hF e he) (gdV rfl rfl (iw32 _ (List.mem_of_getElem? (i := 13) rfl)) (iw32 _ (List.mem_of_getElem? (i := 14) rfl)) (iw32 _ (List.mem_of_getElem? (i := 15) rfl)) (iw2 _ (List.mem_of_getElem? (i := 12) rfl)) (iw32 _ (List.mem_of_getElem? (i := 17) rfl))) rfl ⟨rfl, rfl⟩ (by decide +kernel) ⟨by show 5 + 2 * e + 1 ≤ 5 + 2 * d; omega, by show 8 + (4 + 11) + 48 * (5 + 2 * e) ≤ 48 * (5 + 2 * d); omega⟩ (by decide) rfl rfl dX4_factHolds_61 rfl rfl (Nat.le_of_ble_eq_true rfl) ?_
          refine ⟨_, S, P, V, m, ((c + 1)), (7 :: W), G, rfl, ⟨th21, by rw [(congrFun (eh21.1 35 (by decide)) 3 : h21 35 3 = hi 35 3), (eh21.1 36 (by decide) : h21 36 = hi 36)]; exact ⟨ho, hph, hV⟩, by omega, by rw [opn_7]; omega, by omega⟩, fun v29 h30 eh30 => ?_⟩
          have frh30 : Fr [29] hi h30 := (Fr.call frh21 eh30.1 (by decide))
          have ff29h30 : FF 29 [6, 7, 8] hi h30 := FF.call ff29h21 (eh30.2.1) (by decide)
          rw [(congrFun (eh21.1 35 (by decide)) 3 : h21 35 3 = hi 35 3)] at eh30
          rw [(eh21.1 36 (by decide) : h21 36 = hi 36)] at eh30
          have eph30 := eh30.2.2
          replace eh30 := And.intro eh30.1 (And.intro eh30.2.1 trivial)
          obtain ⟨tbh30, eph30⟩ := eph30
          rcases eph30 with ⟨kh30, ph30, th30, hrh30⟩ | ⟨ch30, gh30, th30, gch30, geh30, gdh30, hrh30⟩
          · have hra := hrh30
            have tba := tbh30
            refine z_if_ne (pc := 64) (tgt := 71) dX4_factHolds_64 (by decide) ⟨by omega, by omega⟩ (fun c31 => ?_) (fun c31 => ?_)
            · refine z_iconst (pc := 71) (v := 0) dX4_factHolds_71 rfl ?_
              refine z_zret (pc := 72) rfl (by decide) dX4_factHolds_72 ?_
              exact hQ 0 h30 ⟨frh30, ff29h30, by first | (exfalso; omega) | exact ⟨by omega, Or.inl ⟨_, _, th30, r_cmpF (by omega) gsa⟩⟩ | exact ⟨by omega, Or.inr ⟨_, _, th30, gca, gea, gda, r_cmp (by omega) gsa gca (by omega)⟩⟩ | exact ⟨by omega, Or.inl ⟨_, _, th30, r_deep (by omega) (by omega)⟩⟩ | exact ⟨by omega, Or.inl ⟨_, _, th30, (r_push (Or.inl (by omega)) (by omega) (by omega)).trans (by rw [if_pos (by omega)]; exact hra)⟩⟩ | exact ⟨by omega, Or.inr ⟨_, nt _, th30, by omega, by show _ = 1 - _; omega, gda.nt, (r_push (Or.inl (by omega)) (by omega) (by omega)).trans (by rw [if_pos (by omega)]; exact hra.trans r_nt)⟩⟩ | exact ⟨by omega, Or.inl ⟨_, _, th30, (r_push (Or.inr (by omega)) (by omega) (by omega)).trans (by rw [if_neg (by omega)]; exact hra)⟩⟩ | exact ⟨by omega, Or.inr ⟨_, _, th30, by omega, gea, gda, (r_push (Or.inr (by omega)) (by omega) (by omega)).trans (by rw [if_neg (by omega)]; exact hra.trans (r_pop (by omega) (by omega)))⟩⟩ | exact ⟨by omega, Or.inl ⟨_, _, th30, (r_push (Or.inr (by omega)) (by omega) (by omega)).trans (by rw [if_neg (by omega)]; exact hra.trans (r_bad (by show (10 : Int) ≠ 7; decide) (by show (10 : Int) ≠ 8; decide) z27 z28 (by rintro (z | z); omega; exact z.2 List.mem_cons_self)))⟩⟩⟩
            · refine z_iconst (pc := 67) (v := 1) dX4_factHolds_67 rfl ?_
              refine z_goto (pc := 68) (tgt := 72) dX4_factHolds_68 (by decide) ?_
              refine z_zret (pc := 72) rfl (by decide) dX4_factHolds_72 ?_
              exact hQ 1 h30 ⟨frh30, ff29h30, by first | (exfalso; omega) | exact ⟨by omega, Or.inl ⟨_, _, th30, r_cmpF (by omega) gsa⟩⟩ | exact ⟨by omega, Or.inr ⟨_, _, th30, gca, gea, gda, r_cmp (by omega) gsa gca (by omega)⟩⟩ | exact ⟨by omega, Or.inl ⟨_, _, th30, r_deep (by omega) (by omega)⟩⟩ | exact ⟨by omega, Or.inl ⟨_, _, th30, (r_push (Or.inl (by omega)) (by omega) (by omega)).trans (by rw [if_pos (by omega)]; exact hra)⟩⟩ | exact ⟨by omega, Or.inr ⟨_, nt _, th30, by omega, by show _ = 1 - _; omega, gda.nt, (r_push (Or.inl (by omega)) (by omega) (by omega)).trans (by rw [if_pos (by omega)]; exact hra.trans r_nt)⟩⟩ | exact ⟨by omega, Or.inl ⟨_, _, th30, (r_push (Or.inr (by omega)) (by omega) (by omega)).trans (by rw [if_neg (by omega)]; exact hra)⟩⟩ | exact ⟨by omega, Or.inr ⟨_, _, th30, by omega, gea, gda, (r_push (Or.inr (by omega)) (by omega) (by omega)).trans (by rw [if_neg (by omega)]; exact hra.trans (r_pop (by omega) (by omega)))⟩⟩ | exact ⟨by omega, Or.inl ⟨_, _, th30, (r_push (Or.inr (by omega)) (by omega) (by omega)).trans (by rw [if_neg (by omega)]; exact hra.trans (r_bad (by show (10 : Int) ≠ 7; decide) (by show (10 : Int) ≠ 8; decide) z27 z28 (by rintro (z | z); omega; exact z.2 List.mem_cons_self)))⟩⟩⟩
          · have cmh30 := th30.2.1
            have hra := hrh30
            have gca := gch30
            have gda := gdh30
            have gea := geh30
            have tba := tbh30
            have bq := gdh30.1 (hi 36)
            refine z_if_ne (pc := 64) (tgt := 71) dX4_factHolds_64 (by decide) ⟨by omega, by omega⟩ (fun c32 => ?_) (fun c32 => ?_)
            · refine z_iconst (pc := 71) (v := 0) dX4_factHolds_71 rfl ?_
              refine z_zret (pc := 72) rfl (by decide) dX4_factHolds_72 ?_
              exact hQ 0 h30 ⟨frh30, ff29h30, by first | (exfalso; omega) | exact ⟨by omega, Or.inl ⟨_, _, th30, r_cmpF (by omega) gsa⟩⟩ | exact ⟨by omega, Or.inr ⟨_, _, th30, gca, gea, gda, r_cmp (by omega) gsa gca (by omega)⟩⟩ | exact ⟨by omega, Or.inl ⟨_, _, th30, r_deep (by omega) (by omega)⟩⟩ | exact ⟨by omega, Or.inl ⟨_, _, th30, (r_push (Or.inl (by omega)) (by omega) (by omega)).trans (by rw [if_pos (by omega)]; exact hra)⟩⟩ | exact ⟨by omega, Or.inr ⟨_, nt _, th30, by omega, by show _ = 1 - _; omega, gda.nt, (r_push (Or.inl (by omega)) (by omega) (by omega)).trans (by rw [if_pos (by omega)]; exact hra.trans r_nt)⟩⟩ | exact ⟨by omega, Or.inl ⟨_, _, th30, (r_push (Or.inr (by omega)) (by omega) (by omega)).trans (by rw [if_neg (by omega)]; exact hra)⟩⟩ | exact ⟨by omega, Or.inr ⟨_, _, th30, by omega, gea, gda, (r_push (Or.inr (by omega)) (by omega) (by omega)).trans (by rw [if_neg (by omega)]; exact hra.trans (r_pop (by omega) (by omega)))⟩⟩ | exact ⟨by omega, Or.inl ⟨_, _, th30, (r_push (Or.inr (by omega)) (by omega) (by omega)).trans (by rw [if_neg (by omega)]; exact hra.trans (r_bad (by show (10 : Int) ≠ 7; decide) (by show (10 : Int) ≠ 8; decide) z27 z28 (by rintro (z | z); omega; exact z.2 List.mem_cons_self)))⟩⟩⟩
            · refine z_iconst (pc := 67) (v := 1) dX4_factHolds_67 rfl ?_
              refine z_goto (pc := 68) (tgt := 72) dX4_factHolds_68 (by decide) ?_
              refine z_zret (pc := 72) rfl (by decide) dX4_factHolds_72 ?_
              exact hQ 1 h30 ⟨frh30, ff29h30, by first | (exfalso; omega) | exact ⟨by omega, Or.inl ⟨_, _, th30, r_cmpF (by omega) gsa⟩⟩ | exact ⟨by omega, Or.inr ⟨_, _, th30, gca, gea, gda, r_cmp (by omega) gsa gca (by omega)⟩⟩ | exact ⟨by omega, Or.inl ⟨_, _, th30, r_deep (by omega) (by omega)⟩⟩ | exact ⟨by omega, Or.inl ⟨_, _, th30, (r_push (Or.inl (by omega)) (by omega) (by omega)).trans (by rw [if_pos (by omega)]; exact hra)⟩⟩ | exact ⟨by omega, Or.inr ⟨_, nt _, th30, by omega, by show _ = 1 - _; omega, gda.nt, (r_push (Or.inl (by omega)) (by omega) (by omega)).trans (by rw [if_pos (by omega)]; exact hra.trans r_nt)⟩⟩ | exact ⟨by omega, Or.inl ⟨_, _, th30, (r_push (Or.inr (by omega)) (by omega) (by omega)).trans (by rw [if_neg (by omega)]; exact hra)⟩⟩ | exact ⟨by omega, Or.inr ⟨_, _, th30, by omega, gea, gda, (r_push (Or.inr (by omega)) (by omega) (by omega)).trans (by rw [if_neg (by omega)]; exact hra.trans (r_pop (by omega) (by omega)))⟩⟩ | exact ⟨by omega, Or.inl ⟨_, _, th30, (r_push (Or.inr (by omega)) (by omega) (by omega)).trans (by rw [if_neg (by omega)]; exact hra.trans (r_bad (by show (10 : Int) ≠ 7; decide) (by show (10 : Int) ≠ 8; decide) z27 z28 (by rintro (z | z); omega; exact z.2 List.mem_cons_self)))⟩⟩⟩
      · refine z_aload_n (pc := 32) (x := 36) dX4_factHolds_32 rfl 1 rfl ?_
        refine z_getR (pc := 33) (pl := 35) (f := 0) (ci := 4) (C := RX4) (T := TX4) (N := 5) hu_X4 (by decide) rfl rfl (by decide) rfl (List.mem_cons_of_mem _ (iw4 _ (List.mem_of_getElem? (i := 19) rfl))) rfl dX4_factHolds_33 ?_
        refine z_iconst (pc := 36) (v := 2) dX4_factHolds_36 rfl ?_
        refine z_callV (pc := 37) (kc := kX6_fail) (n := 1) (pl := 29) (ci := 5) (C := RX6) (As := [AI 2]) (stk := []) ct_X6_fail_TS (gdV rfl rfl (iw32 _ (List.mem_of_getElem? (i := 0) rfl)) (iw23 _ (List.mem_of_getElem? (i := 13) rfl)) (iw23 _ (List.mem_of_getElem? (i := 14) rfl)) (iw2 _ (List.mem_of_getElem? (i := 4) rfl)) (iw23 _ (List.mem_of_getElem? (i := 15) rfl))) rfl ⟨rfl, rfl⟩ (by decide +kernel) ⟨by show 1 + 1 ≤ 5 + 2 * d; omega, by show 8 + (2 + 11) + 48 * 1 ≤ 48 * (5 + 2 * d); omega⟩ (by decide) rfl rfl dX4_factHolds_37 rfl rfl (Nat.le_of_ble_eq_true rfl) ?_
        refine ⟨_, S, P, V, m, c, rfl, ⟨t0, ⟨by decide, by decide⟩, by decide⟩, fun h33 eh33 => ?_⟩
        have frh33 : Fr [29] hi h33 := (Fr.call (Fr.rf) eh33.1 (by decide))
        have ff29h33 : FF 29 [6, 7, 8] hi h33 := FF.call (FF.rf) (eh33.2.1) (by decide)
        have eph33 := eh33.2.2
        replace eh33 := And.intro eh33.1 (And.intro eh33.2.1 trivial)
        have th33 := eph33
        refine z_iconst (pc := 40) (v := 0) dX4_factHolds_40 rfl ?_
        refine z_zret (pc := 41) rfl (by decide) dX4_factHolds_41 ?_
        exact hQ 0 h33 ⟨frh33, ff29h33, by first | (exfalso; omega) | exact ⟨by omega, Or.inl ⟨_, _, th33, r_cmpF (by omega) gsa⟩⟩ | exact ⟨by omega, Or.inr ⟨_, _, th33, gca, gea, gda, r_cmp (by omega) gsa gca (by omega)⟩⟩ | exact ⟨by omega, Or.inl ⟨_, _, th33, r_deep (by omega) (by omega)⟩⟩ | exact ⟨by omega, Or.inl ⟨_, _, th33, (r_push (Or.inl (by omega)) (by omega) (by omega)).trans (by rw [if_pos (by omega)]; exact hra)⟩⟩ | exact ⟨by omega, Or.inr ⟨_, nt _, th33, by omega, by show _ = 1 - _; omega, gda.nt, (r_push (Or.inl (by omega)) (by omega) (by omega)).trans (by rw [if_pos (by omega)]; exact hra.trans r_nt)⟩⟩ | exact ⟨by omega, Or.inl ⟨_, _, th33, (r_push (Or.inr (by omega)) (by omega) (by omega)).trans (by rw [if_neg (by omega)]; exact hra)⟩⟩ | exact ⟨by omega, Or.inr ⟨_, _, th33, by omega, gea, gda, (r_push (Or.inr (by omega)) (by omega) (by omega)).trans (by rw [if_neg (by omega)]; exact hra.trans (r_pop (by omega) (by omega)))⟩⟩ | exact ⟨by omega, Or.inl ⟨_, _, th33, (r_push (Or.inr (by omega)) (by omega) (by omega)).trans (by rw [if_neg (by omega)]; exact hra.trans (r_bad (by show (10 : Int) ≠ 7; decide) (by show (10 : Int) ≠ 8; decide) z27 z28 (by rintro (z | z); omega; exact z.2 List.mem_cons_self)))⟩⟩⟩
    · refine z_aload_n (pc := 22) (x := 36) dX4_factHolds_22 rfl 1 rfl ?_
      refine z_callV (pc := 23) (kc := kX4_comparisonHolds) (n := 0) (pl := 35) (ci := 4) (C := RX4) (As := []) (stk := []) ct_X4_comparisonHolds_TS (gdV rfl rfl (iw32 _ (List.mem_of_getElem? (i := 21) rfl)) (iw32 _ (List.mem_of_getElem? (i := 22) rfl)) (iw32 _ (List.mem_of_getElem? (i := 23) rfl)) (iw2 _ (List.mem_of_getElem? (i := 12) rfl)) (iw33 _ (List.mem_of_getElem? (i := 0) rfl))) rfl ⟨rfl, rfl⟩ (by decide +kernel) ⟨by show 4 + 1 ≤ 5 + 2 * d; omega, by show 8 + (4 + 11) + 48 * 4 ≤ 48 * (5 + 2 * d); omega⟩ (by decide) rfl rfl dX4_factHolds_23 rfl rfl (Nat.le_of_ble_eq_true rfl) ?_
      refine ⟨S, P, V, m, c, rfl, ⟨t0, ⟨ho, hph, hV⟩⟩, fun v34 h35 eh35 => ?_⟩
      have frh35 : Fr [29] hi h35 := (Fr.call (Fr.rf) eh35.1 (by decide))
      have ff29h35 : FF 29 [6, 7, 8] hi h35 := FF.call (FF.rf) (eh35.2.1) (by decide)
      have eph35 := eh35.2.2
      replace eh35 := And.intro eh35.1 (And.intro eh35.2.1 trivial)
      obtain ⟨tbh35, eph35⟩ := eph35
      rcases eph35 with ⟨ph35, th35, gsh35⟩ | ⟨ch35, gh35, th35, geh35, gsh35, gch35, gdh35⟩
      · have gsa := gsh35
        have tba := tbh35
        refine z_zret (pc := 26) rfl (by omega) dX4_factHolds_26 ?_
        exact hQ v34 h35 ⟨frh35, ff29h35, by first | (exfalso; omega) | exact ⟨by omega, Or.inl ⟨_, _, th35, r_cmpF (by omega) gsa⟩⟩ | exact ⟨by omega, Or.inr ⟨_, _, th35, gca, gea, gda, r_cmp (by omega) gsa gca (by omega)⟩⟩ | exact ⟨by omega, Or.inl ⟨_, _, th35, r_deep (by omega) (by omega)⟩⟩ | exact ⟨by omega, Or.inl ⟨_, _, th35, (r_push (Or.inl (by omega)) (by omega) (by omega)).trans (by rw [if_pos (by omega)]; exact hra)⟩⟩ | exact ⟨by omega, Or.inr ⟨_, nt _, th35, by omega, by show _ = 1 - _; omega, gda.nt, (r_push (Or.inl (by omega)) (by omega) (by omega)).trans (by rw [if_pos (by omega)]; exact hra.trans r_nt)⟩⟩ | exact ⟨by omega, Or.inl ⟨_, _, th35, (r_push (Or.inr (by omega)) (by omega) (by omega)).trans (by rw [if_neg (by omega)]; exact hra)⟩⟩ | exact ⟨by omega, Or.inr ⟨_, _, th35, by omega, gea, gda, (r_push (Or.inr (by omega)) (by omega) (by omega)).trans (by rw [if_neg (by omega)]; exact hra.trans (r_pop (by omega) (by omega)))⟩⟩ | exact ⟨by omega, Or.inl ⟨_, _, th35, (r_push (Or.inr (by omega)) (by omega) (by omega)).trans (by rw [if_neg (by omega)]; exact hra.trans (r_bad (by show (10 : Int) ≠ 7; decide) (by show (10 : Int) ≠ 8; decide) z27 z28 (by rintro (z | z); omega; exact z.2 List.mem_cons_self)))⟩⟩⟩
      · have cmh35 := th35.2.1
        have gsa := gsh35
        have gca := gch35
        have gda := gdh35
        have gea := geh35
        have tba := tbh35
        refine z_zret (pc := 26) rfl (by omega) dX4_factHolds_26 ?_
        exact hQ v34 h35 ⟨frh35, ff29h35, by first | (exfalso; omega) | exact ⟨by omega, Or.inl ⟨_, _, th35, r_cmpF (by omega) gsa⟩⟩ | exact ⟨by omega, Or.inr ⟨_, _, th35, gca, gea, gda, r_cmp (by omega) gsa gca (by omega)⟩⟩ | exact ⟨by omega, Or.inl ⟨_, _, th35, r_deep (by omega) (by omega)⟩⟩ | exact ⟨by omega, Or.inl ⟨_, _, th35, (r_push (Or.inl (by omega)) (by omega) (by omega)).trans (by rw [if_pos (by omega)]; exact hra)⟩⟩ | exact ⟨by omega, Or.inr ⟨_, nt _, th35, by omega, by show _ = 1 - _; omega, gda.nt, (r_push (Or.inl (by omega)) (by omega) (by omega)).trans (by rw [if_pos (by omega)]; exact hra.trans r_nt)⟩⟩ | exact ⟨by omega, Or.inl ⟨_, _, th35, (r_push (Or.inr (by omega)) (by omega) (by omega)).trans (by rw [if_neg (by omega)]; exact hra)⟩⟩ | exact ⟨by omega, Or.inr ⟨_, _, th35, by omega, gea, gda, (r_push (Or.inr (by omega)) (by omega) (by omega)).trans (by rw [if_neg (by omega)]; exact hra.trans (r_pop (by omega) (by omega)))⟩⟩ | exact ⟨by omega, Or.inl ⟨_, _, th35, (r_push (Or.inr (by omega)) (by omega) (by omega)).trans (by rw [if_neg (by omega)]; exact hra.trans (r_bad (by show (10 : Int) ≠ 7; decide) (by show (10 : Int) ≠ 8; decide) z27 z28 (by rintro (z | z); omega; exact z.2 List.mem_cons_self)))⟩⟩⟩

theorem ct_X4_factHolds_TF : Ct (kX4_factHolds 5) yX4_factHolds (fun a hi Q => ∃ o : Int, ∃ S : Nat → Int, ∃ P : Nat → Int, ∃ V : Nat → Int, ∃ m : Nat, ∃ k : Int, ∃ p : Int, a = [AR 36, AI o] ∧ ((TF hi S P V m k p) ∧ True) ∧ ∀ (v : Int) (h2 : HI), (Fr [29] hi h2 ∧ FF 29 [6, 7, 8] hi h2 ∧ ((v = 0 ∨ v = 1) ∧ TF h2 S P V m k p)) → Q (AI v) h2) := by
  refine Ct.of (ws' := _) (by decide +kernel) rfl rfl ?_
  intro a hi Q hT
  obtain ⟨o, S, P, V, m, k, p, rfl, hpre, hQ⟩ := hT
  refine ⟨Nat.le_of_ble_eq_true rfl, ?_⟩
  show Z (kX4_factHolds 5) Q 0 [(0, AR 36), (1, AI o)] [] hi
  have t0 := hpre.1
  refine z_aload_n (pc := 0) (x := 36) dX4_factHolds_0 rfl 0 rfl ?_
  refine z_getR (pc := 1) (pl := 35) (f := 0) (ci := 4) (C := RX4) (T := TX4) (N := 5) hu_X4 (by decide) rfl rfl (by decide) rfl (List.mem_cons_of_mem _ (iw4 _ (List.mem_of_getElem? (i := 19) rfl))) rfl dX4_factHolds_1 ?_
  refine z_callV (pc := 4) (kc := kX6_sign) (n := 0) (pl := 29) (ci := 5) (C := RX6) (As := []) (stk := []) ct_X6_sign_TF (gdV rfl rfl (iw31 _ (List.mem_of_getElem? (i := 23) rfl)) (iw22 _ (List.mem_of_getElem? (i := 10) rfl)) (iw22 _ (List.mem_of_getElem? (i := 11) rfl)) (iw2 _ (List.mem_of_getElem? (i := 4) rfl)) (iw22 _ (List.mem_of_getElem? (i := 12) rfl))) rfl ⟨rfl, rfl⟩ (by decide +kernel) ⟨by decide, by decide⟩ (by decide) rfl rfl dX4_factHolds_4 rfl rfl (Nat.le_of_ble_eq_true rfl) ?_
  refine ⟨S, P, V, m, k, p, rfl, t0, fun v1 ev1 => ?_⟩
  obtain rfl := ev1
  refine z_astore_n (pc := 7) (lv' := [(2, AR (ec 1)), (0, AR 36), (1, AI o)]) dX4_factHolds_7 rfl (by show _ < 4; decide) (by unfold ec; split <;> omega) rfl ?_
  refine z_aload_n (pc := 8) (x := (ec 1)) dX4_factHolds_8 rfl 0 rfl ?_
  refine z_getstE (pc := 9) (i := 29) (z := 29) (by decide) rfl (List.mem_cons_of_mem _ (iw32 _ (List.mem_of_getElem? (i := 18) rfl))) dX4_factHolds_9 ?_
  refine z_acmp_eq (pc := 12) (tgt := 27) dX4_factHolds_12 (by decide) (by decide) (by decide) (fun q => absurd q (by decide)) (fun _ => ?_)
  refine z_aload_n (pc := 15) (x := (ec 1)) dX4_factHolds_15 rfl 0 rfl ?_
  refine z_getstE (pc := 16) (i := 9) (z := 9) (by decide) rfl (List.mem_cons_of_mem _ (iw32 _ (List.mem_of_getElem? (i := 19) rfl))) dX4_factHolds_16 ?_
  refine z_acmp_eq (pc := 19) (tgt := 27) dX4_factHolds_19 (by decide) (by decide) (by decide) (fun q => absurd q (by decide)) (fun _ => ?_)
  refine z_aload_n (pc := 22) (x := 36) dX4_factHolds_22 rfl 1 rfl ?_
  refine z_callV (pc := 23) (kc := kX4_comparisonHolds) (n := 0) (pl := 35) (ci := 4) (C := RX4) (As := []) (stk := []) ct_X4_comparisonHolds_TF (gdV rfl rfl (iw32 _ (List.mem_of_getElem? (i := 21) rfl)) (iw32 _ (List.mem_of_getElem? (i := 22) rfl)) (iw32 _ (List.mem_of_getElem? (i := 23) rfl)) (iw2 _ (List.mem_of_getElem? (i := 12) rfl)) (iw33 _ (List.mem_of_getElem? (i := 0) rfl))) rfl ⟨rfl, rfl⟩ (by decide +kernel) ⟨by decide, by decide⟩ (by decide) rfl rfl dX4_factHolds_23 rfl rfl (Nat.le_of_ble_eq_true rfl) ?_
  refine ⟨S, P, V, m, k, p, rfl, ⟨t0, trivial⟩, fun v2 h3 eh3 => ?_⟩
  have frh3 : Fr [29] hi h3 := (Fr.call (Fr.rf) eh3.1 (by decide))
  have ff29h3 : FF 29 [6, 7, 8] hi h3 := FF.call (FF.rf) (eh3.2.1) (by decide)
  have eph3 := eh3.2.2
  replace eh3 := And.intro eh3.1 (And.intro eh3.2.1 trivial)
  obtain ⟨tbh3, th3⟩ := eph3
  refine z_zret (pc := 26) rfl (by omega) dX4_factHolds_26 ?_
  exact hQ v2 h3 ⟨frh3, ff29h3, ⟨by omega, th3⟩⟩

theorem ct_X4_condHolds_TS (d : Nat) (hF : Ct (kX4_factHolds d) yX4_factHolds (fun a hi Q => ∃ o : Int, ∃ S : Nat → Int, ∃ P : Nat → Int, ∃ V : Nat → Int, ∃ m : Nat, ∃ c : Nat, ∃ W : List Int, ∃ G : List Ex, a = [AR 36, AI o] ∧ ((TS hi S P V m c) ∧ ((hi 35 3 = 0 ∨ hi 35 3 = 1) ∧ (∀ j : Nat, j < 6 → -4000 ≤ hi 36 j ∧ hi 36 j ≤ 4000) ∧ (∀ i : Nat, i ≤ m → S i = 2 → 0 ≤ V i ∧ V i ≤ 999)) ∧ (o + d = 5 ∧ (opn W : Int) = o ∧ 0 ≤ o)) ∧ ∀ (v : Int) (h2 : HI), (Fr [29] hi h2 ∧ FF 29 [6, 7, 8] hi h2 ∧ ((v = 0 ∨ v = 1) ∧ ((∃ k p, TF h2 S P V m k p ∧ res (hi 35 3) S P V (0, c, W, G) = .inl (k, p)) ∨ (∃ (c2 : Nat) (g : Ex), TS h2 S P V m c2 ∧ c < c2 ∧ v = g (hi 36) ∧ QG (hi 35 3) g ∧ res (hi 35 3) S P V (0, c, W, G) = res (hi 35 3) S P V (1, c2, W, g :: G))))) → Q (AI v) h2)) : Ct (kX4_condHolds d) yX4_condHolds (fun a hi Q => ∃ o : Int, ∃ S : Nat → Int, ∃ P : Nat → Int, ∃ V : Nat → Int, ∃ m : Nat, ∃ c : Nat, ∃ W : List Int, ∃ G : List Ex, a = [AR 36, AI o] ∧ ((TS hi S P V m c) ∧ ((hi 35 3 = 0 ∨ hi 35 3 = 1) ∧ (∀ j : Nat, j < 6 → -4000 ≤ hi 36 j ∧ hi 36 j ≤ 4000) ∧ (∀ i : Nat, i ≤ m → S i = 2 → 0 ≤ V i ∧ V i ≤ 999)) ∧ (o + d = 5 ∧ (opn W : Int) = o ∧ 0 ≤ o) ∧ (topW W ≠ 7 ∧ topW W ≠ 8 ∧ topW W ≠ 9)) ∧ ∀ (v : Int) (h2 : HI), (Fr [29] hi h2 ∧ FF 29 [6, 7, 8] hi h2 ∧ ((v = 0 ∨ v = 1) ∧ ((∃ k p, TF h2 S P V m k p ∧ res (hi 35 3) S P V (0, c, W, G) = .inl (k, p)) ∨ (∃ (c2 : Nat) (g : Ex), TS h2 S P V m c2 ∧ c < c2 ∧ v = g (hi 36) ∧ QG (hi 35 3) g ∧ (S c2 ≠ 27 ∧ S c2 ≠ 28) ∧ res (hi 35 3) S P V (0, c, W, G) = res (hi 35 3) S P V (1, c2, W, g :: G))))) → Q (AI v) h2) := by
  refine Ct.of (ws' := _) (by decide +kernel) rfl rfl ?_
  intro a hi Q hT
  obtain ⟨o, S, P, V, m, c, W, G, rfl, hpre, hQ⟩ := hT
  refine ⟨Nat.le_of_ble_eq_true rfl, ?_⟩
  show Z (kX4_condHolds d) Q 0 [(0, AR 36), (1, AI o)] [] hi
  have t0 := hpre.1
  have hoh := hpre.2.1
  obtain ⟨ho, hph, hV⟩ := hoh
  have cm := t0.2.1
  have mb := t0.1.2.1
  have ho5 := hpre.2.2.1
  have hw := hpre.2.2.2
  refine z_iconst (pc := 0) (v := 0) dX4_condHolds_0 rfl ?_
  refine z_istore_n (pc := 1) (lv' := [(2, AI 0), (0, AR 36), (1, AI o)]) dX4_condHolds_1 rfl (by show _ < 5; decide) rfl ?_
  refine z_aload_n (pc := 2) (x := 36) dX4_condHolds_2 rfl 1 rfl ?_
  refine z_iload_n (pc := 3) dX4_condHolds_3 rfl 2 rfl ?_
  refine z_callV (pc := 4) (kc := (kX4_factHolds d)) (n := 1) (pl := 35) (ci := 4) (C := RX4) (As := [AI o]) (stk := []) hF (gdV rfl rfl (iw32 _ (List.mem_of_getElem? (i := 13) rfl)) (iw32 _ (List.mem_of_getElem? (i := 14) rfl)) (iw32 _ (List.mem_of_getElem? (i := 15) rfl)) (iw2 _ (List.mem_of_getElem? (i := 12) rfl)) (iw32 _ (List.mem_of_getElem? (i := 17) rfl))) rfl ⟨rfl, rfl⟩ (by decide +kernel) ⟨by show 5 + 2 * d + 1 ≤ 6 + 2 * d; omega, by show 8 + (4 + 11) + 48 * (5 + 2 * d) ≤ 48 * (6 + 2 * d); omega⟩ (by decide) rfl rfl dX4_condHolds_4 rfl rfl (Nat.le_of_ble_eq_true rfl) ?_
  refine ⟨_, S, P, V, m, c, W, G, rfl, ⟨t0, ⟨ho, hph, hV⟩, ho5⟩, fun v1 h2 eh2 => ?_⟩
  have frh2 : Fr [29] hi h2 := (Fr.call (Fr.rf) eh2.1 (by decide))
  have ff29h2 : FF 29 [6, 7, 8] hi h2 := FF.call (FF.rf) (eh2.2.1) (by decide)
  have eph2 := eh2.2.2
  replace eh2 := And.intro eh2.1 (And.intro eh2.2.1 trivial)
  obtain ⟨tbh2, eph2⟩ := eph2
  rcases eph2 with ⟨kh2, ph2, th2, hrh2⟩ | ⟨ch2, gh2, th2, gch2, geh2, gdh2, hrh2⟩
  · have hra := hrh2
    have tba := tbh2
    refine z_istore_n (pc := 7) (lv' := [(3, AI v1), (2, AI 0), (0, AR 36), (1, AI o)]) dX4_condHolds_7 rfl (by show _ < 5; decide) rfl ?_
    refine z_iconst (pc := 8) (v := 0) dX4_condHolds_8 rfl ?_
    refine z_istore (pc := 9) (lv' := [(4, AI 0), (3, AI v1), (2, AI 0), (0, AR 36), (1, AI o)]) dX4_condHolds_9 (by show _ < 5; decide) rfl ?_
    have J11 : ∀ (N : Nat) (any all i : Int) (hk : HI), ((any = 0 ∨ any = 1) ∧ (all = 0 ∨ all = 1)) → (0 ≤ i ∧ i ≤ 600) → ((∃ (c2 : Nat) (g : Ex), TS hk S P V m c2 ∧ (c < c2 ∧ i + 1 ≤ c2) ∧ all = g (hi 36) ∧ QG (hi 35 3) g ∧ any = 0 ∧ res (hi 35 3) S P V (0, c, W, G) = res (hi 35 3) S P V (1, c2, W, g :: G)) ∨ (∃ (c2 : Nat) (g y : Ex), TS hk S P V m c2 ∧ (c < c2 ∧ i + 1 ≤ c2) ∧ all = g (hi 36) ∧ QG (hi 35 3) g ∧ any = y (hi 36) ∧ QG (hi 35 3) y ∧ res (hi 35 3) S P V (0, c, W, G) = res (hi 35 3) S P V (1, c2, 9 :: W, g :: y :: G)) ∨ (∃ k p, TF hk S P V m k p ∧ res (hi 35 3) S P V (0, c, W, G) = .inl (k, p))) → (Fr [29] hi hk) → (FF 29 [6, 7, 8] hi hk) → ((600 - i).toNat) < N → Z (kX4_condHolds d) Q 11 [(4, AI i), (3, AI all), (2, AI any), (0, AR 36), (1, AI o)] [] hk := by
      intro N
      induction N with
      | zero => intro any all i hk _ _ _ _ _ _; exact absurd (by assumption) (Nat.not_lt_zero _)
      | succ N ih11 =>
        intro any all i hk b0 i0 i1 frlhk ffl29hk hm11
        rcases i1 with ⟨c2, g, t1, gb, ge, gd, ga, hr⟩ | ⟨c2, g, y, t1, gb, ge, gd, ga, gy, hr⟩ | ⟨k1, p1, t1, hr⟩
        · have cb := t1.2.1
          refine z_iload (pc := 11) dX4_condHolds_11 0 rfl ?_
          refine z_sipush (pc := 13) (v := 600) dX4_condHolds_13 (by decide +kernel) ?_
          refine z_icmp_ge (pc := 16) (tgt := 72) dX4_condHolds_16 (by decide) ⟨by omega, by omega⟩ ⟨by decide, by decide⟩ (fun c3 => ?_) (fun c3 => ?_)
          · refine z_iload_n (pc := 72) dX4_condHolds_72 rfl 2 rfl ?_
            refine z_if_ne (pc := 73) (tgt := 80) dX4_condHolds_73 (by decide) ⟨by omega, by omega⟩ (fun c4 => ?_) (fun c4 => ?_)
            · refine z_iconst (pc := 80) (v := 1) dX4_condHolds_80 rfl ?_
              refine z_goto (pc := 81) (tgt := 85) dX4_condHolds_81 (by decide) ?_
              refine z_zret (pc := 85) rfl (by decide) dX4_condHolds_85 ?_
              exact hQ 1 hk ⟨frlhk, ffl29hk, by first | exact ⟨by omega, Or.inl ⟨_, _, t1, hr⟩⟩ | exact ⟨by omega, Or.inr ⟨_, g, t1, gb.1, by omega, gd, by omega, hr⟩⟩ | exact ⟨by omega, Or.inr ⟨_, bin 9 y g, t1, gb.1, by rw [bin_9 gy gd]; (repeat (first | rw [if_pos (by omega)] | rw [if_neg (by omega)])); first | done | omega, QG.bin gy.2 gd.2 (by decide), by omega, hr.trans (r_orany hw.1 hw.2.1 (by omega) (by omega))⟩⟩ | (exfalso; omega)⟩
            · refine z_iload_n (pc := 76) dX4_condHolds_76 rfl 1 rfl ?_
              refine z_if_eq (pc := 77) (tgt := 84) dX4_condHolds_77 (by decide) ⟨by omega, by omega⟩ (fun c5 => ?_) (fun c5 => ?_)
              · refine z_iconst (pc := 84) (v := 0) dX4_condHolds_84 rfl ?_
                refine z_zret (pc := 85) rfl (by decide) dX4_condHolds_85 ?_
                exact hQ 0 hk ⟨frlhk, ffl29hk, by first | exact ⟨by omega, Or.inl ⟨_, _, t1, hr⟩⟩ | exact ⟨by omega, Or.inr ⟨_, g, t1, gb.1, by omega, gd, by omega, hr⟩⟩ | exact ⟨by omega, Or.inr ⟨_, bin 9 y g, t1, gb.1, by rw [bin_9 gy gd]; (repeat (first | rw [if_pos (by omega)] | rw [if_neg (by omega)])); first | done | omega, QG.bin gy.2 gd.2 (by decide), by omega, hr.trans (r_orany hw.1 hw.2.1 (by omega) (by omega))⟩⟩ | (exfalso; omega)⟩
              · refine z_iconst (pc := 80) (v := 1) dX4_condHolds_80 rfl ?_
                refine z_goto (pc := 81) (tgt := 85) dX4_condHolds_81 (by decide) ?_
                refine z_zret (pc := 85) rfl (by decide) dX4_condHolds_85 ?_
                exact hQ 1 hk ⟨frlhk, ffl29hk, by first | exact ⟨by omega, Or.inl ⟨_, _, t1, hr⟩⟩ | exact ⟨by omega, Or.inr ⟨_, g, t1, gb.1, by omega, gd, by omega, hr⟩⟩ | exact ⟨by omega, Or.inr ⟨_, bin 9 y g, t1, gb.1, by rw [bin_9 gy gd]; (repeat (first | rw [if_pos (by omega)] | rw [if_neg (by omega)])); first | done | omega, QG.bin gy.2 gd.2 (by decide), by omega, hr.trans (r_orany hw.1 hw.2.1 (by omega) (by omega))⟩⟩ | (exfalso; omega)⟩
          · refine z_aload_n (pc := 19) (x := 36) dX4_condHolds_19 rfl 3 rfl ?_
            refine z_getR (pc := 20) (pl := 35) (f := 0) (ci := 4) (C := RX4) (T := TX4) (N := 5) hu_X4 (by decide) rfl rfl (by decide) rfl (List.mem_cons_of_mem _ (iw4 _ (List.mem_of_getElem? (i := 19) rfl))) rfl dX4_condHolds_20 ?_
            refine z_getstE (pc := 23) (i := 28) (z := 28) (by decide) rfl (List.mem_cons_of_mem _ (iw32 _ (List.mem_of_getElem? (i := 11) rfl))) dX4_condHolds_23 ?_
            refine z_callV (pc := 26) (kc := kX6_takes) (n := 1) (pl := 29) (ci := 5) (C := RX6) (As := [AR (ec 28)]) (stk := []) ct_X6_takes_TS (gdV rfl rfl (iw32 _ (List.mem_of_getElem? (i := 16) rfl)) (iw23 _ (List.mem_of_getElem? (i := 0) rfl)) (iw23 _ (List.mem_of_getElem? (i := 1) rfl)) (iw2 _ (List.mem_of_getElem? (i := 4) rfl)) (iw23 _ (List.mem_of_getElem? (i := 2) rfl))) rfl ⟨rfl, rfl⟩ (by decide +kernel) ⟨by show 2 + 1 ≤ 6 + 2 * d; omega, by show 8 + (2 + 11) + 48 * 2 ≤ 48 * (6 + 2 * d); omega⟩ (by decide) rfl rfl dX4_condHolds_26 rfl rfl (Nat.le_of_ble_eq_true rfl) ?_
            refine ⟨_, S, P, V, m, c2, rfl, ⟨t1, by decide, by decide⟩, fun v6 h7 eh7 => ?_⟩
            have frh7 : Fr [29] hi h7 := (Fr.call frlhk eh7.1 (by decide))
            have ff29h7 : FF 29 [6, 7, 8] hi h7 := FF.call ffl29hk (eh7.2.1) (by decide)
            refine z_if_eq (pc := 29) (tgt := 43) dX4_condHolds_29 (by decide) ⟨by omega, by omega⟩ (fun c8 => ?_) (fun c8 => ?_)
            · obtain ⟨-, sh7, th7⟩ := (eh7.2.2).resolve_left (fun q => absurd q.1 (by omega))
              refine z_aload_n (pc := 43) (x := 36) dX4_condHolds_43 rfl 3 rfl ?_
              refine z_getR (pc := 44) (pl := 35) (f := 0) (ci := 4) (C := RX4) (T := TX4) (N := 5) hu_X4 (by decide) rfl rfl (by decide) rfl (List.mem_cons_of_mem _ (iw4 _ (List.mem_of_getElem? (i := 19) rfl))) rfl dX4_condHolds_44 ?_
              refine z_getstE (pc := 47) (i := 27) (z := 27) (by decide) rfl (List.mem_cons_of_mem _ (iw32 _ (List.mem_of_getElem? (i := 12) rfl))) dX4_condHolds_47 ?_
              refine z_callV (pc := 50) (kc := kX6_takes) (n := 1) (pl := 29) (ci := 5) (C := RX6) (As := [AR (ec 27)]) (stk := []) ct_X6_takes_TS (gdV rfl rfl (iw32 _ (List.mem_of_getElem? (i := 16) rfl)) (iw23 _ (List.mem_of_getElem? (i := 0) rfl)) (iw23 _ (List.mem_of_getElem? (i := 1) rfl)) (iw2 _ (List.mem_of_getElem? (i := 4) rfl)) (iw23 _ (List.mem_of_getElem? (i := 2) rfl))) rfl ⟨rfl, rfl⟩ (by decide +kernel) ⟨by show 2 + 1 ≤ 6 + 2 * d; omega, by show 8 + (2 + 11) + 48 * 2 ≤ 48 * (6 + 2 * d); omega⟩ (by decide) rfl rfl dX4_condHolds_50 rfl rfl (Nat.le_of_ble_eq_true rfl) ?_
              refine ⟨_, S, P, V, m, c2, rfl, ⟨th7, by decide, by decide⟩, fun v9 h10 eh10 => ?_⟩
              have frh10 : Fr [29] hi h10 := (Fr.call frh7 eh10.1 (by decide))
              have ff29h10 : FF 29 [6, 7, 8] hi h10 := FF.call ff29h7 (eh10.2.1) (by decide)
              refine z_if_eq (pc := 53) (tgt := 72) dX4_condHolds_53 (by decide) ⟨by omega, by omega⟩ (fun c11 => ?_) (fun c11 => ?_)
              · obtain ⟨-, sh10, th10⟩ := (eh10.2.2).resolve_left (fun q => absurd q.1 (by omega))
                refine z_iload_n (pc := 72) dX4_condHolds_72 rfl 2 rfl ?_
                refine z_if_ne (pc := 73) (tgt := 80) dX4_condHolds_73 (by decide) ⟨by omega, by omega⟩ (fun c12 => ?_) (fun c12 => ?_)
                · refine z_iconst (pc := 80) (v := 1) dX4_condHolds_80 rfl ?_
                  refine z_goto (pc := 81) (tgt := 85) dX4_condHolds_81 (by decide) ?_
                  refine z_zret (pc := 85) rfl (by decide) dX4_condHolds_85 ?_
                  exact hQ 1 h10 ⟨frh10, ff29h10, by first | exact ⟨by omega, Or.inl ⟨_, _, th10, hr⟩⟩ | exact ⟨by omega, Or.inr ⟨_, g, th10, gb.1, by omega, gd, by omega, hr⟩⟩ | exact ⟨by omega, Or.inr ⟨_, bin 9 y g, th10, gb.1, by rw [bin_9 gy gd]; (repeat (first | rw [if_pos (by omega)] | rw [if_neg (by omega)])); first | done | omega, QG.bin gy.2 gd.2 (by decide), by omega, hr.trans (r_orany hw.1 hw.2.1 (by omega) (by omega))⟩⟩ | (exfalso; omega)⟩
                · refine z_iload_n (pc := 76) dX4_condHolds_76 rfl 1 rfl ?_
                  refine z_if_eq (pc := 77) (tgt := 84) dX4_condHolds_77 (by decide) ⟨by omega, by omega⟩ (fun c13 => ?_) (fun c13 => ?_)
                  · refine z_iconst (pc := 84) (v := 0) dX4_condHolds_84 rfl ?_
                    refine z_zret (pc := 85) rfl (by decide) dX4_condHolds_85 ?_
                    exact hQ 0 h10 ⟨frh10, ff29h10, by first | exact ⟨by omega, Or.inl ⟨_, _, th10, hr⟩⟩ | exact ⟨by omega, Or.inr ⟨_, g, th10, gb.1, by omega, gd, by omega, hr⟩⟩ | exact ⟨by omega, Or.inr ⟨_, bin 9 y g, th10, gb.1, by rw [bin_9 gy gd]; (repeat (first | rw [if_pos (by omega)] | rw [if_neg (by omega)])); first | done | omega, QG.bin gy.2 gd.2 (by decide), by omega, hr.trans (r_orany hw.1 hw.2.1 (by omega) (by omega))⟩⟩ | (exfalso; omega)⟩
                  · refine z_iconst (pc := 80) (v := 1) dX4_condHolds_80 rfl ?_
                    refine z_goto (pc := 81) (tgt := 85) dX4_condHolds_81 (by decide) ?_
                    refine z_zret (pc := 85) rfl (by decide) dX4_condHolds_85 ?_
                    exact hQ 1 h10 ⟨frh10, ff29h10, by first | exact ⟨by omega, Or.inl ⟨_, _, th10, hr⟩⟩ | exact ⟨by omega, Or.inr ⟨_, g, th10, gb.1, by omega, gd, by omega, hr⟩⟩ | exact ⟨by omega, Or.inr ⟨_, bin 9 y g, th10, gb.1, by rw [bin_9 gy gd]; (repeat (first | rw [if_pos (by omega)] | rw [if_neg (by omega)])); first | done | omega, QG.bin gy.2 gd.2 (by decide), by omega, hr.trans (r_orany hw.1 hw.2.1 (by omega) (by omega))⟩⟩ | (exfalso; omega)⟩
              · obtain ⟨-, sh10, th10⟩ := (eh10.2.2).resolve_right (fun q => absurd q.1 (by omega))
                refine z_iload_n (pc := 56) dX4_condHolds_56 rfl 2 rfl ?_
                refine z_iload_n (pc := 57) dX4_condHolds_57 rfl 1 rfl ?_
                refine z_ior (pc := 58) dX4_condHolds_58 (fun v14 ev14 => ?_)
                have bv14 := toI_inR ev14
                have wo := or_b b0.1 b0.2
                rw [← ev14] at wo
                refine z_istore_n (pc := 59) (lv' := [(2, AI v14), (4, AI i), (3, AI all), (0, AR 36), (1, AI o)]) dX4_condHolds_59 rfl (by show _ < 5; decide) rfl ?_
                refine z_aload_n (pc := 60) (x := 36) dX4_condHolds_60 rfl 3 rfl ?_
                refine z_iload_n (pc := 61) dX4_condHolds_61 rfl 4 rfl ?_
                refine z_callV (pc := 62) (kc := (kX4_factHolds d)) (n := 1) (pl := 35) (ci := 4) (C := RX4) (As := [AI o]) (stk := []) hF (gdV rfl rfl (iw32 _ (List.mem_of_getElem? (i := 13) rfl)) (iw32 _ (List.mem_of_getElem? (i := 14) rfl)) (iw32 _ (List.mem_of_getElem? (i := 15) rfl)) (iw2 _ (List.mem_of_getElem? (i := 12) rfl)) (iw32 _ (List.mem_of_getElem? (i := 17) rfl))) rfl ⟨rfl, rfl⟩ (by decide +kernel) ⟨by show 5 + 2 * d + 1 ≤ 6 + 2 * d; omega, by show 8 + (4 + 11) + 48 * (5 + 2 * d) ≤ 48 * (6 + 2 * d); omega⟩ (by decide) rfl rfl dX4_condHolds_62 rfl rfl (Nat.le_of_ble_eq_true rfl) ?_
                refine ⟨_, S, P, V, m, ((c2 + 1)), (9 :: W), (g :: G), rfl, ⟨th10, by rw [(congrFun (eh10.1 35 (by decide)) 3 : h10 35 3 = h7 35 3), (congrFun (eh7.1 35 (by decide)) 3 : h7 35 3 = hk 35 3), (congrFun (frlhk 35 (by decide)) 3 : hk 35 3 = hi 35 3), (eh10.1 36 (by decide) : h10 36 = h7 36), (eh7.1 36 (by decide) : h7 36 = hk 36), (frlhk 36 (by decide) : hk 36 = hi 36)]; exact ⟨ho, hph, hV⟩, by omega, by simp only [opn_8, opn_9]; omega, by omega⟩, fun v15 h16 eh16 => ?_⟩
                have frh16 : Fr [29] hi h16 := (Fr.call frh10 eh16.1 (by decide))
                have ff29h16 : FF 29 [6, 7, 8] hi h16 := FF.call ff29h10 (eh16.2.1) (by decide)
                rw [(congrFun (eh10.1 35 (by decide)) 3 : h10 35 3 = h7 35 3), (congrFun (eh7.1 35 (by decide)) 3 : h7 35 3 = hk 35 3), (congrFun (frlhk 35 (by decide)) 3 : hk 35 3 = hi 35 3)] at eh16
                rw [(eh10.1 36 (by decide) : h10 36 = h7 36), (eh7.1 36 (by decide) : h7 36 = hk 36), (frlhk 36 (by decide) : hk 36 = hi 36)] at eh16
                have eph16 := eh16.2.2
                replace eh16 := And.intro eh16.1 (And.intro eh16.2.1 trivial)
                obtain ⟨tbh16, eph16⟩ := eph16
                rcases eph16 with ⟨kh16, ph16, th16, hrh16⟩ | ⟨ch16, gh16, th16, gch16, geh16, gdh16, hrh16⟩
                · have hra := hrh16
                  have tba := tbh16
                  refine z_istore_n (pc := 65) (lv' := [(3, AI v15), (2, AI v14), (4, AI i), (0, AR 36), (1, AI o)]) dX4_condHolds_65 rfl (by show _ < 5; decide) rfl ?_
                  refine z_iinc (pc := 66) (j := 2) (w := fun q => (4, AI q) :: [(3, AI v15), (2, AI v14), (0, AR 36), (1, AI o)]) dX4_condHolds_66 rfl (by show _ < 5; decide) (fun _ => rfl) (fun v17 ev17 => ?_)
                  refine z_goto (pc := 69) (tgt := 11) dX4_condHolds_69 (by decide) ?_
                  exact ih11 v14 v15 v17 h16 (by first | exact ⟨wo.2, tba⟩ | exact ⟨b0.1, wa.2⟩ | omega) (by omega) (by first | exact Or.inr (Or.inr ⟨_, _, th16, hr⟩) | exact Or.inr (Or.inr ⟨_, _, th16, (hr.trans (r_pushA hw.1 hw.2.1 (by omega) (by omega))).trans hra⟩) | exact Or.inl ⟨_, bin 8 g _, th16, by omega, by show _ = jn 8 (g (hi 36)) _; rw [← gea, ← ge]; exact wa.1, QG.bin gd.2 gda.2 (by decide), ga, ((hr.trans (r_pushA hw.1 hw.2.1 (by omega) (by omega))).trans hra).trans r_and⟩ | exact Or.inr (Or.inr ⟨_, _, th16, (hr.trans (r_pushO hw.1 hw.2.1 hw.2.2 (by omega) (by omega))).trans hra⟩) | exact Or.inr (Or.inl ⟨_, _, g, th16, by omega, gea, gda, by rw [wo.1, ga, ← ge]; exact or_0 b0.2, gd, (hr.trans (r_pushO hw.1 hw.2.1 hw.2.2 (by omega) (by omega))).trans hra⟩) | exact Or.inr (Or.inr ⟨_, _, th16, (hr.trans (r_pushA (by show (9 : Int) ≠ 7; decide) (by show (9 : Int) ≠ 8; decide) (by omega) (by omega))).trans hra⟩) | exact Or.inr (Or.inl ⟨_, bin 8 g _, y, th16, by omega, by show _ = jn 8 (g (hi 36)) _; rw [← gea, ← ge]; exact wa.1, QG.bin gd.2 gda.2 (by decide), ga, gy, ((hr.trans (r_pushA (by show (9 : Int) ≠ 7; decide) (by show (9 : Int) ≠ 8; decide) (by omega) (by omega))).trans hra).trans r_and⟩) | exact Or.inr (Or.inr ⟨_, _, th16, ((hr.trans (r_or (Or.inl (by omega)))).trans (r_pushO hw.1 hw.2.1 hw.2.2 (by omega) (by omega))).trans hra⟩) | exact Or.inr (Or.inl ⟨_, _, bin 9 y g, th16, by omega, gea, gda, by show _ = jn 9 (y (hi 36)) (g (hi 36)); rw [← ge, ← ga]; exact wo.1, QG.bin gy.2 gd.2 (by decide), ((hr.trans (r_or (Or.inl (by omega)))).trans (r_pushO hw.1 hw.2.1 hw.2.2 (by omega) (by omega))).trans hra⟩)) (frh16) (ff29h16) (by omega)
                · have cmh16 := th16.2.1
                  have hra := hrh16
                  have gca := gch16
                  have gda := gdh16
                  have gea := geh16
                  have tba := tbh16
                  refine z_istore_n (pc := 65) (lv' := [(3, AI v15), (2, AI v14), (4, AI i), (0, AR 36), (1, AI o)]) dX4_condHolds_65 rfl (by show _ < 5; decide) rfl ?_
                  refine z_iinc (pc := 66) (j := 2) (w := fun q => (4, AI q) :: [(3, AI v15), (2, AI v14), (0, AR 36), (1, AI o)]) dX4_condHolds_66 rfl (by show _ < 5; decide) (fun _ => rfl) (fun v18 ev18 => ?_)
                  refine z_goto (pc := 69) (tgt := 11) dX4_condHolds_69 (by decide) ?_
                  exact ih11 v14 v15 v18 h16 (by first | exact ⟨wo.2, tba⟩ | exact ⟨b0.1, wa.2⟩ | omega) (by omega) (by first | exact Or.inr (Or.inr ⟨_, _, th16, hr⟩) | exact Or.inr (Or.inr ⟨_, _, th16, (hr.trans (r_pushA hw.1 hw.2.1 (by omega) (by omega))).trans hra⟩) | exact Or.inl ⟨_, bin 8 g _, th16, by omega, by show _ = jn 8 (g (hi 36)) _; rw [← gea, ← ge]; exact wa.1, QG.bin gd.2 gda.2 (by decide), ga, ((hr.trans (r_pushA hw.1 hw.2.1 (by omega) (by omega))).trans hra).trans r_and⟩ | exact Or.inr (Or.inr ⟨_, _, th16, (hr.trans (r_pushO hw.1 hw.2.1 hw.2.2 (by omega) (by omega))).trans hra⟩) | exact Or.inr (Or.inl ⟨_, _, g, th16, by omega, gea, gda, by rw [wo.1, ga, ← ge]; exact or_0 b0.2, gd, (hr.trans (r_pushO hw.1 hw.2.1 hw.2.2 (by omega) (by omega))).trans hra⟩) | exact Or.inr (Or.inr ⟨_, _, th16, (hr.trans (r_pushA (by show (9 : Int) ≠ 7; decide) (by show (9 : Int) ≠ 8; decide) (by omega) (by omega))).trans hra⟩) | exact Or.inr (Or.inl ⟨_, bin 8 g _, y, th16, by omega, by show _ = jn 8 (g (hi 36)) _; rw [← gea, ← ge]; exact wa.1, QG.bin gd.2 gda.2 (by decide), ga, gy, ((hr.trans (r_pushA (by show (9 : Int) ≠ 7; decide) (by show (9 : Int) ≠ 8; decide) (by omega) (by omega))).trans hra).trans r_and⟩) | exact Or.inr (Or.inr ⟨_, _, th16, ((hr.trans (r_or (Or.inl (by omega)))).trans (r_pushO hw.1 hw.2.1 hw.2.2 (by omega) (by omega))).trans hra⟩) | exact Or.inr (Or.inl ⟨_, _, bin 9 y g, th16, by omega, gea, gda, by show _ = jn 9 (y (hi 36)) (g (hi 36)); rw [← ge, ← ga]; exact wo.1, QG.bin gy.2 gd.2 (by decide), ((hr.trans (r_or (Or.inl (by omega)))).trans (r_pushO hw.1 hw.2.1 hw.2.2 (by omega) (by omega))).trans hra⟩)) (frh16) (ff29h16) (by omega)
            · obtain ⟨-, sh7, th7⟩ := (eh7.2.2).resolve_right (fun q => absurd q.1 (by omega))
              refine z_iload_n (pc := 32) dX4_condHolds_32 rfl 1 rfl ?_
              refine z_aload_n (pc := 33) (x := 36) dX4_condHolds_33 rfl 3 rfl ?_
              refine z_iload_n (pc := 34) dX4_condHolds_34 rfl 4 rfl ?_
              refine z_callV (pc := 35) (kc := (kX4_factHolds d)) (n := 1) (pl := 35) (ci := 4) (C := RX4) (As := [AI o]) (stk := [AI all]) hF (gdV rfl rfl (iw32 _ (List.mem_of_getElem? (i := 13) rfl)) (iw32 _ (List.mem_of_getElem? (i := 14) rfl)) (iw32 _ (List.mem_of_getElem? (i := 15) rfl)) (iw2 _ (List.mem_of_getElem? (i := 12) rfl)) (iw32 _ (List.mem_of_getElem? (i := 17) rfl))) rfl ⟨rfl, rfl⟩ (by decide +kernel) ⟨by show 5 + 2 * d + 1 ≤ 6 + 2 * d; omega, by show 8 + (4 + 11) + 48 * (5 + 2 * d) ≤ 48 * (6 + 2 * d); omega⟩ (by decide) rfl rfl dX4_condHolds_35 rfl rfl (Nat.le_of_ble_eq_true rfl) ?_
              refine ⟨_, S, P, V, m, ((c2 + 1)), (8 :: W), (g :: G), rfl, ⟨th7, by rw [(congrFun (eh7.1 35 (by decide)) 3 : h7 35 3 = hk 35 3), (congrFun (frlhk 35 (by decide)) 3 : hk 35 3 = hi 35 3), (eh7.1 36 (by decide) : h7 36 = hk 36), (frlhk 36 (by decide) : hk 36 = hi 36)]; exact ⟨ho, hph, hV⟩, by omega, by simp only [opn_8, opn_9]; omega, by omega⟩, fun v19 h20 eh20 => ?_⟩
              have frh20 : Fr [29] hi h20 := (Fr.call frh7 eh20.1 (by decide))
              have ff29h20 : FF 29 [6, 7, 8] hi h20 := FF.call ff29h7 (eh20.2.1) (by decide)
              rw [(congrFun (eh7.1 35 (by decide)) 3 : h7 35 3 = hk 35 3), (congrFun (frlhk 35 (by decide)) 3 : hk 35 3 = hi 35 3)] at eh20
              rw [(eh7.1 36 (by decide) : h7 36 = hk 36), (frlhk 36 (by decide) : hk 36 = hi 36)] at eh20
              have eph20 := eh20.2.2
              replace eh20 := And.intro eh20.1 (And.intro eh20.2.1 trivial)
              obtain ⟨tbh20, eph20⟩ := eph20
              rcases eph20 with ⟨kh20, ph20, th20, hrh20⟩ | ⟨ch20, gh20, th20, gch20, geh20, gdh20, hrh20⟩
              · have hra := hrh20
                have tba := tbh20
                refine z_iand (pc := 38) dX4_condHolds_38 (fun v21 ev21 => ?_)
                have bv21 := toI_inR ev21
                have wa := and_b b0.2 tba
                rw [← ev21] at wa
                refine z_istore_n (pc := 39) (lv' := [(3, AI v21), (4, AI i), (2, AI any), (0, AR 36), (1, AI o)]) dX4_condHolds_39 rfl (by show _ < 5; decide) rfl ?_
                refine z_goto (pc := 40) (tgt := 66) dX4_condHolds_40 (by decide) ?_
                refine z_iinc (pc := 66) (j := 1) (w := fun q => (4, AI q) :: [(3, AI v21), (2, AI any), (0, AR 36), (1, AI o)]) dX4_condHolds_66 rfl (by show _ < 5; decide) (fun _ => rfl) (fun v22 ev22 => ?_)
                refine z_goto (pc := 69) (tgt := 11) dX4_condHolds_69 (by decide) ?_
                exact ih11 any v21 v22 h20 (by first | exact ⟨wo.2, tba⟩ | exact ⟨b0.1, wa.2⟩ | omega) (by omega) (by first | exact Or.inr (Or.inr ⟨_, _, th20, hr⟩) | exact Or.inr (Or.inr ⟨_, _, th20, (hr.trans (r_pushA hw.1 hw.2.1 (by omega) (by omega))).trans hra⟩) | exact Or.inl ⟨_, bin 8 g _, th20, by omega, by show _ = jn 8 (g (hi 36)) _; rw [← gea, ← ge]; exact wa.1, QG.bin gd.2 gda.2 (by decide), ga, ((hr.trans (r_pushA hw.1 hw.2.1 (by omega) (by omega))).trans hra).trans r_and⟩ | exact Or.inr (Or.inr ⟨_, _, th20, (hr.trans (r_pushO hw.1 hw.2.1 hw.2.2 (by omega) (by omega))).trans hra⟩) | exact Or.inr (Or.inl ⟨_, _, g, th20, by omega, gea, gda, by rw [wo.1, ga, ← ge]; exact or_0 b0.2, gd, (hr.trans (r_pushO hw.1 hw.2.1 hw.2.2 (by omega) (by omega))).trans hra⟩) | exact Or.inr (Or.inr ⟨_, _, th20, (hr.trans (r_pushA (by show (9 : Int) ≠ 7; decide) (by show (9 : Int) ≠ 8; decide) (by omega) (by omega))).trans hra⟩) | exact Or.inr (Or.inl ⟨_, bin 8 g _, y, th20, by omega, by show _ = jn 8 (g (hi 36)) _; rw [← gea, ← ge]; exact wa.1, QG.bin gd.2 gda.2 (by decide), ga, gy, ((hr.trans (r_pushA (by show (9 : Int) ≠ 7; decide) (by show (9 : Int) ≠ 8; decide) (by omega) (by omega))).trans hra).trans r_and⟩) | exact Or.inr (Or.inr ⟨_, _, th20, ((hr.trans (r_or (Or.inl (by omega)))).trans (r_pushO hw.1 hw.2.1 hw.2.2 (by omega) (by omega))).trans hra⟩) | exact Or.inr (Or.inl ⟨_, _, bin 9 y g, th20, by omega, gea, gda, by show _ = jn 9 (y (hi 36)) (g (hi 36)); rw [← ge, ← ga]; exact wo.1, QG.bin gy.2 gd.2 (by decide), ((hr.trans (r_or (Or.inl (by omega)))).trans (r_pushO hw.1 hw.2.1 hw.2.2 (by omega) (by omega))).trans hra⟩)) (frh20) (ff29h20) (by omega)
              · have cmh20 := th20.2.1
                have hra := hrh20
                have gca := gch20
                have gda := gdh20
                have gea := geh20
                have tba := tbh20
                refine z_iand (pc := 38) dX4_condHolds_38 (fun v23 ev23 => ?_)
                have bv23 := toI_inR ev23
                have wa := and_b b0.2 tba
                rw [← ev23] at wa
                refine z_istore_n (pc := 39) (lv' := [(3, AI v23), (4, AI i), (2, AI any), (0, AR 36), (1, AI o)]) dX4_condHolds_39 rfl (by show _ < 5; decide) rfl ?_
                refine z_goto (pc := 40) (tgt := 66) dX4_condHolds_40 (by decide) ?_
                refine z_iinc (pc := 66) (j := 1) (w := fun q => (4, AI q) :: [(3, AI v23), (2, AI any), (0, AR 36), (1, AI o)]) dX4_condHolds_66 rfl (by show _ < 5; decide) (fun _ => rfl) (fun v24 ev24 => ?_)
                refine z_goto (pc := 69) (tgt := 11) dX4_condHolds_69 (by decide) ?_
                exact ih11 any v23 v24 h20 (by first | exact ⟨wo.2, tba⟩ | exact ⟨b0.1, wa.2⟩ | omega) (by omega) (by first | exact Or.inr (Or.inr ⟨_, _, th20, hr⟩) | exact Or.inr (Or.inr ⟨_, _, th20, (hr.trans (r_pushA hw.1 hw.2.1 (by omega) (by omega))).trans hra⟩) | exact Or.inl ⟨_, bin 8 g _, th20, by omega, by show _ = jn 8 (g (hi 36)) _; rw [← gea, ← ge]; exact wa.1, QG.bin gd.2 gda.2 (by decide), ga, ((hr.trans (r_pushA hw.1 hw.2.1 (by omega) (by omega))).trans hra).trans r_and⟩ | exact Or.inr (Or.inr ⟨_, _, th20, (hr.trans (r_pushO hw.1 hw.2.1 hw.2.2 (by omega) (by omega))).trans hra⟩) | exact Or.inr (Or.inl ⟨_, _, g, th20, by omega, gea, gda, by rw [wo.1, ga, ← ge]; exact or_0 b0.2, gd, (hr.trans (r_pushO hw.1 hw.2.1 hw.2.2 (by omega) (by omega))).trans hra⟩) | exact Or.inr (Or.inr ⟨_, _, th20, (hr.trans (r_pushA (by show (9 : Int) ≠ 7; decide) (by show (9 : Int) ≠ 8; decide) (by omega) (by omega))).trans hra⟩) | exact Or.inr (Or.inl ⟨_, bin 8 g _, y, th20, by omega, by show _ = jn 8 (g (hi 36)) _; rw [← gea, ← ge]; exact wa.1, QG.bin gd.2 gda.2 (by decide), ga, gy, ((hr.trans (r_pushA (by show (9 : Int) ≠ 7; decide) (by show (9 : Int) ≠ 8; decide) (by omega) (by omega))).trans hra).trans r_and⟩) | exact Or.inr (Or.inr ⟨_, _, th20, ((hr.trans (r_or (Or.inl (by omega)))).trans (r_pushO hw.1 hw.2.1 hw.2.2 (by omega) (by omega))).trans hra⟩) | exact Or.inr (Or.inl ⟨_, _, bin 9 y g, th20, by omega, gea, gda, by show _ = jn 9 (y (hi 36)) (g (hi 36)); rw [← ge, ← ga]; exact wo.1, QG.bin gy.2 gd.2 (by decide), ((hr.trans (r_or (Or.inl (by omega)))).trans (r_pushO hw.1 hw.2.1 hw.2.2 (by omega) (by omega))).trans hra⟩)) (frh20) (ff29h20) (by omega)
        · have cb := t1.2.1
          refine z_iload (pc := 11) dX4_condHolds_11 0 rfl ?_
          refine z_sipush (pc := 13) (v := 600) dX4_condHolds_13 (by decide +kernel) ?_
          refine z_icmp_ge (pc := 16) (tgt := 72) dX4_condHolds_16 (by decide) ⟨by omega, by omega⟩ ⟨by decide, by decide⟩ (fun c25 => ?_) (fun c25 => ?_)
          · refine z_iload_n (pc := 72) dX4_condHolds_72 rfl 2 rfl ?_
            refine z_if_ne (pc := 73) (tgt := 80) dX4_condHolds_73 (by decide) ⟨by omega, by omega⟩ (fun c26 => ?_) (fun c26 => ?_)
            · refine z_iconst (pc := 80) (v := 1) dX4_condHolds_80 rfl ?_
              refine z_goto (pc := 81) (tgt := 85) dX4_condHolds_81 (by decide) ?_
              refine z_zret (pc := 85) rfl (by decide) dX4_condHolds_85 ?_
              exact hQ 1 hk ⟨frlhk, ffl29hk, by first | exact ⟨by omega, Or.inl ⟨_, _, t1, hr⟩⟩ | exact ⟨by omega, Or.inr ⟨_, g, t1, gb.1, by omega, gd, by omega, hr⟩⟩ | exact ⟨by omega, Or.inr ⟨_, bin 9 y g, t1, gb.1, by rw [bin_9 gy gd]; (repeat (first | rw [if_pos (by omega)] | rw [if_neg (by omega)])); first | done | omega, QG.bin gy.2 gd.2 (by decide), by omega, hr.trans (r_orany hw.1 hw.2.1 (by omega) (by omega))⟩⟩ | (exfalso; omega)⟩
            · refine z_iload_n (pc := 76) dX4_condHolds_76 rfl 1 rfl ?_
              refine z_if_eq (pc := 77) (tgt := 84) dX4_condHolds_77 (by decide) ⟨by omega, by omega⟩ (fun c27 => ?_) (fun c27 => ?_)
              · refine z_iconst (pc := 84) (v := 0) dX4_condHolds_84 rfl ?_
                refine z_zret (pc := 85) rfl (by decide) dX4_condHolds_85 ?_
                exact hQ 0 hk ⟨frlhk, ffl29hk, by first | exact ⟨by omega, Or.inl ⟨_, _, t1, hr⟩⟩ | exact ⟨by omega, Or.inr ⟨_, g, t1, gb.1, by omega, gd, by omega, hr⟩⟩ | exact ⟨by omega, Or.inr ⟨_, bin 9 y g, t1, gb.1, by rw [bin_9 gy gd]; (repeat (first | rw [if_pos (by omega)] | rw [if_neg (by omega)])); first | done | omega, QG.bin gy.2 gd.2 (by decide), by omega, hr.trans (r_orany hw.1 hw.2.1 (by omega) (by omega))⟩⟩ | (exfalso; omega)⟩
              · refine z_iconst (pc := 80) (v := 1) dX4_condHolds_80 rfl ?_
                refine z_goto (pc := 81) (tgt := 85) dX4_condHolds_81 (by decide) ?_
                refine z_zret (pc := 85) rfl (by decide) dX4_condHolds_85 ?_
                exact hQ 1 hk ⟨frlhk, ffl29hk, by first | exact ⟨by omega, Or.inl ⟨_, _, t1, hr⟩⟩ | exact ⟨by omega, Or.inr ⟨_, g, t1, gb.1, by omega, gd, by omega, hr⟩⟩ | exact ⟨by omega, Or.inr ⟨_, bin 9 y g, t1, gb.1, by rw [bin_9 gy gd]; (repeat (first | rw [if_pos (by omega)] | rw [if_neg (by omega)])); first | done | omega, QG.bin gy.2 gd.2 (by decide), by omega, hr.trans (r_orany hw.1 hw.2.1 (by omega) (by omega))⟩⟩ | (exfalso; omega)⟩
          · refine z_aload_n (pc := 19) (x := 36) dX4_condHolds_19 rfl 3 rfl ?_
            refine z_getR (pc := 20) (pl := 35) (f := 0) (ci := 4) (C := RX4) (T := TX4) (N := 5) hu_X4 (by decide) rfl rfl (by decide) rfl (List.mem_cons_of_mem _ (iw4 _ (List.mem_of_getElem? (i := 19) rfl))) rfl dX4_condHolds_20 ?_
            refine z_getstE (pc := 23) (i := 28) (z := 28) (by decide) rfl (List.mem_cons_of_mem _ (iw32 _ (List.mem_of_getElem? (i := 11) rfl))) dX4_condHolds_23 ?_
            refine z_callV (pc := 26) (kc := kX6_takes) (n := 1) (pl := 29) (ci := 5) (C := RX6) (As := [AR (ec 28)]) (stk := []) ct_X6_takes_TS (gdV rfl rfl (iw32 _ (List.mem_of_getElem? (i := 16) rfl)) (iw23 _ (List.mem_of_getElem? (i := 0) rfl)) (iw23 _ (List.mem_of_getElem? (i := 1) rfl)) (iw2 _ (List.mem_of_getElem? (i := 4) rfl)) (iw23 _ (List.mem_of_getElem? (i := 2) rfl))) rfl ⟨rfl, rfl⟩ (by decide +kernel) ⟨by show 2 + 1 ≤ 6 + 2 * d; omega, by show 8 + (2 + 11) + 48 * 2 ≤ 48 * (6 + 2 * d); omega⟩ (by decide) rfl rfl dX4_condHolds_26 rfl rfl (Nat.le_of_ble_eq_true rfl) ?_
            refine ⟨_, S, P, V, m, c2, rfl, ⟨t1, by decide, by decide⟩, fun v28 h29 eh29 => ?_⟩
            have frh29 : Fr [29] hi h29 := (Fr.call frlhk eh29.1 (by decide))
            have ff29h29 : FF 29 [6, 7, 8] hi h29 := FF.call ffl29hk (eh29.2.1) (by decide)
            refine z_if_eq (pc := 29) (tgt := 43) dX4_condHolds_29 (by decide) ⟨by omega, by omega⟩ (fun c30 => ?_) (fun c30 => ?_)
            · obtain ⟨-, sh29, th29⟩ := (eh29.2.2).resolve_left (fun q => absurd q.1 (by omega))
              refine z_aload_n (pc := 43) (x := 36) dX4_condHolds_43 rfl 3 rfl ?_
              refine z_getR (pc := 44) (pl := 35) (f := 0) (ci := 4) (C := RX4) (T := TX4) (N := 5) hu_X4 (by decide) rfl rfl (by decide) rfl (List.mem_cons_of_mem _ (iw4 _ (List.mem_of_getElem? (i := 19) rfl))) rfl dX4_condHolds_44 ?_
              refine z_getstE (pc := 47) (i := 27) (z := 27) (by decide) rfl (List.mem_cons_of_mem _ (iw32 _ (List.mem_of_getElem? (i := 12) rfl))) dX4_condHolds_47 ?_
              refine z_callV (pc := 50) (kc := kX6_takes) (n := 1) (pl := 29) (ci := 5) (C := RX6) (As := [AR (ec 27)]) (stk := []) ct_X6_takes_TS (gdV rfl rfl (iw32 _ (List.mem_of_getElem? (i := 16) rfl)) (iw23 _ (List.mem_of_getElem? (i := 0) rfl)) (iw23 _ (List.mem_of_getElem? (i := 1) rfl)) (iw2 _ (List.mem_of_getElem? (i := 4) rfl)) (iw23 _ (List.mem_of_getElem? (i := 2) rfl))) rfl ⟨rfl, rfl⟩ (by decide +kernel) ⟨by show 2 + 1 ≤ 6 + 2 * d; omega, by show 8 + (2 + 11) + 48 * 2 ≤ 48 * (6 + 2 * d); omega⟩ (by decide) rfl rfl dX4_condHolds_50 rfl rfl (Nat.le_of_ble_eq_true rfl) ?_
              refine ⟨_, S, P, V, m, c2, rfl, ⟨th29, by decide, by decide⟩, fun v31 h32 eh32 => ?_⟩
              have frh32 : Fr [29] hi h32 := (Fr.call frh29 eh32.1 (by decide))
              have ff29h32 : FF 29 [6, 7, 8] hi h32 := FF.call ff29h29 (eh32.2.1) (by decide)
              refine z_if_eq (pc := 53) (tgt := 72) dX4_condHolds_53 (by decide) ⟨by omega, by omega⟩ (fun c33 => ?_) (fun c33 => ?_)
              · obtain ⟨-, sh32, th32⟩ := (eh32.2.2).resolve_left (fun q => absurd q.1 (by omega))
                refine z_iload_n (pc := 72) dX4_condHolds_72 rfl 2 rfl ?_
                refine z_if_ne (pc := 73) (tgt := 80) dX4_condHolds_73 (by decide) ⟨by omega, by omega⟩ (fun c34 => ?_) (fun c34 => ?_)
                · refine z_iconst (pc := 80) (v := 1) dX4_condHolds_80 rfl ?_
                  refine z_goto (pc := 81) (tgt := 85) dX4_condHolds_81 (by decide) ?_
                  refine z_zret (pc := 85) rfl (by decide) dX4_condHolds_85 ?_
                  exact hQ 1 h32 ⟨frh32, ff29h32, by first | exact ⟨by omega, Or.inl ⟨_, _, th32, hr⟩⟩ | exact ⟨by omega, Or.inr ⟨_, g, th32, gb.1, by omega, gd, by omega, hr⟩⟩ | exact ⟨by omega, Or.inr ⟨_, bin 9 y g, th32, gb.1, by rw [bin_9 gy gd]; (repeat (first | rw [if_pos (by omega)] | rw [if_neg (by omega)])); first | done | omega, QG.bin gy.2 gd.2 (by decide), by omega, hr.trans (r_orany hw.1 hw.2.1 (by omega) (by omega))⟩⟩ | (exfalso; omega)⟩
                · refine z_iload_n (pc := 76) dX4_condHolds_76 rfl 1 rfl ?_
                  refine z_if_eq (pc := 77) (tgt := 84) dX4_condHolds_77 (by decide) ⟨by omega, by omega⟩ (fun c35 => ?_) (fun c35 => ?_)
                  · refine z_iconst (pc := 84) (v := 0) dX4_condHolds_84 rfl ?_
                    refine z_zret (pc := 85) rfl (by decide) dX4_condHolds_85 ?_
                    exact hQ 0 h32 ⟨frh32, ff29h32, by first | exact ⟨by omega, Or.inl ⟨_, _, th32, hr⟩⟩ | exact ⟨by omega, Or.inr ⟨_, g, th32, gb.1, by omega, gd, by omega, hr⟩⟩ | exact ⟨by omega, Or.inr ⟨_, bin 9 y g, th32, gb.1, by rw [bin_9 gy gd]; (repeat (first | rw [if_pos (by omega)] | rw [if_neg (by omega)])); first | done | omega, QG.bin gy.2 gd.2 (by decide), by omega, hr.trans (r_orany hw.1 hw.2.1 (by omega) (by omega))⟩⟩ | (exfalso; omega)⟩
                  · refine z_iconst (pc := 80) (v := 1) dX4_condHolds_80 rfl ?_
                    refine z_goto (pc := 81) (tgt := 85) dX4_condHolds_81 (by decide) ?_
                    refine z_zret (pc := 85) rfl (by decide) dX4_condHolds_85 ?_
                    exact hQ 1 h32 ⟨frh32, ff29h32, by first | exact ⟨by omega, Or.inl ⟨_, _, th32, hr⟩⟩ | exact ⟨by omega, Or.inr ⟨_, g, th32, gb.1, by omega, gd, by omega, hr⟩⟩ | exact ⟨by omega, Or.inr ⟨_, bin 9 y g, th32, gb.1, by rw [bin_9 gy gd]; (repeat (first | rw [if_pos (by omega)] | rw [if_neg (by omega)])); first | done | omega, QG.bin gy.2 gd.2 (by decide), by omega, hr.trans (r_orany hw.1 hw.2.1 (by omega) (by omega))⟩⟩ | (exfalso; omega)⟩
              · obtain ⟨-, sh32, th32⟩ := (eh32.2.2).resolve_right (fun q => absurd q.1 (by omega))
                refine z_iload_n (pc := 56) dX4_condHolds_56 rfl 2 rfl ?_
                refine z_iload_n (pc := 57) dX4_condHolds_57 rfl 1 rfl ?_
                refine z_ior (pc := 58) dX4_condHolds_58 (fun v36 ev36 => ?_)
                have bv36 := toI_inR ev36
                have wo := or_b b0.1 b0.2
                rw [← ev36] at wo
                refine z_istore_n (pc := 59) (lv' := [(2, AI v36), (4, AI i), (3, AI all), (0, AR 36), (1, AI o)]) dX4_condHolds_59 rfl (by show _ < 5; decide) rfl ?_
                refine z_aload_n (pc := 60) (x := 36) dX4_condHolds_60 rfl 3 rfl ?_
                refine z_iload_n (pc := 61) dX4_condHolds_61 rfl 4 rfl ?_
                refine z_callV (pc := 62) (kc := (kX4_factHolds d)) (n := 1) (pl := 35) (ci := 4) (C := RX4) (As := [AI o]) (stk := []) hF (gdV rfl rfl (iw32 _ (List.mem_of_getElem? (i := 13) rfl)) (iw32 _ (List.mem_of_getElem? (i := 14) rfl)) (iw32 _ (List.mem_of_getElem? (i := 15) rfl)) (iw2 _ (List.mem_of_getElem? (i := 12) rfl)) (iw32 _ (List.mem_of_getElem? (i := 17) rfl))) rfl ⟨rfl, rfl⟩ (by decide +kernel) ⟨by show 5 + 2 * d + 1 ≤ 6 + 2 * d; omega, by show 8 + (4 + 11) + 48 * (5 + 2 * d) ≤ 48 * (6 + 2 * d); omega⟩ (by decide) rfl rfl dX4_condHolds_62 rfl rfl (Nat.le_of_ble_eq_true rfl) ?_
                refine ⟨_, S, P, V, m, ((c2 + 1)), (9 :: W), (bin 9 y g :: G), rfl, ⟨th32, by rw [(congrFun (eh32.1 35 (by decide)) 3 : h32 35 3 = h29 35 3), (congrFun (eh29.1 35 (by decide)) 3 : h29 35 3 = hk 35 3), (congrFun (frlhk 35 (by decide)) 3 : hk 35 3 = hi 35 3), (eh32.1 36 (by decide) : h32 36 = h29 36), (eh29.1 36 (by decide) : h29 36 = hk 36), (frlhk 36 (by decide) : hk 36 = hi 36)]; exact ⟨ho, hph, hV⟩, by omega, by simp only [opn_8, opn_9]; omega, by omega⟩, fun v37 h38 eh38 => ?_⟩
                have frh38 : Fr [29] hi h38 := (Fr.call frh32 eh38.1 (by decide))
                have ff29h38 : FF 29 [6, 7, 8] hi h38 := FF.call ff29h32 (eh38.2.1) (by decide)
                rw [(congrFun (eh32.1 35 (by decide)) 3 : h32 35 3 = h29 35 3), (congrFun (eh29.1 35 (by decide)) 3 : h29 35 3 = hk 35 3), (congrFun (frlhk 35 (by decide)) 3 : hk 35 3 = hi 35 3)] at eh38
                rw [(eh32.1 36 (by decide) : h32 36 = h29 36), (eh29.1 36 (by decide) : h29 36 = hk 36), (frlhk 36 (by decide) : hk 36 = hi 36)] at eh38
                have eph38 := eh38.2.2
                replace eh38 := And.intro eh38.1 (And.intro eh38.2.1 trivial)
                obtain ⟨tbh38, eph38⟩ := eph38
                rcases eph38 with ⟨kh38, ph38, th38, hrh38⟩ | ⟨ch38, gh38, th38, gch38, geh38, gdh38, hrh38⟩
                · have hra := hrh38
                  have tba := tbh38
                  refine z_istore_n (pc := 65) (lv' := [(3, AI v37), (2, AI v36), (4, AI i), (0, AR 36), (1, AI o)]) dX4_condHolds_65 rfl (by show _ < 5; decide) rfl ?_
                  refine z_iinc (pc := 66) (j := 2) (w := fun q => (4, AI q) :: [(3, AI v37), (2, AI v36), (0, AR 36), (1, AI o)]) dX4_condHolds_66 rfl (by show _ < 5; decide) (fun _ => rfl) (fun v39 ev39 => ?_)
                  refine z_goto (pc := 69) (tgt := 11) dX4_condHolds_69 (by decide) ?_
                  exact ih11 v36 v37 v39 h38 (by first | exact ⟨wo.2, tba⟩ | exact ⟨b0.1, wa.2⟩ | omega) (by omega) (by first | exact Or.inr (Or.inr ⟨_, _, th38, hr⟩) | exact Or.inr (Or.inr ⟨_, _, th38, (hr.trans (r_pushA hw.1 hw.2.1 (by omega) (by omega))).trans hra⟩) | exact Or.inl ⟨_, bin 8 g _, th38, by omega, by show _ = jn 8 (g (hi 36)) _; rw [← gea, ← ge]; exact wa.1, QG.bin gd.2 gda.2 (by decide), ga, ((hr.trans (r_pushA hw.1 hw.2.1 (by omega) (by omega))).trans hra).trans r_and⟩ | exact Or.inr (Or.inr ⟨_, _, th38, (hr.trans (r_pushO hw.1 hw.2.1 hw.2.2 (by omega) (by omega))).trans hra⟩) | exact Or.inr (Or.inl ⟨_, _, g, th38, by omega, gea, gda, by rw [wo.1, ga, ← ge]; exact or_0 b0.2, gd, (hr.trans (r_pushO hw.1 hw.2.1 hw.2.2 (by omega) (by omega))).trans hra⟩) | exact Or.inr (Or.inr ⟨_, _, th38, (hr.trans (r_pushA (by show (9 : Int) ≠ 7; decide) (by show (9 : Int) ≠ 8; decide) (by omega) (by omega))).trans hra⟩) | exact Or.inr (Or.inl ⟨_, bin 8 g _, y, th38, by omega, by show _ = jn 8 (g (hi 36)) _; rw [← gea, ← ge]; exact wa.1, QG.bin gd.2 gda.2 (by decide), ga, gy, ((hr.trans (r_pushA (by show (9 : Int) ≠ 7; decide) (by show (9 : Int) ≠ 8; decide) (by omega) (by omega))).trans hra).trans r_and⟩) | exact Or.inr (Or.inr ⟨_, _, th38, ((hr.trans (r_or (Or.inl (by omega)))).trans (r_pushO hw.1 hw.2.1 hw.2.2 (by omega) (by omega))).trans hra⟩) | exact Or.inr (Or.inl ⟨_, _, bin 9 y g, th38, by omega, gea, gda, by show _ = jn 9 (y (hi 36)) (g (hi 36)); rw [← ge, ← ga]; exact wo.1, QG.bin gy.2 gd.2 (by decide), ((hr.trans (r_or (Or.inl (by omega)))).trans (r_pushO hw.1 hw.2.1 hw.2.2 (by omega) (by omega))).trans hra⟩)) (frh38) (ff29h38) (by omega)
                · have cmh38 := th38.2.1
                  have hra := hrh38
                  have gca := gch38
                  have gda := gdh38
                  have gea := geh38
                  have tba := tbh38
                  refine z_istore_n (pc := 65) (lv' := [(3, AI v37), (2, AI v36), (4, AI i), (0, AR 36), (1, AI o)]) dX4_condHolds_65 rfl (by show _ < 5; decide) rfl ?_
                  refine z_iinc (pc := 66) (j := 2) (w := fun q => (4, AI q) :: [(3, AI v37), (2, AI v36), (0, AR 36), (1, AI o)]) dX4_condHolds_66 rfl (by show _ < 5; decide) (fun _ => rfl) (fun v40 ev40 => ?_)
                  refine z_goto (pc := 69) (tgt := 11) dX4_condHolds_69 (by decide) ?_
                  exact ih11 v36 v37 v40 h38 (by first | exact ⟨wo.2, tba⟩ | exact ⟨b0.1, wa.2⟩ | omega) (by omega) (by first | exact Or.inr (Or.inr ⟨_, _, th38, hr⟩) | exact Or.inr (Or.inr ⟨_, _, th38, (hr.trans (r_pushA hw.1 hw.2.1 (by omega) (by omega))).trans hra⟩) | exact Or.inl ⟨_, bin 8 g _, th38, by omega, by show _ = jn 8 (g (hi 36)) _; rw [← gea, ← ge]; exact wa.1, QG.bin gd.2 gda.2 (by decide), ga, ((hr.trans (r_pushA hw.1 hw.2.1 (by omega) (by omega))).trans hra).trans r_and⟩ | exact Or.inr (Or.inr ⟨_, _, th38, (hr.trans (r_pushO hw.1 hw.2.1 hw.2.2 (by omega) (by omega))).trans hra⟩) | exact Or.inr (Or.inl ⟨_, _, g, th38, by omega, gea, gda, by rw [wo.1, ga, ← ge]; exact or_0 b0.2, gd, (hr.trans (r_pushO hw.1 hw.2.1 hw.2.2 (by omega) (by omega))).trans hra⟩) | exact Or.inr (Or.inr ⟨_, _, th38, (hr.trans (r_pushA (by show (9 : Int) ≠ 7; decide) (by show (9 : Int) ≠ 8; decide) (by omega) (by omega))).trans hra⟩) | exact Or.inr (Or.inl ⟨_, bin 8 g _, y, th38, by omega, by show _ = jn 8 (g (hi 36)) _; rw [← gea, ← ge]; exact wa.1, QG.bin gd.2 gda.2 (by decide), ga, gy, ((hr.trans (r_pushA (by show (9 : Int) ≠ 7; decide) (by show (9 : Int) ≠ 8; decide) (by omega) (by omega))).trans hra).trans r_and⟩) | exact Or.inr (Or.inr ⟨_, _, th38, ((hr.trans (r_or (Or.inl (by omega)))).trans (r_pushO hw.1 hw.2.1 hw.2.2 (by omega) (by omega))).trans hra⟩) | exact Or.inr (Or.inl ⟨_, _, bin 9 y g, th38, by omega, gea, gda, by show _ = jn 9 (y (hi 36)) (g (hi 36)); rw [← ge, ← ga]; exact wo.1, QG.bin gy.2 gd.2 (by decide), ((hr.trans (r_or (Or.inl (by omega)))).trans (r_pushO hw.1 hw.2.1 hw.2.2 (by omega) (by omega))).trans hra⟩)) (frh38) (ff29h38) (by omega)
            · obtain ⟨-, sh29, th29⟩ := (eh29.2.2).resolve_right (fun q => absurd q.1 (by omega))
              refine z_iload_n (pc := 32) dX4_condHolds_32 rfl 1 rfl ?_
              refine z_aload_n (pc := 33) (x := 36) dX4_condHolds_33 rfl 3 rfl ?_
              refine z_iload_n (pc := 34) dX4_condHolds_34 rfl 4 rfl ?_
              refine z_callV (pc := 35) (kc := (kX4_factHolds d)) (n := 1) (pl := 35) (ci := 4) (C := RX4) (As := [AI o]) (stk := [AI all]) hF (gdV rfl rfl (iw32 _ (List.mem_of_getElem? (i := 13) rfl)) (iw32 _ (List.mem_of_getElem? (i := 14) rfl)) (iw32 _ (List.mem_of_getElem? (i := 15) rfl)) (iw2 _ (List.mem_of_getElem? (i := 12) rfl)) (iw32 _ (List.mem_of_getElem? (i := 17) rfl))) rfl ⟨rfl, rfl⟩ (by decide +kernel) ⟨by show 5 + 2 * d + 1 ≤ 6 + 2 * d; omega, by show 8 + (4 + 11) + 48 * (5 + 2 * d) ≤ 48 * (6 + 2 * d); omega⟩ (by decide) rfl rfl dX4_condHolds_35 rfl rfl (Nat.le_of_ble_eq_true rfl) ?_
              refine ⟨_, S, P, V, m, ((c2 + 1)), (8 :: (9 :: W)), (g :: y :: G), rfl, ⟨th29, by rw [(congrFun (eh29.1 35 (by decide)) 3 : h29 35 3 = hk 35 3), (congrFun (frlhk 35 (by decide)) 3 : hk 35 3 = hi 35 3), (eh29.1 36 (by decide) : h29 36 = hk 36), (frlhk 36 (by decide) : hk 36 = hi 36)]; exact ⟨ho, hph, hV⟩, by omega, by simp only [opn_8, opn_9]; omega, by omega⟩, fun v41 h42 eh42 => ?_⟩
              have frh42 : Fr [29] hi h42 := (Fr.call frh29 eh42.1 (by decide))
              have ff29h42 : FF 29 [6, 7, 8] hi h42 := FF.call ff29h29 (eh42.2.1) (by decide)
              rw [(congrFun (eh29.1 35 (by decide)) 3 : h29 35 3 = hk 35 3), (congrFun (frlhk 35 (by decide)) 3 : hk 35 3 = hi 35 3)] at eh42
              rw [(eh29.1 36 (by decide) : h29 36 = hk 36), (frlhk 36 (by decide) : hk 36 = hi 36)] at eh42
              have eph42 := eh42.2.2
              replace eh42 := And.intro eh42.1 (And.intro eh42.2.1 trivial)
              obtain ⟨tbh42, eph42⟩ := eph42
              rcases eph42 with ⟨kh42, ph42, th42, hrh42⟩ | ⟨ch42, gh42, th42, gch42, geh42, gdh42, hrh42⟩
              · have hra := hrh42
                have tba := tbh42
                refine z_iand (pc := 38) dX4_condHolds_38 (fun v43 ev43 => ?_)
                have bv43 := toI_inR ev43
                have wa := and_b b0.2 tba
                rw [← ev43] at wa
                refine z_istore_n (pc := 39) (lv' := [(3, AI v43), (4, AI i), (2, AI any), (0, AR 36), (1, AI o)]) dX4_condHolds_39 rfl (by show _ < 5; decide) rfl ?_
                refine z_goto (pc := 40) (tgt := 66) dX4_condHolds_40 (by decide) ?_
                refine z_iinc (pc := 66) (j := 1) (w := fun q => (4, AI q) :: [(3, AI v43), (2, AI any), (0, AR 36), (1, AI o)]) dX4_condHolds_66 rfl (by show _ < 5; decide) (fun _ => rfl) (fun v44 ev44 => ?_)
                refine z_goto (pc := 69) (tgt := 11) dX4_condHolds_69 (by decide) ?_
                exact ih11 any v43 v44 h42 (by first | exact ⟨wo.2, tba⟩ | exact ⟨b0.1, wa.2⟩ | omega) (by omega) (by first | exact Or.inr (Or.inr ⟨_, _, th42, hr⟩) | exact Or.inr (Or.inr ⟨_, _, th42, (hr.trans (r_pushA hw.1 hw.2.1 (by omega) (by omega))).trans hra⟩) | exact Or.inl ⟨_, bin 8 g _, th42, by omega, by show _ = jn 8 (g (hi 36)) _; rw [← gea, ← ge]; exact wa.1, QG.bin gd.2 gda.2 (by decide), ga, ((hr.trans (r_pushA hw.1 hw.2.1 (by omega) (by omega))).trans hra).trans r_and⟩ | exact Or.inr (Or.inr ⟨_, _, th42, (hr.trans (r_pushO hw.1 hw.2.1 hw.2.2 (by omega) (by omega))).trans hra⟩) | exact Or.inr (Or.inl ⟨_, _, g, th42, by omega, gea, gda, by rw [wo.1, ga, ← ge]; exact or_0 b0.2, gd, (hr.trans (r_pushO hw.1 hw.2.1 hw.2.2 (by omega) (by omega))).trans hra⟩) | exact Or.inr (Or.inr ⟨_, _, th42, (hr.trans (r_pushA (by show (9 : Int) ≠ 7; decide) (by show (9 : Int) ≠ 8; decide) (by omega) (by omega))).trans hra⟩) | exact Or.inr (Or.inl ⟨_, bin 8 g _, y, th42, by omega, by show _ = jn 8 (g (hi 36)) _; rw [← gea, ← ge]; exact wa.1, QG.bin gd.2 gda.2 (by decide), ga, gy, ((hr.trans (r_pushA (by show (9 : Int) ≠ 7; decide) (by show (9 : Int) ≠ 8; decide) (by omega) (by omega))).trans hra).trans r_and⟩) | exact Or.inr (Or.inr ⟨_, _, th42, ((hr.trans (r_or (Or.inl (by omega)))).trans (r_pushO hw.1 hw.2.1 hw.2.2 (by omega) (by omega))).trans hra⟩) | exact Or.inr (Or.inl ⟨_, _, bin 9 y g, th42, by omega, gea, gda, by show _ = jn 9 (y (hi 36)) (g (hi 36)); rw [← ge, ← ga]; exact wo.1, QG.bin gy.2 gd.2 (by decide), ((hr.trans (r_or (Or.inl (by omega)))).trans (r_pushO hw.1 hw.2.1 hw.2.2 (by omega) (by omega))).trans hra⟩)) (frh42) (ff29h42) (by omega)
              · have cmh42 := th42.2.1
                have hra := hrh42
                have gca := gch42
                have gda := gdh42
                have gea := geh42
                have tba := tbh42
                refine z_iand (pc := 38) dX4_condHolds_38 (fun v45 ev45 => ?_)
                have bv45 := toI_inR ev45
                have wa := and_b b0.2 tba
                rw [← ev45] at wa
                refine z_istore_n (pc := 39) (lv' := [(3, AI v45), (4, AI i), (2, AI any), (0, AR 36), (1, AI o)]) dX4_condHolds_39 rfl (by show _ < 5; decide) rfl ?_
                refine z_goto (pc := 40) (tgt := 66) dX4_condHolds_40 (by decide) ?_
                refine z_iinc (pc := 66) (j := 1) (w := fun q => (4, AI q) :: [(3, AI v45), (2, AI any), (0, AR 36), (1, AI o)]) dX4_condHolds_66 rfl (by show _ < 5; decide) (fun _ => rfl) (fun v46 ev46 => ?_)
                refine z_goto (pc := 69) (tgt := 11) dX4_condHolds_69 (by decide) ?_
                exact ih11 any v45 v46 h42 (by first | exact ⟨wo.2, tba⟩ | exact ⟨b0.1, wa.2⟩ | omega) (by omega) (by first | exact Or.inr (Or.inr ⟨_, _, th42, hr⟩) | exact Or.inr (Or.inr ⟨_, _, th42, (hr.trans (r_pushA hw.1 hw.2.1 (by omega) (by omega))).trans hra⟩) | exact Or.inl ⟨_, bin 8 g _, th42, by omega, by show _ = jn 8 (g (hi 36)) _; rw [← gea, ← ge]; exact wa.1, QG.bin gd.2 gda.2 (by decide), ga, ((hr.trans (r_pushA hw.1 hw.2.1 (by omega) (by omega))).trans hra).trans r_and⟩ | exact Or.inr (Or.inr ⟨_, _, th42, (hr.trans (r_pushO hw.1 hw.2.1 hw.2.2 (by omega) (by omega))).trans hra⟩) | exact Or.inr (Or.inl ⟨_, _, g, th42, by omega, gea, gda, by rw [wo.1, ga, ← ge]; exact or_0 b0.2, gd, (hr.trans (r_pushO hw.1 hw.2.1 hw.2.2 (by omega) (by omega))).trans hra⟩) | exact Or.inr (Or.inr ⟨_, _, th42, (hr.trans (r_pushA (by show (9 : Int) ≠ 7; decide) (by show (9 : Int) ≠ 8; decide) (by omega) (by omega))).trans hra⟩) | exact Or.inr (Or.inl ⟨_, bin 8 g _, y, th42, by omega, by show _ = jn 8 (g (hi 36)) _; rw [← gea, ← ge]; exact wa.1, QG.bin gd.2 gda.2 (by decide), ga, gy, ((hr.trans (r_pushA (by show (9 : Int) ≠ 7; decide) (by show (9 : Int) ≠ 8; decide) (by omega) (by omega))).trans hra).trans r_and⟩) | exact Or.inr (Or.inr ⟨_, _, th42, ((hr.trans (r_or (Or.inl (by omega)))).trans (r_pushO hw.1 hw.2.1 hw.2.2 (by omega) (by omega))).trans hra⟩) | exact Or.inr (Or.inl ⟨_, _, bin 9 y g, th42, by omega, gea, gda, by show _ = jn 9 (y (hi 36)) (g (hi 36)); rw [← ge, ← ga]; exact wo.1, QG.bin gy.2 gd.2 (by decide), ((hr.trans (r_or (Or.inl (by omega)))).trans (r_pushO hw.1 hw.2.1 hw.2.2 (by omega) (by omega))).trans hra⟩)) (frh42) (ff29h42) (by omega)
        · refine z_iload (pc := 11) dX4_condHolds_11 0 rfl ?_
          refine z_sipush (pc := 13) (v := 600) dX4_condHolds_13 (by decide +kernel) ?_
          refine z_icmp_ge (pc := 16) (tgt := 72) dX4_condHolds_16 (by decide) ⟨by omega, by omega⟩ ⟨by decide, by decide⟩ (fun c47 => ?_) (fun c47 => ?_)
          · refine z_iload_n (pc := 72) dX4_condHolds_72 rfl 2 rfl ?_
            refine z_if_ne (pc := 73) (tgt := 80) dX4_condHolds_73 (by decide) ⟨by omega, by omega⟩ (fun c48 => ?_) (fun c48 => ?_)
            · refine z_iconst (pc := 80) (v := 1) dX4_condHolds_80 rfl ?_
              refine z_goto (pc := 81) (tgt := 85) dX4_condHolds_81 (by decide) ?_
              refine z_zret (pc := 85) rfl (by decide) dX4_condHolds_85 ?_
              exact hQ 1 hk ⟨frlhk, ffl29hk, by first | exact ⟨by omega, Or.inl ⟨_, _, t1, hr⟩⟩ | exact ⟨by omega, Or.inr ⟨_, g, t1, gb.1, by omega, gd, by omega, hr⟩⟩ | exact ⟨by omega, Or.inr ⟨_, bin 9 y g, t1, gb.1, by rw [bin_9 gy gd]; (repeat (first | rw [if_pos (by omega)] | rw [if_neg (by omega)])); first | done | omega, QG.bin gy.2 gd.2 (by decide), by omega, hr.trans (r_orany hw.1 hw.2.1 (by omega) (by omega))⟩⟩ | (exfalso; omega)⟩
            · refine z_iload_n (pc := 76) dX4_condHolds_76 rfl 1 rfl ?_
              refine z_if_eq (pc := 77) (tgt := 84) dX4_condHolds_77 (by decide) ⟨by omega, by omega⟩ (fun c49 => ?_) (fun c49 => ?_)
              · refine z_iconst (pc := 84) (v := 0) dX4_condHolds_84 rfl ?_
                refine z_zret (pc := 85) rfl (by decide) dX4_condHolds_85 ?_
                exact hQ 0 hk ⟨frlhk, ffl29hk, by first | exact ⟨by omega, Or.inl ⟨_, _, t1, hr⟩⟩ | exact ⟨by omega, Or.inr ⟨_, g, t1, gb.1, by omega, gd, by omega, hr⟩⟩ | exact ⟨by omega, Or.inr ⟨_, bin 9 y g, t1, gb.1, by rw [bin_9 gy gd]; (repeat (first | rw [if_pos (by omega)] | rw [if_neg (by omega)])); first | done | omega, QG.bin gy.2 gd.2 (by decide), by omega, hr.trans (r_orany hw.1 hw.2.1 (by omega) (by omega))⟩⟩ | (exfalso; omega)⟩
              · refine z_iconst (pc := 80) (v := 1) dX4_condHolds_80 rfl ?_
                refine z_goto (pc := 81) (tgt := 85) dX4_condHolds_81 (by decide) ?_
                refine z_zret (pc := 85) rfl (by decide) dX4_condHolds_85 ?_
                exact hQ 1 hk ⟨frlhk, ffl29hk, by first | exact ⟨by omega, Or.inl ⟨_, _, t1, hr⟩⟩ | exact ⟨by omega, Or.inr ⟨_, g, t1, gb.1, by omega, gd, by omega, hr⟩⟩ | exact ⟨by omega, Or.inr ⟨_, bin 9 y g, t1, gb.1, by rw [bin_9 gy gd]; (repeat (first | rw [if_pos (by omega)] | rw [if_neg (by omega)])); first | done | omega, QG.bin gy.2 gd.2 (by decide), by omega, hr.trans (r_orany hw.1 hw.2.1 (by omega) (by omega))⟩⟩ | (exfalso; omega)⟩
          · refine z_aload_n (pc := 19) (x := 36) dX4_condHolds_19 rfl 3 rfl ?_
            refine z_getR (pc := 20) (pl := 35) (f := 0) (ci := 4) (C := RX4) (T := TX4) (N := 5) hu_X4 (by decide) rfl rfl (by decide) rfl (List.mem_cons_of_mem _ (iw4 _ (List.mem_of_getElem? (i := 19) rfl))) rfl dX4_condHolds_20 ?_
            refine z_getstE (pc := 23) (i := 28) (z := 28) (by decide) rfl (List.mem_cons_of_mem _ (iw32 _ (List.mem_of_getElem? (i := 11) rfl))) dX4_condHolds_23 ?_
            refine z_callV (pc := 26) (kc := kX6_takes) (n := 1) (pl := 29) (ci := 5) (C := RX6) (As := [AR (ec 28)]) (stk := []) ct_X6_takes_TF (gdV rfl rfl (iw32 _ (List.mem_of_getElem? (i := 16) rfl)) (iw23 _ (List.mem_of_getElem? (i := 0) rfl)) (iw23 _ (List.mem_of_getElem? (i := 1) rfl)) (iw2 _ (List.mem_of_getElem? (i := 4) rfl)) (iw23 _ (List.mem_of_getElem? (i := 2) rfl))) rfl ⟨rfl, rfl⟩ (by decide +kernel) ⟨by show 2 + 1 ≤ 6 + 2 * d; omega, by show 8 + (2 + 11) + 48 * 2 ≤ 48 * (6 + 2 * d); omega⟩ (by decide) rfl rfl dX4_condHolds_26 rfl rfl (Nat.le_of_ble_eq_true rfl) ?_
            refine ⟨_, S, P, V, m, k1, p1, rfl, ⟨t1, by decide, by decide⟩, fun v50 h51 eh51 => ?_⟩
            have frh51 : Fr [29] hi h51 := (Fr.call frlhk eh51.1 (by decide))
            have ff29h51 : FF 29 [6, 7, 8] hi h51 := FF.call ffl29hk (eh51.2.1) (by decide)
            have eph51 := eh51.2.2
            replace eh51 := And.intro eh51.1 (And.intro eh51.2.1 trivial)
            obtain ⟨rfl, th51⟩ := eph51
            refine z_if_eq (pc := 29) (tgt := 43) dX4_condHolds_29 (by decide) ⟨by decide, by decide⟩ (fun _ => ?_) (fun q => absurd q (by decide))
            refine z_aload_n (pc := 43) (x := 36) dX4_condHolds_43 rfl 3 rfl ?_
            refine z_getR (pc := 44) (pl := 35) (f := 0) (ci := 4) (C := RX4) (T := TX4) (N := 5) hu_X4 (by decide) rfl rfl (by decide) rfl (List.mem_cons_of_mem _ (iw4 _ (List.mem_of_getElem? (i := 19) rfl))) rfl dX4_condHolds_44 ?_
            refine z_getstE (pc := 47) (i := 27) (z := 27) (by decide) rfl (List.mem_cons_of_mem _ (iw32 _ (List.mem_of_getElem? (i := 12) rfl))) dX4_condHolds_47 ?_
            refine z_callV (pc := 50) (kc := kX6_takes) (n := 1) (pl := 29) (ci := 5) (C := RX6) (As := [AR (ec 27)]) (stk := []) ct_X6_takes_TF (gdV rfl rfl (iw32 _ (List.mem_of_getElem? (i := 16) rfl)) (iw23 _ (List.mem_of_getElem? (i := 0) rfl)) (iw23 _ (List.mem_of_getElem? (i := 1) rfl)) (iw2 _ (List.mem_of_getElem? (i := 4) rfl)) (iw23 _ (List.mem_of_getElem? (i := 2) rfl))) rfl ⟨rfl, rfl⟩ (by decide +kernel) ⟨by show 2 + 1 ≤ 6 + 2 * d; omega, by show 8 + (2 + 11) + 48 * 2 ≤ 48 * (6 + 2 * d); omega⟩ (by decide) rfl rfl dX4_condHolds_50 rfl rfl (Nat.le_of_ble_eq_true rfl) ?_
            refine ⟨_, S, P, V, m, k1, p1, rfl, ⟨th51, by decide, by decide⟩, fun v52 h53 eh53 => ?_⟩
            have frh53 : Fr [29] hi h53 := (Fr.call frh51 eh53.1 (by decide))
            have ff29h53 : FF 29 [6, 7, 8] hi h53 := FF.call ff29h51 (eh53.2.1) (by decide)
            have eph53 := eh53.2.2
            replace eh53 := And.intro eh53.1 (And.intro eh53.2.1 trivial)
            obtain ⟨rfl, th53⟩ := eph53
            refine z_if_eq (pc := 53) (tgt := 72) dX4_condHolds_53 (by decide) ⟨by decide, by decide⟩ (fun _ => ?_) (fun q => absurd q (by decide))
            refine z_iload_n (pc := 72) dX4_condHolds_72 rfl 2 rfl ?_
            refine z_if_ne (pc := 73) (tgt := 80) dX4_condHolds_73 (by decide) ⟨by omega, by omega⟩ (fun c54 => ?_) (fun c54 => ?_)
            · refine z_iconst (pc := 80) (v := 1) dX4_condHolds_80 rfl ?_
              refine z_goto (pc := 81) (tgt := 85) dX4_condHolds_81 (by decide) ?_
              refine z_zret (pc := 85) rfl (by decide) dX4_condHolds_85 ?_
              exact hQ 1 h53 ⟨frh53, ff29h53, by first | exact ⟨by omega, Or.inl ⟨_, _, th53, hr⟩⟩ | exact ⟨by omega, Or.inr ⟨_, g, th53, gb.1, by omega, gd, by omega, hr⟩⟩ | exact ⟨by omega, Or.inr ⟨_, bin 9 y g, th53, gb.1, by rw [bin_9 gy gd]; (repeat (first | rw [if_pos (by omega)] | rw [if_neg (by omega)])); first | done | omega, QG.bin gy.2 gd.2 (by decide), by omega, hr.trans (r_orany hw.1 hw.2.1 (by omega) (by omega))⟩⟩ | (exfalso; omega)⟩
            · refine z_iload_n (pc := 76) dX4_condHolds_76 rfl 1 rfl ?_
              refine z_if_eq (pc := 77) (tgt := 84) dX4_condHolds_77 (by decide) ⟨by omega, by omega⟩ (fun c55 => ?_) (fun c55 => ?_)
              · refine z_iconst (pc := 84) (v := 0) dX4_condHolds_84 rfl ?_
                refine z_zret (pc := 85) rfl (by decide) dX4_condHolds_85 ?_
                exact hQ 0 h53 ⟨frh53, ff29h53, by first | exact ⟨by omega, Or.inl ⟨_, _, th53, hr⟩⟩ | exact ⟨by omega, Or.inr ⟨_, g, th53, gb.1, by omega, gd, by omega, hr⟩⟩ | exact ⟨by omega, Or.inr ⟨_, bin 9 y g, th53, gb.1, by rw [bin_9 gy gd]; (repeat (first | rw [if_pos (by omega)] | rw [if_neg (by omega)])); first | done | omega, QG.bin gy.2 gd.2 (by decide), by omega, hr.trans (r_orany hw.1 hw.2.1 (by omega) (by omega))⟩⟩ | (exfalso; omega)⟩
              · refine z_iconst (pc := 80) (v := 1) dX4_condHolds_80 rfl ?_
                refine z_goto (pc := 81) (tgt := 85) dX4_condHolds_81 (by decide) ?_
                refine z_zret (pc := 85) rfl (by decide) dX4_condHolds_85 ?_
                exact hQ 1 h53 ⟨frh53, ff29h53, by first | exact ⟨by omega, Or.inl ⟨_, _, th53, hr⟩⟩ | exact ⟨by omega, Or.inr ⟨_, g, th53, gb.1, by omega, gd, by omega, hr⟩⟩ | exact ⟨by omega, Or.inr ⟨_, bin 9 y g, th53, gb.1, by rw [bin_9 gy gd]; (repeat (first | rw [if_pos (by omega)] | rw [if_neg (by omega)])); first | done | omega, QG.bin gy.2 gd.2 (by decide), by omega, hr.trans (r_orany hw.1 hw.2.1 (by omega) (by omega))⟩⟩ | (exfalso; omega)⟩
    exact J11 _ 0 v1 0 h2 (by omega) (by omega) (by first | exact Or.inl ⟨_, _, th2, by omega, gea, gda, rfl, hra⟩ | exact Or.inr (Or.inr ⟨_, _, th2, hra⟩)) (frh2) (ff29h2) (Nat.lt_succ_self _)
  · have cmh2 := th2.2.1
    have hra := hrh2
    have gca := gch2
    have gda := gdh2
    have gea := geh2
    have tba := tbh2
    refine z_istore_n (pc := 7) (lv' := [(3, AI v1), (2, AI 0), (0, AR 36), (1, AI o)]) dX4_condHolds_7 rfl (by show _ < 5; decide) rfl ?_
    refine z_iconst (pc := 8) (v := 0) dX4_condHolds_8 rfl ?_
    refine z_istore (pc := 9) (lv' := [(4, AI 0), (3, AI v1), (2, AI 0), (0, AR 36), (1, AI o)]) dX4_condHolds_9 (by show _ < 5; decide) rfl ?_
    have J11 : ∀ (N : Nat) (any all i : Int) (hk : HI), ((any = 0 ∨ any = 1) ∧ (all = 0 ∨ all = 1)) → (0 ≤ i ∧ i ≤ 600) → ((∃ (c2 : Nat) (g : Ex), TS hk S P V m c2 ∧ (c < c2 ∧ i + 1 ≤ c2) ∧ all = g (hi 36) ∧ QG (hi 35 3) g ∧ any = 0 ∧ res (hi 35 3) S P V (0, c, W, G) = res (hi 35 3) S P V (1, c2, W, g :: G)) ∨ (∃ (c2 : Nat) (g y : Ex), TS hk S P V m c2 ∧ (c < c2 ∧ i + 1 ≤ c2) ∧ all = g (hi 36) ∧ QG (hi 35 3) g ∧ any = y (hi 36) ∧ QG (hi 35 3) y ∧ res (hi 35 3) S P V (0, c, W, G) = res (hi 35 3) S P V (1, c2, 9 :: W, g :: y :: G)) ∨ (∃ k p, TF hk S P V m k p ∧ res (hi 35 3) S P V (0, c, W, G) = .inl (k, p))) → (Fr [29] hi hk) → (FF 29 [6, 7, 8] hi hk) → ((600 - i).toNat) < N → Z (kX4_condHolds d) Q 11 [(4, AI i), (3, AI all), (2, AI any), (0, AR 36), (1, AI o)] [] hk := by
      intro N
      induction N with
      | zero => intro any all i hk _ _ _ _ _ _; exact absurd (by assumption) (Nat.not_lt_zero _)
      | succ N ih11 =>
        intro any all i hk b0 i0 i1 frlhk ffl29hk hm11
        rcases i1 with ⟨c2, g, t1, gb, ge, gd, ga, hr⟩ | ⟨c2, g, y, t1, gb, ge, gd, ga, gy, hr⟩ | ⟨k1, p1, t1, hr⟩
        · have cb := t1.2.1
          refine z_iload (pc := 11) dX4_condHolds_11 0 rfl ?_
          refine z_sipush (pc := 13) (v := 600) dX4_condHolds_13 (by decide +kernel) ?_
          refine z_icmp_ge (pc := 16) (tgt := 72) dX4_condHolds_16 (by decide) ⟨by omega, by omega⟩ ⟨by decide, by decide⟩ (fun c56 => ?_) (fun c56 => ?_)
          · refine z_iload_n (pc := 72) dX4_condHolds_72 rfl 2 rfl ?_
            refine z_if_ne (pc := 73) (tgt := 80) dX4_condHolds_73 (by decide) ⟨by omega, by omega⟩ (fun c57 => ?_) (fun c57 => ?_)
            · refine z_iconst (pc := 80) (v := 1) dX4_condHolds_80 rfl ?_
              refine z_goto (pc := 81) (tgt := 85) dX4_condHolds_81 (by decide) ?_
              refine z_zret (pc := 85) rfl (by decide) dX4_condHolds_85 ?_
              exact hQ 1 hk ⟨frlhk, ffl29hk, by first | exact ⟨by omega, Or.inl ⟨_, _, t1, hr⟩⟩ | exact ⟨by omega, Or.inr ⟨_, g, t1, gb.1, by omega, gd, by omega, hr⟩⟩ | exact ⟨by omega, Or.inr ⟨_, bin 9 y g, t1, gb.1, by rw [bin_9 gy gd]; (repeat (first | rw [if_pos (by omega)] | rw [if_neg (by omega)])); first | done | omega, QG.bin gy.2 gd.2 (by decide), by omega, hr.trans (r_orany hw.1 hw.2.1 (by omega) (by omega))⟩⟩ | (exfalso; omega)⟩
            · refine z_iload_n (pc := 76) dX4_condHolds_76 rfl 1 rfl ?_
              refine z_if_eq (pc := 77) (tgt := 84) dX4_condHolds_77 (by decide) ⟨by omega, by omega⟩ (fun c58 => ?_) (fun c58 => ?_)
              · refine z_iconst (pc := 84) (v := 0) dX4_condHolds_84 rfl ?_
                refine z_zret (pc := 85) rfl (by decide) dX4_condHolds_85 ?_
                exact hQ 0 hk ⟨frlhk, ffl29hk, by first | exact ⟨by omega, Or.inl ⟨_, _, t1, hr⟩⟩ | exact ⟨by omega, Or.inr ⟨_, g, t1, gb.1, by omega, gd, by omega, hr⟩⟩ | exact ⟨by omega, Or.inr ⟨_, bin 9 y g, t1, gb.1, by rw [bin_9 gy gd]; (repeat (first | rw [if_pos (by omega)] | rw [if_neg (by omega)])); first | done | omega, QG.bin gy.2 gd.2 (by decide), by omega, hr.trans (r_orany hw.1 hw.2.1 (by omega) (by omega))⟩⟩ | (exfalso; omega)⟩
              · refine z_iconst (pc := 80) (v := 1) dX4_condHolds_80 rfl ?_
                refine z_goto (pc := 81) (tgt := 85) dX4_condHolds_81 (by decide) ?_
                refine z_zret (pc := 85) rfl (by decide) dX4_condHolds_85 ?_
                exact hQ 1 hk ⟨frlhk, ffl29hk, by first | exact ⟨by omega, Or.inl ⟨_, _, t1, hr⟩⟩ | exact ⟨by omega, Or.inr ⟨_, g, t1, gb.1, by omega, gd, by omega, hr⟩⟩ | exact ⟨by omega, Or.inr ⟨_, bin 9 y g, t1, gb.1, by rw [bin_9 gy gd]; (repeat (first | rw [if_pos (by omega)] | rw [if_neg (by omega)])); first | done | omega, QG.bin gy.2 gd.2 (by decide), by omega, hr.trans (r_orany hw.1 hw.2.1 (by omega) (by omega))⟩⟩ | (exfalso; omega)⟩
          · refine z_aload_n (pc := 19) (x := 36) dX4_condHolds_19 rfl 3 rfl ?_
            refine z_getR (pc := 20) (pl := 35) (f := 0) (ci := 4) (C := RX4) (T := TX4) (N := 5) hu_X4 (by decide) rfl rfl (by decide) rfl (List.mem_cons_of_mem _ (iw4 _ (List.mem_of_getElem? (i := 19) rfl))) rfl dX4_condHolds_20 ?_
            refine z_getstE (pc := 23) (i := 28) (z := 28) (by decide) rfl (List.mem_cons_of_mem _ (iw32 _ (List.mem_of_getElem? (i := 11) rfl))) dX4_condHolds_23 ?_
            refine z_callV (pc := 26) (kc := kX6_takes) (n := 1) (pl := 29) (ci := 5) (C := RX6) (As := [AR (ec 28)]) (stk := []) ct_X6_takes_TS (gdV rfl rfl (iw32 _ (List.mem_of_getElem? (i := 16) rfl)) (iw23 _ (List.mem_of_getElem? (i := 0) rfl)) (iw23 _ (List.mem_of_getElem? (i := 1) rfl)) (iw2 _ (List.mem_of_getElem? (i := 4) rfl)) (iw23 _ (List.mem_of_getElem? (i := 2) rfl))) rfl ⟨rfl, rfl⟩ (by decide +kernel) ⟨by show 2 + 1 ≤ 6 + 2 * d; omega, by show 8 + (2 + 11) + 48 * 2 ≤ 48 * (6 + 2 * d); omega⟩ (by decide) rfl rfl dX4_condHolds_26 rfl rfl (Nat.le_of_ble_eq_true rfl) ?_
            refine ⟨_, S, P, V, m, c2, rfl, ⟨t1, by decide, by decide⟩, fun v59 h60 eh60 => ?_⟩
            have frh60 : Fr [29] hi h60 := (Fr.call frlhk eh60.1 (by decide))
            have ff29h60 : FF 29 [6, 7, 8] hi h60 := FF.call ffl29hk (eh60.2.1) (by decide)
            refine z_if_eq (pc := 29) (tgt := 43) dX4_condHolds_29 (by decide) ⟨by omega, by omega⟩ (fun c61 => ?_) (fun c61 => ?_)
            · obtain ⟨-, sh60, th60⟩ := (eh60.2.2).resolve_left (fun q => absurd q.1 (by omega))
              refine z_aload_n (pc := 43) (x := 36) dX4_condHolds_43 rfl 3 rfl ?_
              refine z_getR (pc := 44) (pl := 35) (f := 0) (ci := 4) (C := RX4) (T := TX4) (N := 5) hu_X4 (by decide) rfl rfl (by decide) rfl (List.mem_cons_of_mem _ (iw4 _ (List.mem_of_getElem? (i := 19) rfl))) rfl dX4_condHolds_44 ?_
              refine z_getstE (pc := 47) (i := 27) (z := 27) (by decide) rfl (List.mem_cons_of_mem _ (iw32 _ (List.mem_of_getElem? (i := 12) rfl))) dX4_condHolds_47 ?_
              refine z_callV (pc := 50) (kc := kX6_takes) (n := 1) (pl := 29) (ci := 5) (C := RX6) (As := [AR (ec 27)]) (stk := []) ct_X6_takes_TS (gdV rfl rfl (iw32 _ (List.mem_of_getElem? (i := 16) rfl)) (iw23 _ (List.mem_of_getElem? (i := 0) rfl)) (iw23 _ (List.mem_of_getElem? (i := 1) rfl)) (iw2 _ (List.mem_of_getElem? (i := 4) rfl)) (iw23 _ (List.mem_of_getElem? (i := 2) rfl))) rfl ⟨rfl, rfl⟩ (by decide +kernel) ⟨by show 2 + 1 ≤ 6 + 2 * d; omega, by show 8 + (2 + 11) + 48 * 2 ≤ 48 * (6 + 2 * d); omega⟩ (by decide) rfl rfl dX4_condHolds_50 rfl rfl (Nat.le_of_ble_eq_true rfl) ?_
              refine ⟨_, S, P, V, m, c2, rfl, ⟨th60, by decide, by decide⟩, fun v62 h63 eh63 => ?_⟩
              have frh63 : Fr [29] hi h63 := (Fr.call frh60 eh63.1 (by decide))
              have ff29h63 : FF 29 [6, 7, 8] hi h63 := FF.call ff29h60 (eh63.2.1) (by decide)
              refine z_if_eq (pc := 53) (tgt := 72) dX4_condHolds_53 (by decide) ⟨by omega, by omega⟩ (fun c64 => ?_) (fun c64 => ?_)
              · obtain ⟨-, sh63, th63⟩ := (eh63.2.2).resolve_left (fun q => absurd q.1 (by omega))
                refine z_iload_n (pc := 72) dX4_condHolds_72 rfl 2 rfl ?_
                refine z_if_ne (pc := 73) (tgt := 80) dX4_condHolds_73 (by decide) ⟨by omega, by omega⟩ (fun c65 => ?_) (fun c65 => ?_)
                · refine z_iconst (pc := 80) (v := 1) dX4_condHolds_80 rfl ?_
                  refine z_goto (pc := 81) (tgt := 85) dX4_condHolds_81 (by decide) ?_
                  refine z_zret (pc := 85) rfl (by decide) dX4_condHolds_85 ?_
                  exact hQ 1 h63 ⟨frh63, ff29h63, by first | exact ⟨by omega, Or.inl ⟨_, _, th63, hr⟩⟩ | exact ⟨by omega, Or.inr ⟨_, g, th63, gb.1, by omega, gd, by omega, hr⟩⟩ | exact ⟨by omega, Or.inr ⟨_, bin 9 y g, th63, gb.1, by rw [bin_9 gy gd]; (repeat (first | rw [if_pos (by omega)] | rw [if_neg (by omega)])); first | done | omega, QG.bin gy.2 gd.2 (by decide), by omega, hr.trans (r_orany hw.1 hw.2.1 (by omega) (by omega))⟩⟩ | (exfalso; omega)⟩
                · refine z_iload_n (pc := 76) dX4_condHolds_76 rfl 1 rfl ?_
                  refine z_if_eq (pc := 77) (tgt := 84) dX4_condHolds_77 (by decide) ⟨by omega, by omega⟩ (fun c66 => ?_) (fun c66 => ?_)
                  · refine z_iconst (pc := 84) (v := 0) dX4_condHolds_84 rfl ?_
                    refine z_zret (pc := 85) rfl (by decide) dX4_condHolds_85 ?_
                    exact hQ 0 h63 ⟨frh63, ff29h63, by first | exact ⟨by omega, Or.inl ⟨_, _, th63, hr⟩⟩ | exact ⟨by omega, Or.inr ⟨_, g, th63, gb.1, by omega, gd, by omega, hr⟩⟩ | exact ⟨by omega, Or.inr ⟨_, bin 9 y g, th63, gb.1, by rw [bin_9 gy gd]; (repeat (first | rw [if_pos (by omega)] | rw [if_neg (by omega)])); first | done | omega, QG.bin gy.2 gd.2 (by decide), by omega, hr.trans (r_orany hw.1 hw.2.1 (by omega) (by omega))⟩⟩ | (exfalso; omega)⟩
                  · refine z_iconst (pc := 80) (v := 1) dX4_condHolds_80 rfl ?_
                    refine z_goto (pc := 81) (tgt := 85) dX4_condHolds_81 (by decide) ?_
                    refine z_zret (pc := 85) rfl (by decide) dX4_condHolds_85 ?_
                    exact hQ 1 h63 ⟨frh63, ff29h63, by first | exact ⟨by omega, Or.inl ⟨_, _, th63, hr⟩⟩ | exact ⟨by omega, Or.inr ⟨_, g, th63, gb.1, by omega, gd, by omega, hr⟩⟩ | exact ⟨by omega, Or.inr ⟨_, bin 9 y g, th63, gb.1, by rw [bin_9 gy gd]; (repeat (first | rw [if_pos (by omega)] | rw [if_neg (by omega)])); first | done | omega, QG.bin gy.2 gd.2 (by decide), by omega, hr.trans (r_orany hw.1 hw.2.1 (by omega) (by omega))⟩⟩ | (exfalso; omega)⟩
              · obtain ⟨-, sh63, th63⟩ := (eh63.2.2).resolve_right (fun q => absurd q.1 (by omega))
                refine z_iload_n (pc := 56) dX4_condHolds_56 rfl 2 rfl ?_
                refine z_iload_n (pc := 57) dX4_condHolds_57 rfl 1 rfl ?_
                refine z_ior (pc := 58) dX4_condHolds_58 (fun v67 ev67 => ?_)
                have bv67 := toI_inR ev67
                have wo := or_b b0.1 b0.2
                rw [← ev67] at wo
                refine z_istore_n (pc := 59) (lv' := [(2, AI v67), (4, AI i), (3, AI all), (0, AR 36), (1, AI o)]) dX4_condHolds_59 rfl (by show _ < 5; decide) rfl ?_
                refine z_aload_n (pc := 60) (x := 36) dX4_condHolds_60 rfl 3 rfl ?_
                refine z_iload_n (pc := 61) dX4_condHolds_61 rfl 4 rfl ?_
                refine z_callV (pc := 62) (kc := (kX4_factHolds d)) (n := 1) (pl := 35) (ci := 4) (C := RX4) (As := [AI o]) (stk := []) hF (gdV rfl rfl (iw32 _ (List.mem_of_getElem? (i := 13) rfl)) (iw32 _ (List.mem_of_getElem? (i := 14) rfl)) (iw32 _ (List.mem_of_getElem? (i := 15) rfl)) (iw2 _ (List.mem_of_getElem? (i := 12) rfl)) (iw32 _ (List.mem_of_getElem? (i := 17) rfl))) rfl ⟨rfl, rfl⟩ (by decide +kernel) ⟨by show 5 + 2 * d + 1 ≤ 6 + 2 * d; omega, by show 8 + (4 + 11) + 48 * (5 + 2 * d) ≤ 48 * (6 + 2 * d); omega⟩ (by decide) rfl rfl dX4_condHolds_62 rfl rfl (Nat.le_of_ble_eq_true rfl) ?_
                refine ⟨_, S, P, V, m, ((c2 + 1)), (9 :: W), (g :: G), rfl, ⟨th63, by rw [(congrFun (eh63.1 35 (by decide)) 3 : h63 35 3 = h60 35 3), (congrFun (eh60.1 35 (by decide)) 3 : h60 35 3 = hk 35 3), (congrFun (frlhk 35 (by decide)) 3 : hk 35 3 = hi 35 3), (eh63.1 36 (by decide) : h63 36 = h60 36), (eh60.1 36 (by decide) : h60 36 = hk 36), (frlhk 36 (by decide) : hk 36 = hi 36)]; exact ⟨ho, hph, hV⟩, by omega, by simp only [opn_8, opn_9]; omega, by omega⟩, fun v68 h69 eh69 => ?_⟩
                have frh69 : Fr [29] hi h69 := (Fr.call frh63 eh69.1 (by decide))
                have ff29h69 : FF 29 [6, 7, 8] hi h69 := FF.call ff29h63 (eh69.2.1) (by decide)
                rw [(congrFun (eh63.1 35 (by decide)) 3 : h63 35 3 = h60 35 3), (congrFun (eh60.1 35 (by decide)) 3 : h60 35 3 = hk 35 3), (congrFun (frlhk 35 (by decide)) 3 : hk 35 3 = hi 35 3)] at eh69
                rw [(eh63.1 36 (by decide) : h63 36 = h60 36), (eh60.1 36 (by decide) : h60 36 = hk 36), (frlhk 36 (by decide) : hk 36 = hi 36)] at eh69
                have eph69 := eh69.2.2
                replace eh69 := And.intro eh69.1 (And.intro eh69.2.1 trivial)
                obtain ⟨tbh69, eph69⟩ := eph69
                rcases eph69 with ⟨kh69, ph69, th69, hrh69⟩ | ⟨ch69, gh69, th69, gch69, geh69, gdh69, hrh69⟩
                · have hra := hrh69
                  have tba := tbh69
                  refine z_istore_n (pc := 65) (lv' := [(3, AI v68), (2, AI v67), (4, AI i), (0, AR 36), (1, AI o)]) dX4_condHolds_65 rfl (by show _ < 5; decide) rfl ?_
                  refine z_iinc (pc := 66) (j := 2) (w := fun q => (4, AI q) :: [(3, AI v68), (2, AI v67), (0, AR 36), (1, AI o)]) dX4_condHolds_66 rfl (by show _ < 5; decide) (fun _ => rfl) (fun v70 ev70 => ?_)
                  refine z_goto (pc := 69) (tgt := 11) dX4_condHolds_69 (by decide) ?_
                  exact ih11 v67 v68 v70 h69 (by first | exact ⟨wo.2, tba⟩ | exact ⟨b0.1, wa.2⟩ | omega) (by omega) (by first | exact Or.inr (Or.inr ⟨_, _, th69, hr⟩) | exact Or.inr (Or.inr ⟨_, _, th69, (hr.trans (r_pushA hw.1 hw.2.1 (by omega) (by omega))).trans hra⟩) | exact Or.inl ⟨_, bin 8 g _, th69, by omega, by show _ = jn 8 (g (hi 36)) _; rw [← gea, ← ge]; exact wa.1, QG.bin gd.2 gda.2 (by decide), ga, ((hr.trans (r_pushA hw.1 hw.2.1 (by omega) (by omega))).trans hra).trans r_and⟩ | exact Or.inr (Or.inr ⟨_, _, th69, (hr.trans (r_pushO hw.1 hw.2.1 hw.2.2 (by omega) (by omega))).trans hra⟩) | exact Or.inr (Or.inl ⟨_, _, g, th69, by omega, gea, gda, by rw [wo.1, ga, ← ge]; exact or_0 b0.2, gd, (hr.trans (r_pushO hw.1 hw.2.1 hw.2.2 (by omega) (by omega))).trans hra⟩) | exact Or.inr (Or.inr ⟨_, _, th69, (hr.trans (r_pushA (by show (9 : Int) ≠ 7; decide) (by show (9 : Int) ≠ 8; decide) (by omega) (by omega))).trans hra⟩) | exact Or.inr (Or.inl ⟨_, bin 8 g _, y, th69, by omega, by show _ = jn 8 (g (hi 36)) _; rw [← gea, ← ge]; exact wa.1, QG.bin gd.2 gda.2 (by decide), ga, gy, ((hr.trans (r_pushA (by show (9 : Int) ≠ 7; decide) (by show (9 : Int) ≠ 8; decide) (by omega) (by omega))).trans hra).trans r_and⟩) | exact Or.inr (Or.inr ⟨_, _, th69, ((hr.trans (r_or (Or.inl (by omega)))).trans (r_pushO hw.1 hw.2.1 hw.2.2 (by omega) (by omega))).trans hra⟩) | exact Or.inr (Or.inl ⟨_, _, bin 9 y g, th69, by omega, gea, gda, by show _ = jn 9 (y (hi 36)) (g (hi 36)); rw [← ge, ← ga]; exact wo.1, QG.bin gy.2 gd.2 (by decide), ((hr.trans (r_or (Or.inl (by omega)))).trans (r_pushO hw.1 hw.2.1 hw.2.2 (by omega) (by omega))).trans hra⟩)) (frh69) (ff29h69) (by omega)
                · have cmh69 := th69.2.1
                  have hra := hrh69
                  have gca := gch69
                  have gda := gdh69
                  have gea := geh69
                  have tba := tbh69
                  refine z_istore_n (pc := 65) (lv' := [(3, AI v68), (2, AI v67), (4, AI i), (0, AR 36), (1, AI o)]) dX4_condHolds_65 rfl (by show _ < 5; decide) rfl ?_
                  refine z_iinc (pc := 66) (j := 2) (w := fun q => (4, AI q) :: [(3, AI v68), (2, AI v67), (0, AR 36), (1, AI o)]) dX4_condHolds_66 rfl (by show _ < 5; decide) (fun _ => rfl) (fun v71 ev71 => ?_)
                  refine z_goto (pc := 69) (tgt := 11) dX4_condHolds_69 (by decide) ?_
                  exact ih11 v67 v68 v71 h69 (by first | exact ⟨wo.2, tba⟩ | exact ⟨b0.1, wa.2⟩ | omega) (by omega) (by first | exact Or.inr (Or.inr ⟨_, _, th69, hr⟩) | exact Or.inr (Or.inr ⟨_, _, th69, (hr.trans (r_pushA hw.1 hw.2.1 (by omega) (by omega))).trans hra⟩) | exact Or.inl ⟨_, bin 8 g _, th69, by omega, by show _ = jn 8 (g (hi 36)) _; rw [← gea, ← ge]; exact wa.1, QG.bin gd.2 gda.2 (by decide), ga, ((hr.trans (r_pushA hw.1 hw.2.1 (by omega) (by omega))).trans hra).trans r_and⟩ | exact Or.inr (Or.inr ⟨_, _, th69, (hr.trans (r_pushO hw.1 hw.2.1 hw.2.2 (by omega) (by omega))).trans hra⟩) | exact Or.inr (Or.inl ⟨_, _, g, th69, by omega, gea, gda, by rw [wo.1, ga, ← ge]; exact or_0 b0.2, gd, (hr.trans (r_pushO hw.1 hw.2.1 hw.2.2 (by omega) (by omega))).trans hra⟩) | exact Or.inr (Or.inr ⟨_, _, th69, (hr.trans (r_pushA (by show (9 : Int) ≠ 7; decide) (by show (9 : Int) ≠ 8; decide) (by omega) (by omega))).trans hra⟩) | exact Or.inr (Or.inl ⟨_, bin 8 g _, y, th69, by omega, by show _ = jn 8 (g (hi 36)) _; rw [← gea, ← ge]; exact wa.1, QG.bin gd.2 gda.2 (by decide), ga, gy, ((hr.trans (r_pushA (by show (9 : Int) ≠ 7; decide) (by show (9 : Int) ≠ 8; decide) (by omega) (by omega))).trans hra).trans r_and⟩) | exact Or.inr (Or.inr ⟨_, _, th69, ((hr.trans (r_or (Or.inl (by omega)))).trans (r_pushO hw.1 hw.2.1 hw.2.2 (by omega) (by omega))).trans hra⟩) | exact Or.inr (Or.inl ⟨_, _, bin 9 y g, th69, by omega, gea, gda, by show _ = jn 9 (y (hi 36)) (g (hi 36)); rw [← ge, ← ga]; exact wo.1, QG.bin gy.2 gd.2 (by decide), ((hr.trans (r_or (Or.inl (by omega)))).trans (r_pushO hw.1 hw.2.1 hw.2.2 (by omega) (by omega))).trans hra⟩)) (frh69) (ff29h69) (by omega)
            · obtain ⟨-, sh60, th60⟩ := (eh60.2.2).resolve_right (fun q => absurd q.1 (by omega))
              refine z_iload_n (pc := 32) dX4_condHolds_32 rfl 1 rfl ?_
              refine z_aload_n (pc := 33) (x := 36) dX4_condHolds_33 rfl 3 rfl ?_
              refine z_iload_n (pc := 34) dX4_condHolds_34 rfl 4 rfl ?_
              refine z_callV (pc := 35) (kc := (kX4_factHolds d)) (n := 1) (pl := 35) (ci := 4) (C := RX4) (As := [AI o]) (stk := [AI all]) hF (gdV rfl rfl (iw32 _ (List.mem_of_getElem? (i := 13) rfl)) (iw32 _ (List.mem_of_getElem? (i := 14) rfl)) (iw32 _ (List.mem_of_getElem? (i := 15) rfl)) (iw2 _ (List.mem_of_getElem? (i := 12) rfl)) (iw32 _ (List.mem_of_getElem? (i := 17) rfl))) rfl ⟨rfl, rfl⟩ (by decide +kernel) ⟨by show 5 + 2 * d + 1 ≤ 6 + 2 * d; omega, by show 8 + (4 + 11) + 48 * (5 + 2 * d) ≤ 48 * (6 + 2 * d); omega⟩ (by decide) rfl rfl dX4_condHolds_35 rfl rfl (Nat.le_of_ble_eq_true rfl) ?_
              refine ⟨_, S, P, V, m, ((c2 + 1)), (8 :: W), (g :: G), rfl, ⟨th60, by rw [(congrFun (eh60.1 35 (by decide)) 3 : h60 35 3 = hk 35 3), (congrFun (frlhk 35 (by decide)) 3 : hk 35 3 = hi 35 3), (eh60.1 36 (by decide) : h60 36 = hk 36), (frlhk 36 (by decide) : hk 36 = hi 36)]; exact ⟨ho, hph, hV⟩, by omega, by simp only [opn_8, opn_9]; omega, by omega⟩, fun v72 h73 eh73 => ?_⟩
              have frh73 : Fr [29] hi h73 := (Fr.call frh60 eh73.1 (by decide))
              have ff29h73 : FF 29 [6, 7, 8] hi h73 := FF.call ff29h60 (eh73.2.1) (by decide)
              rw [(congrFun (eh60.1 35 (by decide)) 3 : h60 35 3 = hk 35 3), (congrFun (frlhk 35 (by decide)) 3 : hk 35 3 = hi 35 3)] at eh73
              rw [(eh60.1 36 (by decide) : h60 36 = hk 36), (frlhk 36 (by decide) : hk 36 = hi 36)] at eh73
              have eph73 := eh73.2.2
              replace eh73 := And.intro eh73.1 (And.intro eh73.2.1 trivial)
              obtain ⟨tbh73, eph73⟩ := eph73
              rcases eph73 with ⟨kh73, ph73, th73, hrh73⟩ | ⟨ch73, gh73, th73, gch73, geh73, gdh73, hrh73⟩
              · have hra := hrh73
                have tba := tbh73
                refine z_iand (pc := 38) dX4_condHolds_38 (fun v74 ev74 => ?_)
                have bv74 := toI_inR ev74
                have wa := and_b b0.2 tba
                rw [← ev74] at wa
                refine z_istore_n (pc := 39) (lv' := [(3, AI v74), (4, AI i), (2, AI any), (0, AR 36), (1, AI o)]) dX4_condHolds_39 rfl (by show _ < 5; decide) rfl ?_
                refine z_goto (pc := 40) (tgt := 66) dX4_condHolds_40 (by decide) ?_
                refine z_iinc (pc := 66) (j := 1) (w := fun q => (4, AI q) :: [(3, AI v74), (2, AI any), (0, AR 36), (1, AI o)]) dX4_condHolds_66 rfl (by show _ < 5; decide) (fun _ => rfl) (fun v75 ev75 => ?_)
                refine z_goto (pc := 69) (tgt := 11) dX4_condHolds_69 (by decide) ?_
                exact ih11 any v74 v75 h73 (by first | exact ⟨wo.2, tba⟩ | exact ⟨b0.1, wa.2⟩ | omega) (by omega) (by first | exact Or.inr (Or.inr ⟨_, _, th73, hr⟩) | exact Or.inr (Or.inr ⟨_, _, th73, (hr.trans (r_pushA hw.1 hw.2.1 (by omega) (by omega))).trans hra⟩) | exact Or.inl ⟨_, bin 8 g _, th73, by omega, by show _ = jn 8 (g (hi 36)) _; rw [← gea, ← ge]; exact wa.1, QG.bin gd.2 gda.2 (by decide), ga, ((hr.trans (r_pushA hw.1 hw.2.1 (by omega) (by omega))).trans hra).trans r_and⟩ | exact Or.inr (Or.inr ⟨_, _, th73, (hr.trans (r_pushO hw.1 hw.2.1 hw.2.2 (by omega) (by omega))).trans hra⟩) | exact Or.inr (Or.inl ⟨_, _, g, th73, by omega, gea, gda, by rw [wo.1, ga, ← ge]; exact or_0 b0.2, gd, (hr.trans (r_pushO hw.1 hw.2.1 hw.2.2 (by omega) (by omega))).trans hra⟩) | exact Or.inr (Or.inr ⟨_, _, th73, (hr.trans (r_pushA (by show (9 : Int) ≠ 7; decide) (by show (9 : Int) ≠ 8; decide) (by omega) (by omega))).trans hra⟩) | exact Or.inr (Or.inl ⟨_, bin 8 g _, y, th73, by omega, by show _ = jn 8 (g (hi 36)) _; rw [← gea, ← ge]; exact wa.1, QG.bin gd.2 gda.2 (by decide), ga, gy, ((hr.trans (r_pushA (by show (9 : Int) ≠ 7; decide) (by show (9 : Int) ≠ 8; decide) (by omega) (by omega))).trans hra).trans r_and⟩) | exact Or.inr (Or.inr ⟨_, _, th73, ((hr.trans (r_or (Or.inl (by omega)))).trans (r_pushO hw.1 hw.2.1 hw.2.2 (by omega) (by omega))).trans hra⟩) | exact Or.inr (Or.inl ⟨_, _, bin 9 y g, th73, by omega, gea, gda, by show _ = jn 9 (y (hi 36)) (g (hi 36)); rw [← ge, ← ga]; exact wo.1, QG.bin gy.2 gd.2 (by decide), ((hr.trans (r_or (Or.inl (by omega)))).trans (r_pushO hw.1 hw.2.1 hw.2.2 (by omega) (by omega))).trans hra⟩)) (frh73) (ff29h73) (by omega)
              · have cmh73 := th73.2.1
                have hra := hrh73
                have gca := gch73
                have gda := gdh73
                have gea := geh73
                have tba := tbh73
                refine z_iand (pc := 38) dX4_condHolds_38 (fun v76 ev76 => ?_)
                have bv76 := toI_inR ev76
                have wa := and_b b0.2 tba
                rw [← ev76] at wa
                refine z_istore_n (pc := 39) (lv' := [(3, AI v76), (4, AI i), (2, AI any), (0, AR 36), (1, AI o)]) dX4_condHolds_39 rfl (by show _ < 5; decide) rfl ?_
                refine z_goto (pc := 40) (tgt := 66) dX4_condHolds_40 (by decide) ?_
                refine z_iinc (pc := 66) (j := 1) (w := fun q => (4, AI q) :: [(3, AI v76), (2, AI any), (0, AR 36), (1, AI o)]) dX4_condHolds_66 rfl (by show _ < 5; decide) (fun _ => rfl) (fun v77 ev77 => ?_)
                refine z_goto (pc := 69) (tgt := 11) dX4_condHolds_69 (by decide) ?_
                exact ih11 any v76 v77 h73 (by first | exact ⟨wo.2, tba⟩ | exact ⟨b0.1, wa.2⟩ | omega) (by omega) (by first | exact Or.inr (Or.inr ⟨_, _, th73, hr⟩) | exact Or.inr (Or.inr ⟨_, _, th73, (hr.trans (r_pushA hw.1 hw.2.1 (by omega) (by omega))).trans hra⟩) | exact Or.inl ⟨_, bin 8 g _, th73, by omega, by show _ = jn 8 (g (hi 36)) _; rw [← gea, ← ge]; exact wa.1, QG.bin gd.2 gda.2 (by decide), ga, ((hr.trans (r_pushA hw.1 hw.2.1 (by omega) (by omega))).trans hra).trans r_and⟩ | exact Or.inr (Or.inr ⟨_, _, th73, (hr.trans (r_pushO hw.1 hw.2.1 hw.2.2 (by omega) (by omega))).trans hra⟩) | exact Or.inr (Or.inl ⟨_, _, g, th73, by omega, gea, gda, by rw [wo.1, ga, ← ge]; exact or_0 b0.2, gd, (hr.trans (r_pushO hw.1 hw.2.1 hw.2.2 (by omega) (by omega))).trans hra⟩) | exact Or.inr (Or.inr ⟨_, _, th73, (hr.trans (r_pushA (by show (9 : Int) ≠ 7; decide) (by show (9 : Int) ≠ 8; decide) (by omega) (by omega))).trans hra⟩) | exact Or.inr (Or.inl ⟨_, bin 8 g _, y, th73, by omega, by show _ = jn 8 (g (hi 36)) _; rw [← gea, ← ge]; exact wa.1, QG.bin gd.2 gda.2 (by decide), ga, gy, ((hr.trans (r_pushA (by show (9 : Int) ≠ 7; decide) (by show (9 : Int) ≠ 8; decide) (by omega) (by omega))).trans hra).trans r_and⟩) | exact Or.inr (Or.inr ⟨_, _, th73, ((hr.trans (r_or (Or.inl (by omega)))).trans (r_pushO hw.1 hw.2.1 hw.2.2 (by omega) (by omega))).trans hra⟩) | exact Or.inr (Or.inl ⟨_, _, bin 9 y g, th73, by omega, gea, gda, by show _ = jn 9 (y (hi 36)) (g (hi 36)); rw [← ge, ← ga]; exact wo.1, QG.bin gy.2 gd.2 (by decide), ((hr.trans (r_or (Or.inl (by omega)))).trans (r_pushO hw.1 hw.2.1 hw.2.2 (by omega) (by omega))).trans hra⟩)) (frh73) (ff29h73) (by omega)
        · have cb := t1.2.1
          refine z_iload (pc := 11) dX4_condHolds_11 0 rfl ?_
          refine z_sipush (pc := 13) (v := 600) dX4_condHolds_13 (by decide +kernel) ?_
          refine z_icmp_ge (pc := 16) (tgt := 72) dX4_condHolds_16 (by decide) ⟨by omega, by omega⟩ ⟨by decide, by decide⟩ (fun c78 => ?_) (fun c78 => ?_)
          · refine z_iload_n (pc := 72) dX4_condHolds_72 rfl 2 rfl ?_
            refine z_if_ne (pc := 73) (tgt := 80) dX4_condHolds_73 (by decide) ⟨by omega, by omega⟩ (fun c79 => ?_) (fun c79 => ?_)
            · refine z_iconst (pc := 80) (v := 1) dX4_condHolds_80 rfl ?_
              refine z_goto (pc := 81) (tgt := 85) dX4_condHolds_81 (by decide) ?_
              refine z_zret (pc := 85) rfl (by decide) dX4_condHolds_85 ?_
              exact hQ 1 hk ⟨frlhk, ffl29hk, by first | exact ⟨by omega, Or.inl ⟨_, _, t1, hr⟩⟩ | exact ⟨by omega, Or.inr ⟨_, g, t1, gb.1, by omega, gd, by omega, hr⟩⟩ | exact ⟨by omega, Or.inr ⟨_, bin 9 y g, t1, gb.1, by rw [bin_9 gy gd]; (repeat (first | rw [if_pos (by omega)] | rw [if_neg (by omega)])); first | done | omega, QG.bin gy.2 gd.2 (by decide), by omega, hr.trans (r_orany hw.1 hw.2.1 (by omega) (by omega))⟩⟩ | (exfalso; omega)⟩
            · refine z_iload_n (pc := 76) dX4_condHolds_76 rfl 1 rfl ?_
              refine z_if_eq (pc := 77) (tgt := 84) dX4_condHolds_77 (by decide) ⟨by omega, by omega⟩ (fun c80 => ?_) (fun c80 => ?_)
              · refine z_iconst (pc := 84) (v := 0) dX4_condHolds_84 rfl ?_
                refine z_zret (pc := 85) rfl (by decide) dX4_condHolds_85 ?_
                exact hQ 0 hk ⟨frlhk, ffl29hk, by first | exact ⟨by omega, Or.inl ⟨_, _, t1, hr⟩⟩ | exact ⟨by omega, Or.inr ⟨_, g, t1, gb.1, by omega, gd, by omega, hr⟩⟩ | exact ⟨by omega, Or.inr ⟨_, bin 9 y g, t1, gb.1, by rw [bin_9 gy gd]; (repeat (first | rw [if_pos (by omega)] | rw [if_neg (by omega)])); first | done | omega, QG.bin gy.2 gd.2 (by decide), by omega, hr.trans (r_orany hw.1 hw.2.1 (by omega) (by omega))⟩⟩ | (exfalso; omega)⟩
              · refine z_iconst (pc := 80) (v := 1) dX4_condHolds_80 rfl ?_
                refine z_goto (pc := 81) (tgt := 85) dX4_condHolds_81 (by decide) ?_
                refine z_zret (pc := 85) rfl (by decide) dX4_condHolds_85 ?_
                exact hQ 1 hk ⟨frlhk, ffl29hk, by first | exact ⟨by omega, Or.inl ⟨_, _, t1, hr⟩⟩ | exact ⟨by omega, Or.inr ⟨_, g, t1, gb.1, by omega, gd, by omega, hr⟩⟩ | exact ⟨by omega, Or.inr ⟨_, bin 9 y g, t1, gb.1, by rw [bin_9 gy gd]; (repeat (first | rw [if_pos (by omega)] | rw [if_neg (by omega)])); first | done | omega, QG.bin gy.2 gd.2 (by decide), by omega, hr.trans (r_orany hw.1 hw.2.1 (by omega) (by omega))⟩⟩ | (exfalso; omega)⟩
          · refine z_aload_n (pc := 19) (x := 36) dX4_condHolds_19 rfl 3 rfl ?_
            refine z_getR (pc := 20) (pl := 35) (f := 0) (ci := 4) (C := RX4) (T := TX4) (N := 5) hu_X4 (by decide) rfl rfl (by decide) rfl (List.mem_cons_of_mem _ (iw4 _ (List.mem_of_getElem? (i := 19) rfl))) rfl dX4_condHolds_20 ?_
            refine z_getstE (pc := 23) (i := 28) (z := 28) (by decide) rfl (List.mem_cons_of_mem _ (iw32 _ (List.mem_of_getElem? (i := 11) rfl))) dX4_condHolds_23 ?_
            refine z_callV (pc := 26) (kc := kX6_takes) (n := 1) (pl := 29) (ci := 5) (C := RX6) (As := [AR (ec 28)]) (stk := []) ct_X6_takes_TS (gdV rfl rfl (iw32 _ (List.mem_of_getElem? (i := 16) rfl)) (iw23 _ (List.mem_of_getElem? (i := 0) rfl)) (iw23 _ (List.mem_of_getElem? (i := 1) rfl)) (iw2 _ (List.mem_of_getElem? (i := 4) rfl)) (iw23 _ (List.mem_of_getElem? (i := 2) rfl))) rfl ⟨rfl, rfl⟩ (by decide +kernel) ⟨by show 2 + 1 ≤ 6 + 2 * d; omega, by show 8 + (2 + 11) + 48 * 2 ≤ 48 * (6 + 2 * d); omega⟩ (by decide) rfl rfl dX4_condHolds_26 rfl rfl (Nat.le_of_ble_eq_true rfl) ?_
            refine ⟨_, S, P, V, m, c2, rfl, ⟨t1, by decide, by decide⟩, fun v81 h82 eh82 => ?_⟩
            have frh82 : Fr [29] hi h82 := (Fr.call frlhk eh82.1 (by decide))
            have ff29h82 : FF 29 [6, 7, 8] hi h82 := FF.call ffl29hk (eh82.2.1) (by decide)
            refine z_if_eq (pc := 29) (tgt := 43) dX4_condHolds_29 (by decide) ⟨by omega, by omega⟩ (fun c83 => ?_) (fun c83 => ?_)
            · obtain ⟨-, sh82, th82⟩ := (eh82.2.2).resolve_left (fun q => absurd q.1 (by omega))
              refine z_aload_n (pc := 43) (x := 36) dX4_condHolds_43 rfl 3 rfl ?_
              refine z_getR (pc := 44) (pl := 35) (f := 0) (ci := 4) (C := RX4) (T := TX4) (N := 5) hu_X4 (by decide) rfl rfl (by decide) rfl (List.mem_cons_of_mem _ (iw4 _ (List.mem_of_getElem? (i := 19) rfl))) rfl dX4_condHolds_44 ?_
              refine z_getstE (pc := 47) (i := 27) (z := 27) (by decide) rfl (List.mem_cons_of_mem _ (iw32 _ (List.mem_of_getElem? (i := 12) rfl))) dX4_condHolds_47 ?_
              refine z_callV (pc := 50) (kc := kX6_takes) (n := 1) (pl := 29) (ci := 5) (C := RX6) (As := [AR (ec 27)]) (stk := []) ct_X6_takes_TS (gdV rfl rfl (iw32 _ (List.mem_of_getElem? (i := 16) rfl)) (iw23 _ (List.mem_of_getElem? (i := 0) rfl)) (iw23 _ (List.mem_of_getElem? (i := 1) rfl)) (iw2 _ (List.mem_of_getElem? (i := 4) rfl)) (iw23 _ (List.mem_of_getElem? (i := 2) rfl))) rfl ⟨rfl, rfl⟩ (by decide +kernel) ⟨by show 2 + 1 ≤ 6 + 2 * d; omega, by show 8 + (2 + 11) + 48 * 2 ≤ 48 * (6 + 2 * d); omega⟩ (by decide) rfl rfl dX4_condHolds_50 rfl rfl (Nat.le_of_ble_eq_true rfl) ?_
              refine ⟨_, S, P, V, m, c2, rfl, ⟨th82, by decide, by decide⟩, fun v84 h85 eh85 => ?_⟩
              have frh85 : Fr [29] hi h85 := (Fr.call frh82 eh85.1 (by decide))
              have ff29h85 : FF 29 [6, 7, 8] hi h85 := FF.call ff29h82 (eh85.2.1) (by decide)
              refine z_if_eq (pc := 53) (tgt := 72) dX4_condHolds_53 (by decide) ⟨by omega, by omega⟩ (fun c86 => ?_) (fun c86 => ?_)
              · obtain ⟨-, sh85, th85⟩ := (eh85.2.2).resolve_left (fun q => absurd q.1 (by omega))
                refine z_iload_n (pc := 72) dX4_condHolds_72 rfl 2 rfl ?_
                refine z_if_ne (pc := 73) (tgt := 80) dX4_condHolds_73 (by decide) ⟨by omega, by omega⟩ (fun c87 => ?_) (fun c87 => ?_)
                · refine z_iconst (pc := 80) (v := 1) dX4_condHolds_80 rfl ?_
                  refine z_goto (pc := 81) (tgt := 85) dX4_condHolds_81 (by decide) ?_
                  refine z_zret (pc := 85) rfl (by decide) dX4_condHolds_85 ?_
                  exact hQ 1 h85 ⟨frh85, ff29h85, by first | exact ⟨by omega, Or.inl ⟨_, _, th85, hr⟩⟩ | exact ⟨by omega, Or.inr ⟨_, g, th85, gb.1, by omega, gd, by omega, hr⟩⟩ | exact ⟨by omega, Or.inr ⟨_, bin 9 y g, th85, gb.1, by rw [bin_9 gy gd]; (repeat (first | rw [if_pos (by omega)] | rw [if_neg (by omega)])); first | done | omega, QG.bin gy.2 gd.2 (by decide), by omega, hr.trans (r_orany hw.1 hw.2.1 (by omega) (by omega))⟩⟩ | (exfalso; omega)⟩
                · refine z_iload_n (pc := 76) dX4_condHolds_76 rfl 1 rfl ?_
                  refine z_if_eq (pc := 77) (tgt := 84) dX4_condHolds_77 (by decide) ⟨by omega, by omega⟩ (fun c88 => ?_) (fun c88 => ?_)
                  · refine z_iconst (pc := 84) (v := 0) dX4_condHolds_84 rfl ?_
                    refine z_zret (pc := 85) rfl (by decide) dX4_condHolds_85 ?_
                    exact hQ 0 h85 ⟨frh85, ff29h85, by first | exact ⟨by omega, Or.inl ⟨_, _, th85, hr⟩⟩ | exact ⟨by omega, Or.inr ⟨_, g, th85, gb.1, by omega, gd, by omega, hr⟩⟩ | exact ⟨by omega, Or.inr ⟨_, bin 9 y g, th85, gb.1, by rw [bin_9 gy gd]; (repeat (first | rw [if_pos (by omega)] | rw [if_neg (by omega)])); first | done | omega, QG.bin gy.2 gd.2 (by decide), by omega, hr.trans (r_orany hw.1 hw.2.1 (by omega) (by omega))⟩⟩ | (exfalso; omega)⟩
                  · refine z_iconst (pc := 80) (v := 1) dX4_condHolds_80 rfl ?_
                    refine z_goto (pc := 81) (tgt := 85) dX4_condHolds_81 (by decide) ?_
                    refine z_zret (pc := 85) rfl (by decide) dX4_condHolds_85 ?_
                    exact hQ 1 h85 ⟨frh85, ff29h85, by first | exact ⟨by omega, Or.inl ⟨_, _, th85, hr⟩⟩ | exact ⟨by omega, Or.inr ⟨_, g, th85, gb.1, by omega, gd, by omega, hr⟩⟩ | exact ⟨by omega, Or.inr ⟨_, bin 9 y g, th85, gb.1, by rw [bin_9 gy gd]; (repeat (first | rw [if_pos (by omega)] | rw [if_neg (by omega)])); first | done | omega, QG.bin gy.2 gd.2 (by decide), by omega, hr.trans (r_orany hw.1 hw.2.1 (by omega) (by omega))⟩⟩ | (exfalso; omega)⟩
              · obtain ⟨-, sh85, th85⟩ := (eh85.2.2).resolve_right (fun q => absurd q.1 (by omega))
                refine z_iload_n (pc := 56) dX4_condHolds_56 rfl 2 rfl ?_
                refine z_iload_n (pc := 57) dX4_condHolds_57 rfl 1 rfl ?_
                refine z_ior (pc := 58) dX4_condHolds_58 (fun v89 ev89 => ?_)
                have bv89 := toI_inR ev89
                have wo := or_b b0.1 b0.2
                rw [← ev89] at wo
                refine z_istore_n (pc := 59) (lv' := [(2, AI v89), (4, AI i), (3, AI all), (0, AR 36), (1, AI o)]) dX4_condHolds_59 rfl (by show _ < 5; decide) rfl ?_
                refine z_aload_n (pc := 60) (x := 36) dX4_condHolds_60 rfl 3 rfl ?_
                refine z_iload_n (pc := 61) dX4_condHolds_61 rfl 4 rfl ?_
                refine z_callV (pc := 62) (kc := (kX4_factHolds d)) (n := 1) (pl := 35) (ci := 4) (C := RX4) (As := [AI o]) (stk := []) hF (gdV rfl rfl (iw32 _ (List.mem_of_getElem? (i := 13) rfl)) (iw32 _ (List.mem_of_getElem? (i := 14) rfl)) (iw32 _ (List.mem_of_getElem? (i := 15) rfl)) (iw2 _ (List.mem_of_getElem? (i := 12) rfl)) (iw32 _ (List.mem_of_getElem? (i := 17) rfl))) rfl ⟨rfl, rfl⟩ (by decide +kernel) ⟨by show 5 + 2 * d + 1 ≤ 6 + 2 * d; omega, by show 8 + (4 + 11) + 48 * (5 + 2 * d) ≤ 48 * (6 + 2 * d); omega⟩ (by decide) rfl rfl dX4_condHolds_62 rfl rfl (Nat.le_of_ble_eq_true rfl) ?_
                refine ⟨_, S, P, V, m, ((c2 + 1)), (9 :: W), (bin 9 y g :: G), rfl, ⟨th85, by rw [(congrFun (eh85.1 35 (by decide)) 3 : h85 35 3 = h82 35 3), (congrFun (eh82.1 35 (by decide)) 3 : h82 35 3 = hk 35 3), (congrFun (frlhk 35 (by decide)) 3 : hk 35 3 = hi 35 3), (eh85.1 36 (by decide) : h85 36 = h82 36), (eh82.1 36 (by decide) : h82 36 = hk 36), (frlhk 36 (by decide) : hk 36 = hi 36)]; exact ⟨ho, hph, hV⟩, by omega, by simp only [opn_8, opn_9]; omega, by omega⟩, fun v90 h91 eh91 => ?_⟩
                have frh91 : Fr [29] hi h91 := (Fr.call frh85 eh91.1 (by decide))
                have ff29h91 : FF 29 [6, 7, 8] hi h91 := FF.call ff29h85 (eh91.2.1) (by decide)
                rw [(congrFun (eh85.1 35 (by decide)) 3 : h85 35 3 = h82 35 3), (congrFun (eh82.1 35 (by decide)) 3 : h82 35 3 = hk 35 3), (congrFun (frlhk 35 (by decide)) 3 : hk 35 3 = hi 35 3)] at eh91
                rw [(eh85.1 36 (by decide) : h85 36 = h82 36), (eh82.1 36 (by decide) : h82 36 = hk 36), (frlhk 36 (by decide) : hk 36 = hi 36)] at eh91
                have eph91 := eh91.2.2
                replace eh91 := And.intro eh91.1 (And.intro eh91.2.1 trivial)
                obtain ⟨tbh91, eph91⟩ := eph91
                rcases eph91 with ⟨kh91, ph91, th91, hrh91⟩ | ⟨ch91, gh91, th91, gch91, geh91, gdh91, hrh91⟩
                · have hra := hrh91
                  have tba := tbh91
                  refine z_istore_n (pc := 65) (lv' := [(3, AI v90), (2, AI v89), (4, AI i), (0, AR 36), (1, AI o)]) dX4_condHolds_65 rfl (by show _ < 5; decide) rfl ?_
                  refine z_iinc (pc := 66) (j := 2) (w := fun q => (4, AI q) :: [(3, AI v90), (2, AI v89), (0, AR 36), (1, AI o)]) dX4_condHolds_66 rfl (by show _ < 5; decide) (fun _ => rfl) (fun v92 ev92 => ?_)
                  refine z_goto (pc := 69) (tgt := 11) dX4_condHolds_69 (by decide) ?_
                  exact ih11 v89 v90 v92 h91 (by first | exact ⟨wo.2, tba⟩ | exact ⟨b0.1, wa.2⟩ | omega) (by omega) (by first | exact Or.inr (Or.inr ⟨_, _, th91, hr⟩) | exact Or.inr (Or.inr ⟨_, _, th91, (hr.trans (r_pushA hw.1 hw.2.1 (by omega) (by omega))).trans hra⟩) | exact Or.inl ⟨_, bin 8 g _, th91, by omega, by show _ = jn 8 (g (hi 36)) _; rw [← gea, ← ge]; exact wa.1, QG.bin gd.2 gda.2 (by decide), ga, ((hr.trans (r_pushA hw.1 hw.2.1 (by omega) (by omega))).trans hra).trans r_and⟩ | exact Or.inr (Or.inr ⟨_, _, th91, (hr.trans (r_pushO hw.1 hw.2.1 hw.2.2 (by omega) (by omega))).trans hra⟩) | exact Or.inr (Or.inl ⟨_, _, g, th91, by omega, gea, gda, by rw [wo.1, ga, ← ge]; exact or_0 b0.2, gd, (hr.trans (r_pushO hw.1 hw.2.1 hw.2.2 (by omega) (by omega))).trans hra⟩) | exact Or.inr (Or.inr ⟨_, _, th91, (hr.trans (r_pushA (by show (9 : Int) ≠ 7; decide) (by show (9 : Int) ≠ 8; decide) (by omega) (by omega))).trans hra⟩) | exact Or.inr (Or.inl ⟨_, bin 8 g _, y, th91, by omega, by show _ = jn 8 (g (hi 36)) _; rw [← gea, ← ge]; exact wa.1, QG.bin gd.2 gda.2 (by decide), ga, gy, ((hr.trans (r_pushA (by show (9 : Int) ≠ 7; decide) (by show (9 : Int) ≠ 8; decide) (by omega) (by omega))).trans hra).trans r_and⟩) | exact Or.inr (Or.inr ⟨_, _, th91, ((hr.trans (r_or (Or.inl (by omega)))).trans (r_pushO hw.1 hw.2.1 hw.2.2 (by omega) (by omega))).trans hra⟩) | exact Or.inr (Or.inl ⟨_, _, bin 9 y g, th91, by omega, gea, gda, by show _ = jn 9 (y (hi 36)) (g (hi 36)); rw [← ge, ← ga]; exact wo.1, QG.bin gy.2 gd.2 (by decide), ((hr.trans (r_or (Or.inl (by omega)))).trans (r_pushO hw.1 hw.2.1 hw.2.2 (by omega) (by omega))).trans hra⟩)) (frh91) (ff29h91) (by omega)
                · have cmh91 := th91.2.1
                  have hra := hrh91
                  have gca := gch91
                  have gda := gdh91
                  have gea := geh91
                  have tba := tbh91
                  refine z_istore_n (pc := 65) (lv' := [(3, AI v90), (2, AI v89), (4, AI i), (0, AR 36), (1, AI o)]) dX4_condHolds_65 rfl (by show _ < 5; decide) rfl ?_
                  refine z_iinc (pc := 66) (j := 2) (w := fun q => (4, AI q) :: [(3, AI v90), (2, AI v89), (0, AR 36), (1, AI o)]) dX4_condHolds_66 rfl (by show _ < 5; decide) (fun _ => rfl) (fun v93 ev93 => ?_)
                  refine z_goto (pc := 69) (tgt := 11) dX4_condHolds_69 (by decide) ?_
                  exact ih11 v89 v90 v93 h91 (by first | exact ⟨wo.2, tba⟩ | exact ⟨b0.1, wa.2⟩ | omega) (by omega) (by first | exact Or.inr (Or.inr ⟨_, _, th91, hr⟩) | exact Or.inr (Or.inr ⟨_, _, th91, (hr.trans (r_pushA hw.1 hw.2.1 (by omega) (by omega))).trans hra⟩) | exact Or.inl ⟨_, bin 8 g _, th91, by omega, by show _ = jn 8 (g (hi 36)) _; rw [← gea, ← ge]; exact wa.1, QG.bin gd.2 gda.2 (by decide), ga, ((hr.trans (r_pushA hw.1 hw.2.1 (by omega) (by omega))).trans hra).trans r_and⟩ | exact Or.inr (Or.inr ⟨_, _, th91, (hr.trans (r_pushO hw.1 hw.2.1 hw.2.2 (by omega) (by omega))).trans hra⟩) | exact Or.inr (Or.inl ⟨_, _, g, th91, by omega, gea, gda, by rw [wo.1, ga, ← ge]; exact or_0 b0.2, gd, (hr.trans (r_pushO hw.1 hw.2.1 hw.2.2 (by omega) (by omega))).trans hra⟩) | exact Or.inr (Or.inr ⟨_, _, th91, (hr.trans (r_pushA (by show (9 : Int) ≠ 7; decide) (by show (9 : Int) ≠ 8; decide) (by omega) (by omega))).trans hra⟩) | exact Or.inr (Or.inl ⟨_, bin 8 g _, y, th91, by omega, by show _ = jn 8 (g (hi 36)) _; rw [← gea, ← ge]; exact wa.1, QG.bin gd.2 gda.2 (by decide), ga, gy, ((hr.trans (r_pushA (by show (9 : Int) ≠ 7; decide) (by show (9 : Int) ≠ 8; decide) (by omega) (by omega))).trans hra).trans r_and⟩) | exact Or.inr (Or.inr ⟨_, _, th91, ((hr.trans (r_or (Or.inl (by omega)))).trans (r_pushO hw.1 hw.2.1 hw.2.2 (by omega) (by omega))).trans hra⟩) | exact Or.inr (Or.inl ⟨_, _, bin 9 y g, th91, by omega, gea, gda, by show _ = jn 9 (y (hi 36)) (g (hi 36)); rw [← ge, ← ga]; exact wo.1, QG.bin gy.2 gd.2 (by decide), ((hr.trans (r_or (Or.inl (by omega)))).trans (r_pushO hw.1 hw.2.1 hw.2.2 (by omega) (by omega))).trans hra⟩)) (frh91) (ff29h91) (by omega)
            · obtain ⟨-, sh82, th82⟩ := (eh82.2.2).resolve_right (fun q => absurd q.1 (by omega))
              refine z_iload_n (pc := 32) dX4_condHolds_32 rfl 1 rfl ?_
              refine z_aload_n (pc := 33) (x := 36) dX4_condHolds_33 rfl 3 rfl ?_
              refine z_iload_n (pc := 34) dX4_condHolds_34 rfl 4 rfl ?_
              refine z_callV (pc := 35) (kc := (kX4_factHolds d)) (n := 1) (pl := 35) (ci := 4) (C := RX4) (As := [AI o]) (stk := [AI all]) hF (gdV rfl rfl (iw32 _ (List.mem_of_getElem? (i := 13) rfl)) (iw32 _ (List.mem_of_getElem? (i := 14) rfl)) (iw32 _ (List.mem_of_getElem? (i := 15) rfl)) (iw2 _ (List.mem_of_getElem? (i := 12) rfl)) (iw32 _ (List.mem_of_getElem? (i := 17) rfl))) rfl ⟨rfl, rfl⟩ (by decide +kernel) ⟨by show 5 + 2 * d + 1 ≤ 6 + 2 * d; omega, by show 8 + (4 + 11) + 48 * (5 + 2 * d) ≤ 48 * (6 + 2 * d); omega⟩ (by decide) rfl rfl dX4_condHolds_35 rfl rfl (Nat.le_of_ble_eq_true rfl) ?_
              refine ⟨_, S, P, V, m, ((c2 + 1)), (8 :: (9 :: W)), (g :: y :: G), rfl, ⟨th82, by rw [(congrFun (eh82.1 35 (by decide)) 3 : h82 35 3 = hk 35 3), (congrFun (frlhk 35 (by decide)) 3 : hk 35 3 = hi 35 3), (eh82.1 36 (by decide) : h82 36 = hk 36), (frlhk 36 (by decide) : hk 36 = hi 36)]; exact ⟨ho, hph, hV⟩, by omega, by simp only [opn_8, opn_9]; omega, by omega⟩, fun v94 h95 eh95 => ?_⟩
              have frh95 : Fr [29] hi h95 := (Fr.call frh82 eh95.1 (by decide))
              have ff29h95 : FF 29 [6, 7, 8] hi h95 := FF.call ff29h82 (eh95.2.1) (by decide)
              rw [(congrFun (eh82.1 35 (by decide)) 3 : h82 35 3 = hk 35 3), (congrFun (frlhk 35 (by decide)) 3 : hk 35 3 = hi 35 3)] at eh95
              rw [(eh82.1 36 (by decide) : h82 36 = hk 36), (frlhk 36 (by decide) : hk 36 = hi 36)] at eh95
              have eph95 := eh95.2.2
              replace eh95 := And.intro eh95.1 (And.intro eh95.2.1 trivial)
              obtain ⟨tbh95, eph95⟩ := eph95
              rcases eph95 with ⟨kh95, ph95, th95, hrh95⟩ | ⟨ch95, gh95, th95, gch95, geh95, gdh95, hrh95⟩
              · have hra := hrh95
                have tba := tbh95
                refine z_iand (pc := 38) dX4_condHolds_38 (fun v96 ev96 => ?_)
                have bv96 := toI_inR ev96
                have wa := and_b b0.2 tba
                rw [← ev96] at wa
                refine z_istore_n (pc := 39) (lv' := [(3, AI v96), (4, AI i), (2, AI any), (0, AR 36), (1, AI o)]) dX4_condHolds_39 rfl (by show _ < 5; decide) rfl ?_
                refine z_goto (pc := 40) (tgt := 66) dX4_condHolds_40 (by decide) ?_
                refine z_iinc (pc := 66) (j := 1) (w := fun q => (4, AI q) :: [(3, AI v96), (2, AI any), (0, AR 36), (1, AI o)]) dX4_condHolds_66 rfl (by show _ < 5; decide) (fun _ => rfl) (fun v97 ev97 => ?_)
                refine z_goto (pc := 69) (tgt := 11) dX4_condHolds_69 (by decide) ?_
                exact ih11 any v96 v97 h95 (by first | exact ⟨wo.2, tba⟩ | exact ⟨b0.1, wa.2⟩ | omega) (by omega) (by first | exact Or.inr (Or.inr ⟨_, _, th95, hr⟩) | exact Or.inr (Or.inr ⟨_, _, th95, (hr.trans (r_pushA hw.1 hw.2.1 (by omega) (by omega))).trans hra⟩) | exact Or.inl ⟨_, bin 8 g _, th95, by omega, by show _ = jn 8 (g (hi 36)) _; rw [← gea, ← ge]; exact wa.1, QG.bin gd.2 gda.2 (by decide), ga, ((hr.trans (r_pushA hw.1 hw.2.1 (by omega) (by omega))).trans hra).trans r_and⟩ | exact Or.inr (Or.inr ⟨_, _, th95, (hr.trans (r_pushO hw.1 hw.2.1 hw.2.2 (by omega) (by omega))).trans hra⟩) | exact Or.inr (Or.inl ⟨_, _, g, th95, by omega, gea, gda, by rw [wo.1, ga, ← ge]; exact or_0 b0.2, gd, (hr.trans (r_pushO hw.1 hw.2.1 hw.2.2 (by omega) (by omega))).trans hra⟩) | exact Or.inr (Or.inr ⟨_, _, th95, (hr.trans (r_pushA (by show (9 : Int) ≠ 7; decide) (by show (9 : Int) ≠ 8; decide) (by omega) (by omega))).trans hra⟩) | exact Or.inr (Or.inl ⟨_, bin 8 g _, y, th95, by omega, by show _ = jn 8 (g (hi 36)) _; rw [← gea, ← ge]; exact wa.1, QG.bin gd.2 gda.2 (by decide), ga, gy, ((hr.trans (r_pushA (by show (9 : Int) ≠ 7; decide) (by show (9 : Int) ≠ 8; decide) (by omega) (by omega))).trans hra).trans r_and⟩) | exact Or.inr (Or.inr ⟨_, _, th95, ((hr.trans (r_or (Or.inl (by omega)))).trans (r_pushO hw.1 hw.2.1 hw.2.2 (by omega) (by omega))).trans hra⟩) | exact Or.inr (Or.inl ⟨_, _, bin 9 y g, th95, by omega, gea, gda, by show _ = jn 9 (y (hi 36)) (g (hi 36)); rw [← ge, ← ga]; exact wo.1, QG.bin gy.2 gd.2 (by decide), ((hr.trans (r_or (Or.inl (by omega)))).trans (r_pushO hw.1 hw.2.1 hw.2.2 (by omega) (by omega))).trans hra⟩)) (frh95) (ff29h95) (by omega)
              · have cmh95 := th95.2.1
                have hra := hrh95
                have gca := gch95
                have gda := gdh95
                have gea := geh95
                have tba := tbh95
                refine z_iand (pc := 38) dX4_condHolds_38 (fun v98 ev98 => ?_)
                have bv98 := toI_inR ev98
                have wa := and_b b0.2 tba
                rw [← ev98] at wa
                refine z_istore_n (pc := 39) (lv' := [(3, AI v98), (4, AI i), (2, AI any), (0, AR 36), (1, AI o)]) dX4_condHolds_39 rfl (by show _ < 5; decide) rfl ?_
                refine z_goto (pc := 40) (tgt := 66) dX4_condHolds_40 (by decide) ?_
                refine z_iinc (pc := 66) (j := 1) (w := fun q => (4, AI q) :: [(3, AI v98), (2, AI any), (0, AR 36), (1, AI o)]) dX4_condHolds_66 rfl (by show _ < 5; decide) (fun _ => rfl) (fun v99 ev99 => ?_)
                refine z_goto (pc := 69) (tgt := 11) dX4_condHolds_69 (by decide) ?_
                exact ih11 any v98 v99 h95 (by first | exact ⟨wo.2, tba⟩ | exact ⟨b0.1, wa.2⟩ | omega) (by omega) (by first | exact Or.inr (Or.inr ⟨_, _, th95, hr⟩) | exact Or.inr (Or.inr ⟨_, _, th95, (hr.trans (r_pushA hw.1 hw.2.1 (by omega) (by omega))).trans hra⟩) | exact Or.inl ⟨_, bin 8 g _, th95, by omega, by show _ = jn 8 (g (hi 36)) _; rw [← gea, ← ge]; exact wa.1, QG.bin gd.2 gda.2 (by decide), ga, ((hr.trans (r_pushA hw.1 hw.2.1 (by omega) (by omega))).trans hra).trans r_and⟩ | exact Or.inr (Or.inr ⟨_, _, th95, (hr.trans (r_pushO hw.1 hw.2.1 hw.2.2 (by omega) (by omega))).trans hra⟩) | exact Or.inr (Or.inl ⟨_, _, g, th95, by omega, gea, gda, by rw [wo.1, ga, ← ge]; exact or_0 b0.2, gd, (hr.trans (r_pushO hw.1 hw.2.1 hw.2.2 (by omega) (by omega))).trans hra⟩) | exact Or.inr (Or.inr ⟨_, _, th95, (hr.trans (r_pushA (by show (9 : Int) ≠ 7; decide) (by show (9 : Int) ≠ 8; decide) (by omega) (by omega))).trans hra⟩) | exact Or.inr (Or.inl ⟨_, bin 8 g _, y, th95, by omega, by show _ = jn 8 (g (hi 36)) _; rw [← gea, ← ge]; exact wa.1, QG.bin gd.2 gda.2 (by decide), ga, gy, ((hr.trans (r_pushA (by show (9 : Int) ≠ 7; decide) (by show (9 : Int) ≠ 8; decide) (by omega) (by omega))).trans hra).trans r_and⟩) | exact Or.inr (Or.inr ⟨_, _, th95, ((hr.trans (r_or (Or.inl (by omega)))).trans (r_pushO hw.1 hw.2.1 hw.2.2 (by omega) (by omega))).trans hra⟩) | exact Or.inr (Or.inl ⟨_, _, bin 9 y g, th95, by omega, gea, gda, by show _ = jn 9 (y (hi 36)) (g (hi 36)); rw [← ge, ← ga]; exact wo.1, QG.bin gy.2 gd.2 (by decide), ((hr.trans (r_or (Or.inl (by omega)))).trans (r_pushO hw.1 hw.2.1 hw.2.2 (by omega) (by omega))).trans hra⟩)) (frh95) (ff29h95) (by omega)
        · refine z_iload (pc := 11) dX4_condHolds_11 0 rfl ?_
          refine z_sipush (pc := 13) (v := 600) dX4_condHolds_13 (by decide +kernel) ?_
          refine z_icmp_ge (pc := 16) (tgt := 72) dX4_condHolds_16 (by decide) ⟨by omega, by omega⟩ ⟨by decide, by decide⟩ (fun c100 => ?_) (fun c100 => ?_)
          · refine z_iload_n (pc := 72) dX4_condHolds_72 rfl 2 rfl ?_
            refine z_if_ne (pc := 73) (tgt := 80) dX4_condHolds_73 (by decide) ⟨by omega, by omega⟩ (fun c101 => ?_) (fun c101 => ?_)
            · refine z_iconst (pc := 80) (v := 1) dX4_condHolds_80 rfl ?_
              refine z_goto (pc := 81) (tgt := 85) dX4_condHolds_81 (by decide) ?_
              refine z_zret (pc := 85) rfl (by decide) dX4_condHolds_85 ?_
              exact hQ 1 hk ⟨frlhk, ffl29hk, by first | exact ⟨by omega, Or.inl ⟨_, _, t1, hr⟩⟩ | exact ⟨by omega, Or.inr ⟨_, g, t1, gb.1, by omega, gd, by omega, hr⟩⟩ | exact ⟨by omega, Or.inr ⟨_, bin 9 y g, t1, gb.1, by rw [bin_9 gy gd]; (repeat (first | rw [if_pos (by omega)] | rw [if_neg (by omega)])); first | done | omega, QG.bin gy.2 gd.2 (by decide), by omega, hr.trans (r_orany hw.1 hw.2.1 (by omega) (by omega))⟩⟩ | (exfalso; omega)⟩
            · refine z_iload_n (pc := 76) dX4_condHolds_76 rfl 1 rfl ?_
              refine z_if_eq (pc := 77) (tgt := 84) dX4_condHolds_77 (by decide) ⟨by omega, by omega⟩ (fun c102 => ?_) (fun c102 => ?_)
              · refine z_iconst (pc := 84) (v := 0) dX4_condHolds_84 rfl ?_
                refine z_zret (pc := 85) rfl (by decide) dX4_condHolds_85 ?_
                exact hQ 0 hk ⟨frlhk, ffl29hk, by first | exact ⟨by omega, Or.inl ⟨_, _, t1, hr⟩⟩ | exact ⟨by omega, Or.inr ⟨_, g, t1, gb.1, by omega, gd, by omega, hr⟩⟩ | exact ⟨by omega, Or.inr ⟨_, bin 9 y g, t1, gb.1, by rw [bin_9 gy gd]; (repeat (first | rw [if_pos (by omega)] | rw [if_neg (by omega)])); first | done | omega, QG.bin gy.2 gd.2 (by decide), by omega, hr.trans (r_orany hw.1 hw.2.1 (by omega) (by omega))⟩⟩ | (exfalso; omega)⟩
              · refine z_iconst (pc := 80) (v := 1) dX4_condHolds_80 rfl ?_
                refine z_goto (pc := 81) (tgt := 85) dX4_condHolds_81 (by decide) ?_
                refine z_zret (pc := 85) rfl (by decide) dX4_condHolds_85 ?_
                exact hQ 1 hk ⟨frlhk, ffl29hk, by first | exact ⟨by omega, Or.inl ⟨_, _, t1, hr⟩⟩ | exact ⟨by omega, Or.inr ⟨_, g, t1, gb.1, by omega, gd, by omega, hr⟩⟩ | exact ⟨by omega, Or.inr ⟨_, bin 9 y g, t1, gb.1, by rw [bin_9 gy gd]; (repeat (first | rw [if_pos (by omega)] | rw [if_neg (by omega)])); first | done | omega, QG.bin gy.2 gd.2 (by decide), by omega, hr.trans (r_orany hw.1 hw.2.1 (by omega) (by omega))⟩⟩ | (exfalso; omega)⟩
          · refine z_aload_n (pc := 19) (x := 36) dX4_condHolds_19 rfl 3 rfl ?_
            refine z_getR (pc := 20) (pl := 35) (f := 0) (ci := 4) (C := RX4) (T := TX4) (N := 5) hu_X4 (by decide) rfl rfl (by decide) rfl (List.mem_cons_of_mem _ (iw4 _ (List.mem_of_getElem? (i := 19) rfl))) rfl dX4_condHolds_20 ?_
            refine z_getstE (pc := 23) (i := 28) (z := 28) (by decide) rfl (List.mem_cons_of_mem _ (iw32 _ (List.mem_of_getElem? (i := 11) rfl))) dX4_condHolds_23 ?_
            refine z_callV (pc := 26) (kc := kX6_takes) (n := 1) (pl := 29) (ci := 5) (C := RX6) (As := [AR (ec 28)]) (stk := []) ct_X6_takes_TF (gdV rfl rfl (iw32 _ (List.mem_of_getElem? (i := 16) rfl)) (iw23 _ (List.mem_of_getElem? (i := 0) rfl)) (iw23 _ (List.mem_of_getElem? (i := 1) rfl)) (iw2 _ (List.mem_of_getElem? (i := 4) rfl)) (iw23 _ (List.mem_of_getElem? (i := 2) rfl))) rfl ⟨rfl, rfl⟩ (by decide +kernel) ⟨by show 2 + 1 ≤ 6 + 2 * d; omega, by show 8 + (2 + 11) + 48 * 2 ≤ 48 * (6 + 2 * d); omega⟩ (by decide) rfl rfl dX4_condHolds_26 rfl rfl (Nat.le_of_ble_eq_true rfl) ?_
            refine ⟨_, S, P, V, m, k1, p1, rfl, ⟨t1, by decide, by decide⟩, fun v103 h104 eh104 => ?_⟩
            have frh104 : Fr [29] hi h104 := (Fr.call frlhk eh104.1 (by decide))
            have ff29h104 : FF 29 [6, 7, 8] hi h104 := FF.call ffl29hk (eh104.2.1) (by decide)
            have eph104 := eh104.2.2
            replace eh104 := And.intro eh104.1 (And.intro eh104.2.1 trivial)
            obtain ⟨rfl, th104⟩ := eph104
            refine z_if_eq (pc := 29) (tgt := 43) dX4_condHolds_29 (by decide) ⟨by decide, by decide⟩ (fun _ => ?_) (fun q => absurd q (by decide))
            refine z_aload_n (pc := 43) (x := 36) dX4_condHolds_43 rfl 3 rfl ?_
            refine z_getR (pc := 44) (pl := 35) (f := 0) (ci := 4) (C := RX4) (T := TX4) (N := 5) hu_X4 (by decide) rfl rfl (by decide) rfl (List.mem_cons_of_mem _ (iw4 _ (List.mem_of_getElem? (i := 19) rfl))) rfl dX4_condHolds_44 ?_
            refine z_getstE (pc := 47) (i := 27) (z := 27) (by decide) rfl (List.mem_cons_of_mem _ (iw32 _ (List.mem_of_getElem? (i := 12) rfl))) dX4_condHolds_47 ?_
            refine z_callV (pc := 50) (kc := kX6_takes) (n := 1) (pl := 29) (ci := 5) (C := RX6) (As := [AR (ec 27)]) (stk := []) ct_X6_takes_TF (gdV rfl rfl (iw32 _ (List.mem_of_getElem? (i := 16) rfl)) (iw23 _ (List.mem_of_getElem? (i := 0) rfl)) (iw23 _ (List.mem_of_getElem? (i := 1) rfl)) (iw2 _ (List.mem_of_getElem? (i := 4) rfl)) (iw23 _ (List.mem_of_getElem? (i := 2) rfl))) rfl ⟨rfl, rfl⟩ (by decide +kernel) ⟨by show 2 + 1 ≤ 6 + 2 * d; omega, by show 8 + (2 + 11) + 48 * 2 ≤ 48 * (6 + 2 * d); omega⟩ (by decide) rfl rfl dX4_condHolds_50 rfl rfl (Nat.le_of_ble_eq_true rfl) ?_
            refine ⟨_, S, P, V, m, k1, p1, rfl, ⟨th104, by decide, by decide⟩, fun v105 h106 eh106 => ?_⟩
            have frh106 : Fr [29] hi h106 := (Fr.call frh104 eh106.1 (by decide))
            have ff29h106 : FF 29 [6, 7, 8] hi h106 := FF.call ff29h104 (eh106.2.1) (by decide)
            have eph106 := eh106.2.2
            replace eh106 := And.intro eh106.1 (And.intro eh106.2.1 trivial)
            obtain ⟨rfl, th106⟩ := eph106
            refine z_if_eq (pc := 53) (tgt := 72) dX4_condHolds_53 (by decide) ⟨by decide, by decide⟩ (fun _ => ?_) (fun q => absurd q (by decide))
            refine z_iload_n (pc := 72) dX4_condHolds_72 rfl 2 rfl ?_
            refine z_if_ne (pc := 73) (tgt := 80) dX4_condHolds_73 (by decide) ⟨by omega, by omega⟩ (fun c107 => ?_) (fun c107 => ?_)
            · refine z_iconst (pc := 80) (v := 1) dX4_condHolds_80 rfl ?_
              refine z_goto (pc := 81) (tgt := 85) dX4_condHolds_81 (by decide) ?_
              refine z_zret (pc := 85) rfl (by decide) dX4_condHolds_85 ?_
              exact hQ 1 h106 ⟨frh106, ff29h106, by first | exact ⟨by omega, Or.inl ⟨_, _, th106, hr⟩⟩ | exact ⟨by omega, Or.inr ⟨_, g, th106, gb.1, by omega, gd, by omega, hr⟩⟩ | exact ⟨by omega, Or.inr ⟨_, bin 9 y g, th106, gb.1, by rw [bin_9 gy gd]; (repeat (first | rw [if_pos (by omega)] | rw [if_neg (by omega)])); first | done | omega, QG.bin gy.2 gd.2 (by decide), by omega, hr.trans (r_orany hw.1 hw.2.1 (by omega) (by omega))⟩⟩ | (exfalso; omega)⟩
            · refine z_iload_n (pc := 76) dX4_condHolds_76 rfl 1 rfl ?_
              refine z_if_eq (pc := 77) (tgt := 84) dX4_condHolds_77 (by decide) ⟨by omega, by omega⟩ (fun c108 => ?_) (fun c108 => ?_)
              · refine z_iconst (pc := 84) (v := 0) dX4_condHolds_84 rfl ?_
                refine z_zret (pc := 85) rfl (by decide) dX4_condHolds_85 ?_
                exact hQ 0 h106 ⟨frh106, ff29h106, by first | exact ⟨by omega, Or.inl ⟨_, _, th106, hr⟩⟩ | exact ⟨by omega, Or.inr ⟨_, g, th106, gb.1, by omega, gd, by omega, hr⟩⟩ | exact ⟨by omega, Or.inr ⟨_, bin 9 y g, th106, gb.1, by rw [bin_9 gy gd]; (repeat (first | rw [if_pos (by omega)] | rw [if_neg (by omega)])); first | done | omega, QG.bin gy.2 gd.2 (by decide), by omega, hr.trans (r_orany hw.1 hw.2.1 (by omega) (by omega))⟩⟩ | (exfalso; omega)⟩
              · refine z_iconst (pc := 80) (v := 1) dX4_condHolds_80 rfl ?_
                refine z_goto (pc := 81) (tgt := 85) dX4_condHolds_81 (by decide) ?_
                refine z_zret (pc := 85) rfl (by decide) dX4_condHolds_85 ?_
                exact hQ 1 h106 ⟨frh106, ff29h106, by first | exact ⟨by omega, Or.inl ⟨_, _, th106, hr⟩⟩ | exact ⟨by omega, Or.inr ⟨_, g, th106, gb.1, by omega, gd, by omega, hr⟩⟩ | exact ⟨by omega, Or.inr ⟨_, bin 9 y g, th106, gb.1, by rw [bin_9 gy gd]; (repeat (first | rw [if_pos (by omega)] | rw [if_neg (by omega)])); first | done | omega, QG.bin gy.2 gd.2 (by decide), by omega, hr.trans (r_orany hw.1 hw.2.1 (by omega) (by omega))⟩⟩ | (exfalso; omega)⟩
    exact J11 _ 0 v1 0 h2 (by omega) (by omega) (by first | exact Or.inl ⟨_, _, th2, by omega, gea, gda, rfl, hra⟩ | exact Or.inr (Or.inr ⟨_, _, th2, hra⟩)) (frh2) (ff29h2) (Nat.lt_succ_self _)

theorem ct_X4_condHolds_TF : Ct (kX4_condHolds 5) yX4_condHolds (fun a hi Q => ∃ o : Int, ∃ S : Nat → Int, ∃ P : Nat → Int, ∃ V : Nat → Int, ∃ m : Nat, ∃ k : Int, ∃ p : Int, a = [AR 36, AI o] ∧ ((TF hi S P V m k p) ∧ True) ∧ ∀ (v : Int) (h2 : HI), (Fr [29] hi h2 ∧ FF 29 [6, 7, 8] hi h2 ∧ ((v = 0 ∨ v = 1) ∧ TF h2 S P V m k p)) → Q (AI v) h2) := by
  refine Ct.of (ws' := _) (by decide +kernel) rfl rfl ?_
  intro a hi Q hT
  obtain ⟨o, S, P, V, m, k, p, rfl, hpre, hQ⟩ := hT
  refine ⟨Nat.le_of_ble_eq_true rfl, ?_⟩
  show Z (kX4_condHolds 5) Q 0 [(0, AR 36), (1, AI o)] [] hi
  have t0 := hpre.1
  refine z_iconst (pc := 0) (v := 0) dX4_condHolds_0 rfl ?_
  refine z_istore_n (pc := 1) (lv' := [(2, AI 0), (0, AR 36), (1, AI o)]) dX4_condHolds_1 rfl (by show _ < 5; decide) rfl ?_
  refine z_aload_n (pc := 2) (x := 36) dX4_condHolds_2 rfl 1 rfl ?_
  refine z_iload_n (pc := 3) dX4_condHolds_3 rfl 2 rfl ?_
  refine z_callV (pc := 4) (kc := (kX4_factHolds 5)) (n := 1) (pl := 35) (ci := 4) (C := RX4) (As := [AI o]) (stk := []) ct_X4_factHolds_TF (gdV rfl rfl (iw32 _ (List.mem_of_getElem? (i := 13) rfl)) (iw32 _ (List.mem_of_getElem? (i := 14) rfl)) (iw32 _ (List.mem_of_getElem? (i := 15) rfl)) (iw2 _ (List.mem_of_getElem? (i := 12) rfl)) (iw32 _ (List.mem_of_getElem? (i := 17) rfl))) rfl ⟨rfl, rfl⟩ (by decide +kernel) ⟨by decide, by decide⟩ (by decide) rfl rfl dX4_condHolds_4 rfl rfl (Nat.le_of_ble_eq_true rfl) ?_
  refine ⟨_, S, P, V, m, k, p, rfl, ⟨t0, trivial⟩, fun v1 h2 eh2 => ?_⟩
  have frh2 : Fr [29] hi h2 := (Fr.call (Fr.rf) eh2.1 (by decide))
  have ff29h2 : FF 29 [6, 7, 8] hi h2 := FF.call (FF.rf) (eh2.2.1) (by decide)
  have eph2 := eh2.2.2
  replace eh2 := And.intro eh2.1 (And.intro eh2.2.1 trivial)
  obtain ⟨tbh2, th2⟩ := eph2
  refine z_istore_n (pc := 7) (lv' := [(3, AI v1), (2, AI 0), (0, AR 36), (1, AI o)]) dX4_condHolds_7 rfl (by show _ < 5; decide) rfl ?_
  refine z_iconst (pc := 8) (v := 0) dX4_condHolds_8 rfl ?_
  refine z_istore (pc := 9) (lv' := [(4, AI 0), (3, AI v1), (2, AI 0), (0, AR 36), (1, AI o)]) dX4_condHolds_9 (by show _ < 5; decide) rfl ?_
  have J11 : ∀ (N : Nat) (any all i : Int) (hk : HI), ((any = 0 ∨ any = 1) ∧ (all = 0 ∨ all = 1)) → (0 ≤ i ∧ i ≤ 600) → (TF hk S P V m k p) → (Fr [29] hi hk) → (FF 29 [6, 7, 8] hi hk) → ((600 - i).toNat) < N → Z (kX4_condHolds 5) Q 11 [(4, AI i), (3, AI all), (2, AI any), (0, AR 36), (1, AI o)] [] hk := by
    intro N
    induction N with
    | zero => intro any all i hk _ _ _ _ _ _; exact absurd (by assumption) (Nat.not_lt_zero _)
    | succ N ih11 =>
      intro any all i hk b0 i0 i1 frlhk ffl29hk hm11
      refine z_iload (pc := 11) dX4_condHolds_11 0 rfl ?_
      refine z_sipush (pc := 13) (v := 600) dX4_condHolds_13 (by decide +kernel) ?_
      refine z_icmp_ge (pc := 16) (tgt := 72) dX4_condHolds_16 (by decide) ⟨by omega, by omega⟩ ⟨by decide, by decide⟩ (fun c3 => ?_) (fun c3 => ?_)
      · refine z_iload_n (pc := 72) dX4_condHolds_72 rfl 2 rfl ?_
        refine z_if_ne (pc := 73) (tgt := 80) dX4_condHolds_73 (by decide) ⟨by omega, by omega⟩ (fun c4 => ?_) (fun c4 => ?_)
        · refine z_iconst (pc := 80) (v := 1) dX4_condHolds_80 rfl ?_
          refine z_goto (pc := 81) (tgt := 85) dX4_condHolds_81 (by decide) ?_
          refine z_zret (pc := 85) rfl (by decide) dX4_condHolds_85 ?_
          exact hQ 1 hk ⟨frlhk, ffl29hk, ⟨by omega, i1⟩⟩
        · refine z_iload_n (pc := 76) dX4_condHolds_76 rfl 1 rfl ?_
          refine z_if_eq (pc := 77) (tgt := 84) dX4_condHolds_77 (by decide) ⟨by omega, by omega⟩ (fun c5 => ?_) (fun c5 => ?_)
          · refine z_iconst (pc := 84) (v := 0) dX4_condHolds_84 rfl ?_
            refine z_zret (pc := 85) rfl (by decide) dX4_condHolds_85 ?_
            exact hQ 0 hk ⟨frlhk, ffl29hk, ⟨by omega, i1⟩⟩
          · refine z_iconst (pc := 80) (v := 1) dX4_condHolds_80 rfl ?_
            refine z_goto (pc := 81) (tgt := 85) dX4_condHolds_81 (by decide) ?_
            refine z_zret (pc := 85) rfl (by decide) dX4_condHolds_85 ?_
            exact hQ 1 hk ⟨frlhk, ffl29hk, ⟨by omega, i1⟩⟩
      · refine z_aload_n (pc := 19) (x := 36) dX4_condHolds_19 rfl 3 rfl ?_
        refine z_getR (pc := 20) (pl := 35) (f := 0) (ci := 4) (C := RX4) (T := TX4) (N := 5) hu_X4 (by decide) rfl rfl (by decide) rfl (List.mem_cons_of_mem _ (iw4 _ (List.mem_of_getElem? (i := 19) rfl))) rfl dX4_condHolds_20 ?_
        refine z_getstE (pc := 23) (i := 28) (z := 28) (by decide) rfl (List.mem_cons_of_mem _ (iw32 _ (List.mem_of_getElem? (i := 11) rfl))) dX4_condHolds_23 ?_
        refine z_callV (pc := 26) (kc := kX6_takes) (n := 1) (pl := 29) (ci := 5) (C := RX6) (As := [AR (ec 28)]) (stk := []) ct_X6_takes_TF (gdV rfl rfl (iw32 _ (List.mem_of_getElem? (i := 16) rfl)) (iw23 _ (List.mem_of_getElem? (i := 0) rfl)) (iw23 _ (List.mem_of_getElem? (i := 1) rfl)) (iw2 _ (List.mem_of_getElem? (i := 4) rfl)) (iw23 _ (List.mem_of_getElem? (i := 2) rfl))) rfl ⟨rfl, rfl⟩ (by decide +kernel) ⟨by decide, by decide⟩ (by decide) rfl rfl dX4_condHolds_26 rfl rfl (Nat.le_of_ble_eq_true rfl) ?_
        refine ⟨_, S, P, V, m, k, p, rfl, ⟨i1, by decide, by decide⟩, fun v6 h7 eh7 => ?_⟩
        have frh7 : Fr [29] hi h7 := (Fr.call frlhk eh7.1 (by decide))
        have ff29h7 : FF 29 [6, 7, 8] hi h7 := FF.call ffl29hk (eh7.2.1) (by decide)
        have eph7 := eh7.2.2
        replace eh7 := And.intro eh7.1 (And.intro eh7.2.1 trivial)
        obtain ⟨rfl, th7⟩ := eph7
        refine z_if_eq (pc := 29) (tgt := 43) dX4_condHolds_29 (by decide) ⟨by decide, by decide⟩ (fun _ => ?_) (fun q => absurd q (by decide))
        refine z_aload_n (pc := 43) (x := 36) dX4_condHolds_43 rfl 3 rfl ?_
        refine z_getR (pc := 44) (pl := 35) (f := 0) (ci := 4) (C := RX4) (T := TX4) (N := 5) hu_X4 (by decide) rfl rfl (by decide) rfl (List.mem_cons_of_mem _ (iw4 _ (List.mem_of_getElem? (i := 19) rfl))) rfl dX4_condHolds_44 ?_
        refine z_getstE (pc := 47) (i := 27) (z := 27) (by decide) rfl (List.mem_cons_of_mem _ (iw32 _ (List.mem_of_getElem? (i := 12) rfl))) dX4_condHolds_47 ?_
        refine z_callV (pc := 50) (kc := kX6_takes) (n := 1) (pl := 29) (ci := 5) (C := RX6) (As := [AR (ec 27)]) (stk := []) ct_X6_takes_TF (gdV rfl rfl (iw32 _ (List.mem_of_getElem? (i := 16) rfl)) (iw23 _ (List.mem_of_getElem? (i := 0) rfl)) (iw23 _ (List.mem_of_getElem? (i := 1) rfl)) (iw2 _ (List.mem_of_getElem? (i := 4) rfl)) (iw23 _ (List.mem_of_getElem? (i := 2) rfl))) rfl ⟨rfl, rfl⟩ (by decide +kernel) ⟨by decide, by decide⟩ (by decide) rfl rfl dX4_condHolds_50 rfl rfl (Nat.le_of_ble_eq_true rfl) ?_
        refine ⟨_, S, P, V, m, k, p, rfl, ⟨th7, by decide, by decide⟩, fun v8 h9 eh9 => ?_⟩
        have frh9 : Fr [29] hi h9 := (Fr.call frh7 eh9.1 (by decide))
        have ff29h9 : FF 29 [6, 7, 8] hi h9 := FF.call ff29h7 (eh9.2.1) (by decide)
        have eph9 := eh9.2.2
        replace eh9 := And.intro eh9.1 (And.intro eh9.2.1 trivial)
        obtain ⟨rfl, th9⟩ := eph9
        refine z_if_eq (pc := 53) (tgt := 72) dX4_condHolds_53 (by decide) ⟨by decide, by decide⟩ (fun _ => ?_) (fun q => absurd q (by decide))
        refine z_iload_n (pc := 72) dX4_condHolds_72 rfl 2 rfl ?_
        refine z_if_ne (pc := 73) (tgt := 80) dX4_condHolds_73 (by decide) ⟨by omega, by omega⟩ (fun c10 => ?_) (fun c10 => ?_)
        · refine z_iconst (pc := 80) (v := 1) dX4_condHolds_80 rfl ?_
          refine z_goto (pc := 81) (tgt := 85) dX4_condHolds_81 (by decide) ?_
          refine z_zret (pc := 85) rfl (by decide) dX4_condHolds_85 ?_
          exact hQ 1 h9 ⟨frh9, ff29h9, ⟨by omega, th9⟩⟩
        · refine z_iload_n (pc := 76) dX4_condHolds_76 rfl 1 rfl ?_
          refine z_if_eq (pc := 77) (tgt := 84) dX4_condHolds_77 (by decide) ⟨by omega, by omega⟩ (fun c11 => ?_) (fun c11 => ?_)
          · refine z_iconst (pc := 84) (v := 0) dX4_condHolds_84 rfl ?_
            refine z_zret (pc := 85) rfl (by decide) dX4_condHolds_85 ?_
            exact hQ 0 h9 ⟨frh9, ff29h9, ⟨by omega, th9⟩⟩
          · refine z_iconst (pc := 80) (v := 1) dX4_condHolds_80 rfl ?_
            refine z_goto (pc := 81) (tgt := 85) dX4_condHolds_81 (by decide) ?_
            refine z_zret (pc := 85) rfl (by decide) dX4_condHolds_85 ?_
            exact hQ 1 h9 ⟨frh9, ff29h9, ⟨by omega, th9⟩⟩
  exact J11 _ 0 v1 0 h2 (⟨Or.inl rfl, by omega⟩) (by omega) (th2) (frh2) (ff29h2) (Nat.lt_succ_self _)
